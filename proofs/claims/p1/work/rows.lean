section
-- ===== PART A: goes FIRST, ahead of the names: the tables' words, and 'selects' of the private methods out of them =====
/-- a private method of a class that the tables say can be made, by its rows of tables_1 -/
def lw_okq (q : MethodName × Nat) : Prop := (q.1.cls ≠ "java/lang/invoke/MethodHandle" ∧ q.1.cls ≠ "java/lang/invoke/VarHandle") ∧ Cond.instantiable q.1.cls q.2 ∈ tables_1 ∧ Cond.privateMethod q.1 ∈ tables_1 ∧ Cond.instanceMethod q.1 ∈ tables_1
theorem lw_p0 : lw_okq (⟨"ClapBank$Reader", "step", "([BI)V"⟩, 10) := ⟨⟨by decide +kernel, by decide +kernel⟩, List.mem_of_getElem? (i := 185) (by decide +kernel), List.mem_of_getElem? (i := 425) (by decide +kernel), List.mem_of_getElem? (i := 426) (by decide +kernel)⟩
theorem lw_p1 : lw_okq (⟨"ClapBank$Reader", "readLine", "([BII)Z"⟩, 10) := ⟨⟨by decide +kernel, by decide +kernel⟩, List.mem_of_getElem? (i := 185) (by decide +kernel), List.mem_of_getElem? (i := 438) (by decide +kernel), List.mem_of_getElem? (i := 439) (by decide +kernel)⟩
theorem lw_p2 : lw_okq (⟨"ClapBank$Reader", "kindOf", "([BI)I"⟩, 10) := ⟨⟨by decide +kernel, by decide +kernel⟩, List.mem_of_getElem? (i := 185) (by decide +kernel), List.mem_of_getElem? (i := 442) (by decide +kernel), List.mem_of_getElem? (i := 443) (by decide +kernel)⟩
theorem lw_p3 : lw_okq (⟨"ClapBank$Reader", "spells", "([BLjava/lang/String;)Z"⟩, 10) := ⟨⟨by decide +kernel, by decide +kernel⟩, List.mem_of_getElem? (i := 185) (by decide +kernel), List.mem_of_getElem? (i := 465) (by decide +kernel), List.mem_of_getElem? (i := 466) (by decide +kernel)⟩
theorem lw_p4 : lw_okq (⟨"ClapBank$Reader", "refuse", "()Z"⟩, 10) := ⟨⟨by decide +kernel, by decide +kernel⟩, List.mem_of_getElem? (i := 185) (by decide +kernel), List.mem_of_getElem? (i := 517) (by decide +kernel), List.mem_of_getElem? (i := 518) (by decide +kernel)⟩
theorem lw_p5 : lw_okq (⟨"ClapBank$Reader", "isFull", "(I)Z"⟩, 10) := ⟨⟨by decide +kernel, by decide +kernel⟩, List.mem_of_getElem? (i := 185) (by decide +kernel), List.mem_of_getElem? (i := 521) (by decide +kernel), List.mem_of_getElem? (i := 522) (by decide +kernel)⟩
theorem lw_p6 : lw_okq (⟨"ClapBank$Reader", "note", "(I)V"⟩, 10) := ⟨⟨by decide +kernel, by decide +kernel⟩, List.mem_of_getElem? (i := 185) (by decide +kernel), List.mem_of_getElem? (i := 525) (by decide +kernel), List.mem_of_getElem? (i := 526) (by decide +kernel)⟩
theorem lw_p7 : lw_okq (⟨"ClapBank$Reader", "cannotBe", "(II)Z"⟩, 10) := ⟨⟨by decide +kernel, by decide +kernel⟩, List.mem_of_getElem? (i := 185) (by decide +kernel), List.mem_of_getElem? (i := 534) (by decide +kernel), List.mem_of_getElem? (i := 535) (by decide +kernel)⟩
theorem lw_p8 : lw_okq (⟨"ClapBank$Reader", "keepLine", "(I)V"⟩, 10) := ⟨⟨by decide +kernel, by decide +kernel⟩, List.mem_of_getElem? (i := 185) (by decide +kernel), List.mem_of_getElem? (i := 542) (by decide +kernel), List.mem_of_getElem? (i := 543) (by decide +kernel)⟩
theorem lw_p9 : lw_okq (⟨"ClapBank$Theatre", "tellWhole", "(I)I"⟩, 12) := ⟨⟨by decide +kernel, by decide +kernel⟩, List.mem_of_getElem? (i := 35) (by decide +kernel), List.mem_of_getElem? (i := 606) (by decide +kernel), List.mem_of_getElem? (i := 607) (by decide +kernel)⟩
theorem lw_p10 : lw_okq (⟨"ClapBank$Evening", "begin", "(LClapBank$Theatre;)V"⟩, 14) := ⟨⟨by decide +kernel, by decide +kernel⟩, List.mem_of_getElem? (i := 233) (by decide +kernel), List.mem_of_getElem? (i := 630) (by decide +kernel), List.mem_of_getElem? (i := 631) (by decide +kernel)⟩
theorem lw_p11 : lw_okq (⟨"ClapBank$Evening", "canBe", "(LClapBank$Book;I)Z"⟩, 14) := ⟨⟨by decide +kernel, by decide +kernel⟩, List.mem_of_getElem? (i := 233) (by decide +kernel), List.mem_of_getElem? (i := 636) (by decide +kernel), List.mem_of_getElem? (i := 637) (by decide +kernel)⟩
theorem lw_p12 : lw_okq (⟨"ClapBank$Evening", "canGive", "(II)Z"⟩, 14) := ⟨⟨by decide +kernel, by decide +kernel⟩, List.mem_of_getElem? (i := 233) (by decide +kernel), List.mem_of_getElem? (i := 641) (by decide +kernel), List.mem_of_getElem? (i := 642) (by decide +kernel)⟩
theorem lw_p13 : lw_okq (⟨"ClapBank$Evening", "act", "(LClapBank$Book;I)V"⟩, 14) := ⟨⟨by decide +kernel, by decide +kernel⟩, List.mem_of_getElem? (i := 233) (by decide +kernel), List.mem_of_getElem? (i := 661) (by decide +kernel), List.mem_of_getElem? (i := 662) (by decide +kernel)⟩
theorem lw_p14 : lw_okq (⟨"ClapBank$Evening", "clapFor", "(III)V"⟩, 14) := ⟨⟨by decide +kernel, by decide +kernel⟩, List.mem_of_getElem? (i := 233) (by decide +kernel), List.mem_of_getElem? (i := 665) (by decide +kernel), List.mem_of_getElem? (i := 666) (by decide +kernel)⟩
theorem lw_p15 : lw_okq (⟨"ClapBank$Evening", "give", "(II)V"⟩, 14) := ⟨⟨by decide +kernel, by decide +kernel⟩, List.mem_of_getElem? (i := 233) (by decide +kernel), List.mem_of_getElem? (i := 669) (by decide +kernel), List.mem_of_getElem? (i := 670) (by decide +kernel)⟩
def lw_privs_1 : List (MethodName × Nat) := [(⟨"ClapBank$Reader", "step", "([BI)V"⟩, 10), (⟨"ClapBank$Reader", "readLine", "([BII)Z"⟩, 10), (⟨"ClapBank$Reader", "kindOf", "([BI)I"⟩, 10), (⟨"ClapBank$Reader", "spells", "([BLjava/lang/String;)Z"⟩, 10), (⟨"ClapBank$Reader", "refuse", "()Z"⟩, 10), (⟨"ClapBank$Reader", "isFull", "(I)Z"⟩, 10), (⟨"ClapBank$Reader", "note", "(I)V"⟩, 10), (⟨"ClapBank$Reader", "cannotBe", "(II)Z"⟩, 10), (⟨"ClapBank$Reader", "keepLine", "(I)V"⟩, 10), (⟨"ClapBank$Theatre", "tellWhole", "(I)I"⟩, 12), (⟨"ClapBank$Evening", "begin", "(LClapBank$Theatre;)V"⟩, 14), (⟨"ClapBank$Evening", "canBe", "(LClapBank$Book;I)Z"⟩, 14), (⟨"ClapBank$Evening", "canGive", "(II)Z"⟩, 14), (⟨"ClapBank$Evening", "act", "(LClapBank$Book;I)V"⟩, 14), (⟨"ClapBank$Evening", "clapFor", "(III)V"⟩, 14), (⟨"ClapBank$Evening", "give", "(II)V"⟩, 14)]
theorem lw_r1 : ∀ q ∈ lw_privs_1, lw_okq q := List.forall_mem_cons.mpr ⟨lw_p0, List.forall_mem_cons.mpr ⟨lw_p1, List.forall_mem_cons.mpr ⟨lw_p2, List.forall_mem_cons.mpr ⟨lw_p3, List.forall_mem_cons.mpr ⟨lw_p4, List.forall_mem_cons.mpr ⟨lw_p5, List.forall_mem_cons.mpr ⟨lw_p6, List.forall_mem_cons.mpr ⟨lw_p7, List.forall_mem_cons.mpr ⟨lw_p8, List.forall_mem_cons.mpr ⟨lw_p9, List.forall_mem_cons.mpr ⟨lw_p10, List.forall_mem_cons.mpr ⟨lw_p11, List.forall_mem_cons.mpr ⟨lw_p12, List.forall_mem_cons.mpr ⟨lw_p13, List.forall_mem_cons.mpr ⟨lw_p14, List.forall_mem_cons.mpr ⟨lw_p15, fun _ h => absurd h List.not_mem_nil⟩⟩⟩⟩⟩⟩⟩⟩⟩⟩⟩⟩⟩⟩⟩⟩
theorem lw_p16 : lw_okq (⟨"ClapBank$Evening", "move", "(III)V"⟩, 14) := ⟨⟨by decide +kernel, by decide +kernel⟩, List.mem_of_getElem? (i := 233) (by decide +kernel), List.mem_of_getElem? (i := 673) (by decide +kernel), List.mem_of_getElem? (i := 674) (by decide +kernel)⟩
theorem lw_p17 : lw_okq (⟨"ClapBank$Evening", "passNight", "()V"⟩, 14) := ⟨⟨by decide +kernel, by decide +kernel⟩, List.mem_of_getElem? (i := 233) (by decide +kernel), List.mem_of_getElem? (i := 677) (by decide +kernel), List.mem_of_getElem? (i := 678) (by decide +kernel)⟩
theorem lw_p18 : lw_okq (⟨"ClapBank$Evening", "dine", "(I)V"⟩, 14) := ⟨⟨by decide +kernel, by decide +kernel⟩, List.mem_of_getElem? (i := 233) (by decide +kernel), List.mem_of_getElem? (i := 681) (by decide +kernel), List.mem_of_getElem? (i := 682) (by decide +kernel)⟩
theorem lw_p19 : lw_okq (⟨"ClapBank$Evening", "priceBehind", "(II)I"⟩, 14) := ⟨⟨by decide +kernel, by decide +kernel⟩, List.mem_of_getElem? (i := 233) (by decide +kernel), List.mem_of_getElem? (i := 689) (by decide +kernel), List.mem_of_getElem? (i := 690) (by decide +kernel)⟩
theorem lw_p20 : lw_okq (⟨"ClapBank$Evening", "grown", "(I)I"⟩, 14) := ⟨⟨by decide +kernel, by decide +kernel⟩, List.mem_of_getElem? (i := 233) (by decide +kernel), List.mem_of_getElem? (i := 693) (by decide +kernel), List.mem_of_getElem? (i := 694) (by decide +kernel)⟩
theorem lw_p21 : lw_okq (⟨"ClapBank", "reach", "(III)Z"⟩, 7) := ⟨⟨by decide +kernel, by decide +kernel⟩, List.mem_of_getElem? (i := 21) (by decide +kernel), List.mem_of_getElem? (i := 706) (by decide +kernel), List.mem_of_getElem? (i := 707) (by decide +kernel)⟩
theorem lw_p22 : lw_okq (⟨"ClapBank$Evening", "allSaved", "()I"⟩, 14) := ⟨⟨by decide +kernel, by decide +kernel⟩, List.mem_of_getElem? (i := 233) (by decide +kernel), List.mem_of_getElem? (i := 722) (by decide +kernel), List.mem_of_getElem? (i := 723) (by decide +kernel)⟩
theorem lw_p23 : lw_okq (⟨"ClapBank$Evening", "friday", "(I)I"⟩, 14) := ⟨⟨by decide +kernel, by decide +kernel⟩, List.mem_of_getElem? (i := 233) (by decide +kernel), List.mem_of_getElem? (i := 749) (by decide +kernel), List.mem_of_getElem? (i := 750) (by decide +kernel)⟩
theorem lw_p24 : lw_okq (⟨"ClapBank$Evening", "star", "(I)I"⟩, 14) := ⟨⟨by decide +kernel, by decide +kernel⟩, List.mem_of_getElem? (i := 233) (by decide +kernel), List.mem_of_getElem? (i := 753) (by decide +kernel), List.mem_of_getElem? (i := 754) (by decide +kernel)⟩
theorem lw_p25 : lw_okq (⟨"ClapBank$Evening", "pricesOf", "(I)I"⟩, 14) := ⟨⟨by decide +kernel, by decide +kernel⟩, List.mem_of_getElem? (i := 233) (by decide +kernel), List.mem_of_getElem? (i := 770) (by decide +kernel), List.mem_of_getElem? (i := 771) (by decide +kernel)⟩
theorem lw_p26 : lw_okq (⟨"ClapBank$Evening", "dearerThan", "(I)I"⟩, 14) := ⟨⟨by decide +kernel, by decide +kernel⟩, List.mem_of_getElem? (i := 233) (by decide +kernel), List.mem_of_getElem? (i := 774) (by decide +kernel), List.mem_of_getElem? (i := 775) (by decide +kernel)⟩
theorem lw_p27 : lw_okq (⟨"ClapBank$Feast", "tryGuests", "(LClapBank$Evening;III)V"⟩, 3) := ⟨⟨by decide +kernel, by decide +kernel⟩, List.mem_of_getElem? (i := 288) (by decide +kernel), List.mem_of_getElem? (i := 788) (by decide +kernel), List.mem_of_getElem? (i := 789) (by decide +kernel)⟩
theorem lw_p28 : lw_okq (⟨"ClapBank$Feast", "isBetter", "(III)Z"⟩, 3) := ⟨⟨by decide +kernel, by decide +kernel⟩, List.mem_of_getElem? (i := 288) (by decide +kernel), List.mem_of_getElem? (i := 794) (by decide +kernel), List.mem_of_getElem? (i := 795) (by decide +kernel)⟩
theorem lw_p29 : lw_okq (⟨"ClapBank", "lendFor", "(III)Z"⟩, 7) := ⟨⟨by decide +kernel, by decide +kernel⟩, List.mem_of_getElem? (i := 21) (by decide +kernel), List.mem_of_getElem? (i := 827) (by decide +kernel), List.mem_of_getElem? (i := 828) (by decide +kernel)⟩
theorem lw_p30 : lw_okq (⟨"ClapBank$Rounds", "cheapest", "()I"⟩, 7) := ⟨⟨by decide +kernel, by decide +kernel⟩, List.mem_of_getElem? (i := 304) (by decide +kernel), List.mem_of_getElem? (i := 841) (by decide +kernel), List.mem_of_getElem? (i := 842) (by decide +kernel)⟩
theorem lw_p31 : lw_okq (⟨"ClapBank$Rounds", "allAsks", "()I"⟩, 7) := ⟨⟨by decide +kernel, by decide +kernel⟩, List.mem_of_getElem? (i := 304) (by decide +kernel), List.mem_of_getElem? (i := 860) (by decide +kernel), List.mem_of_getElem? (i := 861) (by decide +kernel)⟩
def lw_privs_2 : List (MethodName × Nat) := [(⟨"ClapBank$Evening", "move", "(III)V"⟩, 14), (⟨"ClapBank$Evening", "passNight", "()V"⟩, 14), (⟨"ClapBank$Evening", "dine", "(I)V"⟩, 14), (⟨"ClapBank$Evening", "priceBehind", "(II)I"⟩, 14), (⟨"ClapBank$Evening", "grown", "(I)I"⟩, 14), (⟨"ClapBank", "reach", "(III)Z"⟩, 7), (⟨"ClapBank$Evening", "allSaved", "()I"⟩, 14), (⟨"ClapBank$Evening", "friday", "(I)I"⟩, 14), (⟨"ClapBank$Evening", "star", "(I)I"⟩, 14), (⟨"ClapBank$Evening", "pricesOf", "(I)I"⟩, 14), (⟨"ClapBank$Evening", "dearerThan", "(I)I"⟩, 14), (⟨"ClapBank$Feast", "tryGuests", "(LClapBank$Evening;III)V"⟩, 3), (⟨"ClapBank$Feast", "isBetter", "(III)Z"⟩, 3), (⟨"ClapBank", "lendFor", "(III)Z"⟩, 7), (⟨"ClapBank$Rounds", "cheapest", "()I"⟩, 7), (⟨"ClapBank$Rounds", "allAsks", "()I"⟩, 7)]
theorem lw_r2 : ∀ q ∈ lw_privs_2, lw_okq q := List.forall_mem_cons.mpr ⟨lw_p16, List.forall_mem_cons.mpr ⟨lw_p17, List.forall_mem_cons.mpr ⟨lw_p18, List.forall_mem_cons.mpr ⟨lw_p19, List.forall_mem_cons.mpr ⟨lw_p20, List.forall_mem_cons.mpr ⟨lw_p21, List.forall_mem_cons.mpr ⟨lw_p22, List.forall_mem_cons.mpr ⟨lw_p23, List.forall_mem_cons.mpr ⟨lw_p24, List.forall_mem_cons.mpr ⟨lw_p25, List.forall_mem_cons.mpr ⟨lw_p26, List.forall_mem_cons.mpr ⟨lw_p27, List.forall_mem_cons.mpr ⟨lw_p28, List.forall_mem_cons.mpr ⟨lw_p29, List.forall_mem_cons.mpr ⟨lw_p30, List.forall_mem_cons.mpr ⟨lw_p31, fun _ h => absurd h List.not_mem_nil⟩⟩⟩⟩⟩⟩⟩⟩⟩⟩⟩⟩⟩⟩⟩⟩
theorem lw_p32 : lw_okq (⟨"ClapBank$Hearing", "fill", "([IIIII)V"⟩, 9) := ⟨⟨by decide +kernel, by decide +kernel⟩, List.mem_of_getElem? (i := 335) (by decide +kernel), List.mem_of_getElem? (i := 891) (by decide +kernel), List.mem_of_getElem? (i := 892) (by decide +kernel)⟩
theorem lw_p33 : lw_okq (⟨"ClapBank$Hearing", "spread", "([IIII)V"⟩, 9) := ⟨⟨by decide +kernel, by decide +kernel⟩, List.mem_of_getElem? (i := 335) (by decide +kernel), List.mem_of_getElem? (i := 896) (by decide +kernel), List.mem_of_getElem? (i := 897) (by decide +kernel)⟩
theorem lw_p34 : lw_okq (⟨"ClapBank$Hearing", "roomBehind", "(I)I"⟩, 9) := ⟨⟨by decide +kernel, by decide +kernel⟩, List.mem_of_getElem? (i := 335) (by decide +kernel), List.mem_of_getElem? (i := 903) (by decide +kernel), List.mem_of_getElem? (i := 904) (by decide +kernel)⟩
theorem lw_p35 : lw_okq (⟨"ClapBank$Evening", "eatsWith", "(II)Z"⟩, 14) := ⟨⟨by decide +kernel, by decide +kernel⟩, List.mem_of_getElem? (i := 233) (by decide +kernel), List.mem_of_getElem? (i := 942) (by decide +kernel), List.mem_of_getElem? (i := 943) (by decide +kernel)⟩
theorem lw_p36 : lw_okq (⟨"ClapBankModel", "four", "(I)V"⟩, 50) := ⟨⟨by decide +kernel, by decide +kernel⟩, List.mem_of_getElem? (i := 981) (by decide +kernel), List.mem_of_getElem? (i := 1145) (by decide +kernel), List.mem_of_getElem? (i := 1146) (by decide +kernel)⟩
theorem lw_p37 : lw_okq (⟨"ClapBankModel", "is", "(II)Z"⟩, 50) := ⟨⟨by decide +kernel, by decide +kernel⟩, List.mem_of_getElem? (i := 981) (by decide +kernel), List.mem_of_getElem? (i := 1160) (by decide +kernel), List.mem_of_getElem? (i := 1161) (by decide +kernel)⟩
theorem lw_p38 : lw_okq (⟨"ClapBankModel", "readText", "(I)Z"⟩, 50) := ⟨⟨by decide +kernel, by decide +kernel⟩, List.mem_of_getElem? (i := 981) (by decide +kernel), List.mem_of_getElem? (i := 1164) (by decide +kernel), List.mem_of_getElem? (i := 1165) (by decide +kernel)⟩
theorem lw_p39 : lw_okq (⟨"ClapBankModel", "token", "()V"⟩, 50) := ⟨⟨by decide +kernel, by decide +kernel⟩, List.mem_of_getElem? (i := 981) (by decide +kernel), List.mem_of_getElem? (i := 1168) (by decide +kernel), List.mem_of_getElem? (i := 1169) (by decide +kernel)⟩
theorem lw_p40 : lw_okq (⟨"ClapBankModel", "see", "()I"⟩, 50) := ⟨⟨by decide +kernel, by decide +kernel⟩, List.mem_of_getElem? (i := 981) (by decide +kernel), List.mem_of_getElem? (i := 1172) (by decide +kernel), List.mem_of_getElem? (i := 1173) (by decide +kernel)⟩
theorem lw_p41 : lw_okq (⟨"ClapBankModel", "lines", "(I)Z"⟩, 50) := ⟨⟨by decide +kernel, by decide +kernel⟩, List.mem_of_getElem? (i := 981) (by decide +kernel), List.mem_of_getElem? (i := 1176) (by decide +kernel), List.mem_of_getElem? (i := 1177) (by decide +kernel)⟩
theorem lw_p42 : lw_okq (⟨"ClapBankModel", "theatreLine", "(JI)Z"⟩, 50) := ⟨⟨by decide +kernel, by decide +kernel⟩, List.mem_of_getElem? (i := 981) (by decide +kernel), List.mem_of_getElem? (i := 1180) (by decide +kernel), List.mem_of_getElem? (i := 1181) (by decide +kernel)⟩
theorem lw_p43 : lw_okq (⟨"ClapBankModel", "fails", "()Z"⟩, 50) := ⟨⟨by decide +kernel, by decide +kernel⟩, List.mem_of_getElem? (i := 981) (by decide +kernel), List.mem_of_getElem? (i := 1190) (by decide +kernel), List.mem_of_getElem? (i := 1191) (by decide +kernel)⟩
theorem lw_p44 : lw_okq (⟨"ClapBankModel", "full", "(III)V"⟩, 50) := ⟨⟨by decide +kernel, by decide +kernel⟩, List.mem_of_getElem? (i := 981) (by decide +kernel), List.mem_of_getElem? (i := 1194) (by decide +kernel), List.mem_of_getElem? (i := 1195) (by decide +kernel)⟩
theorem lw_p45 : lw_okq (⟨"ClapBankModel", "later", "(II)V"⟩, 50) := ⟨⟨by decide +kernel, by decide +kernel⟩, List.mem_of_getElem? (i := 981) (by decide +kernel), List.mem_of_getElem? (i := 1198) (by decide +kernel), List.mem_of_getElem? (i := 1199) (by decide +kernel)⟩
theorem lw_p46 : lw_okq (⟨"ClapBankModel", "take", "(III)Z"⟩, 50) := ⟨⟨by decide +kernel, by decide +kernel⟩, List.mem_of_getElem? (i := 981) (by decide +kernel), List.mem_of_getElem? (i := 1202) (by decide +kernel), List.mem_of_getElem? (i := 1203) (by decide +kernel)⟩
theorem lw_p47 : lw_okq (⟨"ClapBankModel", "takeBut", "(IIII)Z"⟩, 50) := ⟨⟨by decide +kernel, by decide +kernel⟩, List.mem_of_getElem? (i := 981) (by decide +kernel), List.mem_of_getElem? (i := 1206) (by decide +kernel), List.mem_of_getElem? (i := 1207) (by decide +kernel)⟩
def lw_privs_3 : List (MethodName × Nat) := [(⟨"ClapBank$Hearing", "fill", "([IIIII)V"⟩, 9), (⟨"ClapBank$Hearing", "spread", "([IIII)V"⟩, 9), (⟨"ClapBank$Hearing", "roomBehind", "(I)I"⟩, 9), (⟨"ClapBank$Evening", "eatsWith", "(II)Z"⟩, 14), (⟨"ClapBankModel", "four", "(I)V"⟩, 50), (⟨"ClapBankModel", "is", "(II)Z"⟩, 50), (⟨"ClapBankModel", "readText", "(I)Z"⟩, 50), (⟨"ClapBankModel", "token", "()V"⟩, 50), (⟨"ClapBankModel", "see", "()I"⟩, 50), (⟨"ClapBankModel", "lines", "(I)Z"⟩, 50), (⟨"ClapBankModel", "theatreLine", "(JI)Z"⟩, 50), (⟨"ClapBankModel", "fails", "()Z"⟩, 50), (⟨"ClapBankModel", "full", "(III)V"⟩, 50), (⟨"ClapBankModel", "later", "(II)V"⟩, 50), (⟨"ClapBankModel", "take", "(III)Z"⟩, 50), (⟨"ClapBankModel", "takeBut", "(IIII)Z"⟩, 50)]
theorem lw_r3 : ∀ q ∈ lw_privs_3, lw_okq q := List.forall_mem_cons.mpr ⟨lw_p32, List.forall_mem_cons.mpr ⟨lw_p33, List.forall_mem_cons.mpr ⟨lw_p34, List.forall_mem_cons.mpr ⟨lw_p35, List.forall_mem_cons.mpr ⟨lw_p36, List.forall_mem_cons.mpr ⟨lw_p37, List.forall_mem_cons.mpr ⟨lw_p38, List.forall_mem_cons.mpr ⟨lw_p39, List.forall_mem_cons.mpr ⟨lw_p40, List.forall_mem_cons.mpr ⟨lw_p41, List.forall_mem_cons.mpr ⟨lw_p42, List.forall_mem_cons.mpr ⟨lw_p43, List.forall_mem_cons.mpr ⟨lw_p44, List.forall_mem_cons.mpr ⟨lw_p45, List.forall_mem_cons.mpr ⟨lw_p46, List.forall_mem_cons.mpr ⟨lw_p47, fun _ h => absurd h List.not_mem_nil⟩⟩⟩⟩⟩⟩⟩⟩⟩⟩⟩⟩⟩⟩⟩⟩
theorem lw_p48 : lw_okq (⟨"ClapBankModel", "keep", "(IIII)V"⟩, 50) := ⟨⟨by decide +kernel, by decide +kernel⟩, List.mem_of_getElem? (i := 981) (by decide +kernel), List.mem_of_getElem? (i := 1210) (by decide +kernel), List.mem_of_getElem? (i := 1211) (by decide +kernel)⟩
theorem lw_p49 : lw_okq (⟨"ClapBankModel", "bookLine", "(JI)Z"⟩, 50) := ⟨⟨by decide +kernel, by decide +kernel⟩, List.mem_of_getElem? (i := 981) (by decide +kernel), List.mem_of_getElem? (i := 1217) (by decide +kernel), List.mem_of_getElem? (i := 1218) (by decide +kernel)⟩
theorem lw_p50 : lw_okq (⟨"ClapBankModel", "deedNumbers", "(I)Z"⟩, 50) := ⟨⟨by decide +kernel, by decide +kernel⟩, List.mem_of_getElem? (i := 981) (by decide +kernel), List.mem_of_getElem? (i := 1231) (by decide +kernel), List.mem_of_getElem? (i := 1232) (by decide +kernel)⟩
theorem lw_p51 : lw_okq (⟨"ClapBankModel", "darkLine", "(JI)Z"⟩, 50) := ⟨⟨by decide +kernel, by decide +kernel⟩, List.mem_of_getElem? (i := 981) (by decide +kernel), List.mem_of_getElem? (i := 1235) (by decide +kernel), List.mem_of_getElem? (i := 1236) (by decide +kernel)⟩
theorem lw_p52 : lw_okq (⟨"ClapBankModel", "store", "([III)V"⟩, 50) := ⟨⟨by decide +kernel, by decide +kernel⟩, List.mem_of_getElem? (i := 981) (by decide +kernel), List.mem_of_getElem? (i := 1240) (by decide +kernel), List.mem_of_getElem? (i := 1241) (by decide +kernel)⟩
theorem lw_p53 : lw_okq (⟨"ClapBankModel", "hand", "(I)Z"⟩, 50) := ⟨⟨by decide +kernel, by decide +kernel⟩, List.mem_of_getElem? (i := 981) (by decide +kernel), List.mem_of_getElem? (i := 1252) (by decide +kernel), List.mem_of_getElem? (i := 1253) (by decide +kernel)⟩
theorem lw_p54 : lw_okq (⟨"ClapBankModel", "of", "(I)I"⟩, 50) := ⟨⟨by decide +kernel, by decide +kernel⟩, List.mem_of_getElem? (i := 981) (by decide +kernel), List.mem_of_getElem? (i := 1256) (by decide +kernel), List.mem_of_getElem? (i := 1257) (by decide +kernel)⟩
theorem lw_p55 : lw_okq (⟨"ClapBankModel", "isPalm", "(I)Z"⟩, 50) := ⟨⟨by decide +kernel, by decide +kernel⟩, List.mem_of_getElem? (i := 981) (by decide +kernel), List.mem_of_getElem? (i := 1260) (by decide +kernel), List.mem_of_getElem? (i := 1261) (by decide +kernel)⟩
theorem lw_p56 : lw_okq (⟨"ClapBankModel", "isActor", "(I)Z"⟩, 50) := ⟨⟨by decide +kernel, by decide +kernel⟩, List.mem_of_getElem? (i := 981) (by decide +kernel), List.mem_of_getElem? (i := 1264) (by decide +kernel), List.mem_of_getElem? (i := 1265) (by decide +kernel)⟩
theorem lw_p57 : lw_okq (⟨"ClapBankModel", "hasBook", "(I)Z"⟩, 50) := ⟨⟨by decide +kernel, by decide +kernel⟩, List.mem_of_getElem? (i := 981) (by decide +kernel), List.mem_of_getElem? (i := 1272) (by decide +kernel), List.mem_of_getElem? (i := 1273) (by decide +kernel)⟩
theorem lw_p58 : lw_okq (⟨"ClapBankModel", "deeds", "()I"⟩, 50) := ⟨⟨by decide +kernel, by decide +kernel⟩, List.mem_of_getElem? (i := 981) (by decide +kernel), List.mem_of_getElem? (i := 1276) (by decide +kernel), List.mem_of_getElem? (i := 1277) (by decide +kernel)⟩
theorem lw_p59 : lw_okq (⟨"ClapBankModel", "deedOf", "(II)I"⟩, 50) := ⟨⟨by decide +kernel, by decide +kernel⟩, List.mem_of_getElem? (i := 981) (by decide +kernel), List.mem_of_getElem? (i := 1280) (by decide +kernel), List.mem_of_getElem? (i := 1281) (by decide +kernel)⟩
theorem lw_p60 : lw_okq (⟨"ClapBankModel", "play", "(I)I"⟩, 50) := ⟨⟨by decide +kernel, by decide +kernel⟩, List.mem_of_getElem? (i := 981) (by decide +kernel), List.mem_of_getElem? (i := 1288) (by decide +kernel), List.mem_of_getElem? (i := 1289) (by decide +kernel)⟩
theorem lw_p61 : lw_okq (⟨"ClapBankModel", "begin", "()V"⟩, 50) := ⟨⟨by decide +kernel, by decide +kernel⟩, List.mem_of_getElem? (i := 981) (by decide +kernel), List.mem_of_getElem? (i := 1292) (by decide +kernel), List.mem_of_getElem? (i := 1293) (by decide +kernel)⟩
theorem lw_p62 : lw_okq (⟨"ClapBankModel", "morning", "()V"⟩, 50) := ⟨⟨by decide +kernel, by decide +kernel⟩, List.mem_of_getElem? (i := 981) (by decide +kernel), List.mem_of_getElem? (i := 1296) (by decide +kernel), List.mem_of_getElem? (i := 1297) (by decide +kernel)⟩
theorem lw_p63 : lw_okq (⟨"ClapBankModel", "doesNext", "(I)Z"⟩, 50) := ⟨⟨by decide +kernel, by decide +kernel⟩, List.mem_of_getElem? (i := 981) (by decide +kernel), List.mem_of_getElem? (i := 1300) (by decide +kernel), List.mem_of_getElem? (i := 1301) (by decide +kernel)⟩
def lw_privs_4 : List (MethodName × Nat) := [(⟨"ClapBankModel", "keep", "(IIII)V"⟩, 50), (⟨"ClapBankModel", "bookLine", "(JI)Z"⟩, 50), (⟨"ClapBankModel", "deedNumbers", "(I)Z"⟩, 50), (⟨"ClapBankModel", "darkLine", "(JI)Z"⟩, 50), (⟨"ClapBankModel", "store", "([III)V"⟩, 50), (⟨"ClapBankModel", "hand", "(I)Z"⟩, 50), (⟨"ClapBankModel", "of", "(I)I"⟩, 50), (⟨"ClapBankModel", "isPalm", "(I)Z"⟩, 50), (⟨"ClapBankModel", "isActor", "(I)Z"⟩, 50), (⟨"ClapBankModel", "hasBook", "(I)Z"⟩, 50), (⟨"ClapBankModel", "deeds", "()I"⟩, 50), (⟨"ClapBankModel", "deedOf", "(II)I"⟩, 50), (⟨"ClapBankModel", "play", "(I)I"⟩, 50), (⟨"ClapBankModel", "begin", "()V"⟩, 50), (⟨"ClapBankModel", "morning", "()V"⟩, 50), (⟨"ClapBankModel", "doesNext", "(I)Z"⟩, 50)]
theorem lw_r4 : ∀ q ∈ lw_privs_4, lw_okq q := List.forall_mem_cons.mpr ⟨lw_p48, List.forall_mem_cons.mpr ⟨lw_p49, List.forall_mem_cons.mpr ⟨lw_p50, List.forall_mem_cons.mpr ⟨lw_p51, List.forall_mem_cons.mpr ⟨lw_p52, List.forall_mem_cons.mpr ⟨lw_p53, List.forall_mem_cons.mpr ⟨lw_p54, List.forall_mem_cons.mpr ⟨lw_p55, List.forall_mem_cons.mpr ⟨lw_p56, List.forall_mem_cons.mpr ⟨lw_p57, List.forall_mem_cons.mpr ⟨lw_p58, List.forall_mem_cons.mpr ⟨lw_p59, List.forall_mem_cons.mpr ⟨lw_p60, List.forall_mem_cons.mpr ⟨lw_p61, List.forall_mem_cons.mpr ⟨lw_p62, List.forall_mem_cons.mpr ⟨lw_p63, fun _ h => absurd h List.not_mem_nil⟩⟩⟩⟩⟩⟩⟩⟩⟩⟩⟩⟩⟩⟩⟩⟩
theorem lw_p64 : lw_okq (⟨"ClapBankModel", "does", "(I)Z"⟩, 50) := ⟨⟨by decide +kernel, by decide +kernel⟩, List.mem_of_getElem? (i := 981) (by decide +kernel), List.mem_of_getElem? (i := 1304) (by decide +kernel), List.mem_of_getElem? (i := 1305) (by decide +kernel)⟩
theorem lw_p65 : lw_okq (⟨"ClapBankModel", "clapsFor", "(III)Z"⟩, 50) := ⟨⟨by decide +kernel, by decide +kernel⟩, List.mem_of_getElem? (i := 981) (by decide +kernel), List.mem_of_getElem? (i := 1308) (by decide +kernel), List.mem_of_getElem? (i := 1309) (by decide +kernel)⟩
theorem lw_p66 : lw_okq (⟨"ClapBankModel", "isLiving", "(I)Z"⟩, 50) := ⟨⟨by decide +kernel, by decide +kernel⟩, List.mem_of_getElem? (i := 981) (by decide +kernel), List.mem_of_getElem? (i := 1312) (by decide +kernel), List.mem_of_getElem? (i := 1313) (by decide +kernel)⟩
theorem lw_p67 : lw_okq (⟨"ClapBankModel", "handsOf", "(I)I"⟩, 50) := ⟨⟨by decide +kernel, by decide +kernel⟩, List.mem_of_getElem? (i := 981) (by decide +kernel), List.mem_of_getElem? (i := 1319) (by decide +kernel), List.mem_of_getElem? (i := 1320) (by decide +kernel)⟩
theorem lw_p68 : lw_okq (⟨"ClapBankModel", "gets", "(II)V"⟩, 50) := ⟨⟨by decide +kernel, by decide +kernel⟩, List.mem_of_getElem? (i := 981) (by decide +kernel), List.mem_of_getElem? (i := 1323) (by decide +kernel), List.mem_of_getElem? (i := 1324) (by decide +kernel)⟩
theorem lw_p69 : lw_okq (⟨"ClapBankModel", "gives", "(IIIZ)Z"⟩, 50) := ⟨⟨by decide +kernel, by decide +kernel⟩, List.mem_of_getElem? (i := 981) (by decide +kernel), List.mem_of_getElem? (i := 1327) (by decide +kernel), List.mem_of_getElem? (i := 1328) (by decide +kernel)⟩
theorem lw_p70 : lw_okq (⟨"ClapBankModel", "hushes", "(III)Z"⟩, 50) := ⟨⟨by decide +kernel, by decide +kernel⟩, List.mem_of_getElem? (i := 981) (by decide +kernel), List.mem_of_getElem? (i := 1331) (by decide +kernel), List.mem_of_getElem? (i := 1332) (by decide +kernel)⟩
theorem lw_p71 : lw_okq (⟨"ClapBankModel", "night", "()V"⟩, 50) := ⟨⟨by decide +kernel, by decide +kernel⟩, List.mem_of_getElem? (i := 981) (by decide +kernel), List.mem_of_getElem? (i := 1335) (by decide +kernel), List.mem_of_getElem? (i := 1336) (by decide +kernel)⟩
theorem lw_p72 : lw_okq (⟨"ClapBankModel", "eatsNow", "(I)Z"⟩, 50) := ⟨⟨by decide +kernel, by decide +kernel⟩, List.mem_of_getElem? (i := 981) (by decide +kernel), List.mem_of_getElem? (i := 1339) (by decide +kernel), List.mem_of_getElem? (i := 1340) (by decide +kernel)⟩
theorem lw_p73 : lw_okq (⟨"ClapBankModel", "eats", "(II)I"⟩, 50) := ⟨⟨by decide +kernel, by decide +kernel⟩, List.mem_of_getElem? (i := 981) (by decide +kernel), List.mem_of_getElem? (i := 1343) (by decide +kernel), List.mem_of_getElem? (i := 1344) (by decide +kernel)⟩
theorem lw_p74 : lw_okq (⟨"ClapBankModel", "hungerOf", "(I)I"⟩, 50) := ⟨⟨by decide +kernel, by decide +kernel⟩, List.mem_of_getElem? (i := 981) (by decide +kernel), List.mem_of_getElem? (i := 1347) (by decide +kernel), List.mem_of_getElem? (i := 1348) (by decide +kernel)⟩
theorem lw_p75 : lw_okq (⟨"ClapBankModel", "layState", "(III)Z"⟩, 50) := ⟨⟨by decide +kernel, by decide +kernel⟩, List.mem_of_getElem? (i := 981) (by decide +kernel), List.mem_of_getElem? (i := 1357) (by decide +kernel), List.mem_of_getElem? (i := 1358) (by decide +kernel)⟩
theorem lw_p76 : lw_okq (⟨"ClapBankModel", "allSaved", "()I"⟩, 50) := ⟨⟨by decide +kernel, by decide +kernel⟩, List.mem_of_getElem? (i := 981) (by decide +kernel), List.mem_of_getElem? (i := 1361) (by decide +kernel), List.mem_of_getElem? (i := 1362) (by decide +kernel)⟩
theorem lw_p77 : lw_okq (⟨"ClapBankModel", "needOf", "(I)I"⟩, 50) := ⟨⟨by decide +kernel, by decide +kernel⟩, List.mem_of_getElem? (i := 981) (by decide +kernel), List.mem_of_getElem? (i := 1373) (by decide +kernel), List.mem_of_getElem? (i := 1374) (by decide +kernel)⟩
theorem lw_p78 : lw_okq (⟨"ClapBankModel", "friday", "(I)I"⟩, 50) := ⟨⟨by decide +kernel, by decide +kernel⟩, List.mem_of_getElem? (i := 981) (by decide +kernel), List.mem_of_getElem? (i := 1380) (by decide +kernel), List.mem_of_getElem? (i := 1381) (by decide +kernel)⟩
theorem lw_p79 : lw_okq (⟨"ClapBankModel", "star", "(I)I"⟩, 50) := ⟨⟨by decide +kernel, by decide +kernel⟩, List.mem_of_getElem? (i := 981) (by decide +kernel), List.mem_of_getElem? (i := 1384) (by decide +kernel), List.mem_of_getElem? (i := 1385) (by decide +kernel)⟩
def lw_privs_5 : List (MethodName × Nat) := [(⟨"ClapBankModel", "does", "(I)Z"⟩, 50), (⟨"ClapBankModel", "clapsFor", "(III)Z"⟩, 50), (⟨"ClapBankModel", "isLiving", "(I)Z"⟩, 50), (⟨"ClapBankModel", "handsOf", "(I)I"⟩, 50), (⟨"ClapBankModel", "gets", "(II)V"⟩, 50), (⟨"ClapBankModel", "gives", "(IIIZ)Z"⟩, 50), (⟨"ClapBankModel", "hushes", "(III)Z"⟩, 50), (⟨"ClapBankModel", "night", "()V"⟩, 50), (⟨"ClapBankModel", "eatsNow", "(I)Z"⟩, 50), (⟨"ClapBankModel", "eats", "(II)I"⟩, 50), (⟨"ClapBankModel", "hungerOf", "(I)I"⟩, 50), (⟨"ClapBankModel", "layState", "(III)Z"⟩, 50), (⟨"ClapBankModel", "allSaved", "()I"⟩, 50), (⟨"ClapBankModel", "needOf", "(I)I"⟩, 50), (⟨"ClapBankModel", "friday", "(I)I"⟩, 50), (⟨"ClapBankModel", "star", "(I)I"⟩, 50)]
theorem lw_r5 : ∀ q ∈ lw_privs_5, lw_okq q := List.forall_mem_cons.mpr ⟨lw_p64, List.forall_mem_cons.mpr ⟨lw_p65, List.forall_mem_cons.mpr ⟨lw_p66, List.forall_mem_cons.mpr ⟨lw_p67, List.forall_mem_cons.mpr ⟨lw_p68, List.forall_mem_cons.mpr ⟨lw_p69, List.forall_mem_cons.mpr ⟨lw_p70, List.forall_mem_cons.mpr ⟨lw_p71, List.forall_mem_cons.mpr ⟨lw_p72, List.forall_mem_cons.mpr ⟨lw_p73, List.forall_mem_cons.mpr ⟨lw_p74, List.forall_mem_cons.mpr ⟨lw_p75, List.forall_mem_cons.mpr ⟨lw_p76, List.forall_mem_cons.mpr ⟨lw_p77, List.forall_mem_cons.mpr ⟨lw_p78, List.forall_mem_cons.mpr ⟨lw_p79, fun _ h => absurd h List.not_mem_nil⟩⟩⟩⟩⟩⟩⟩⟩⟩⟩⟩⟩⟩⟩⟩⟩
theorem lw_p80 : lw_okq (⟨"ClapBankModel", "isDoomed", "(I)Z"⟩, 50) := ⟨⟨by decide +kernel, by decide +kernel⟩, List.mem_of_getElem? (i := 981) (by decide +kernel), List.mem_of_getElem? (i := 1392) (by decide +kernel), List.mem_of_getElem? (i := 1393) (by decide +kernel)⟩
theorem lw_p81 : lw_okq (⟨"ClapBankModel", "isInDanger", "(I)Z"⟩, 50) := ⟨⟨by decide +kernel, by decide +kernel⟩, List.mem_of_getElem? (i := 981) (by decide +kernel), List.mem_of_getElem? (i := 1396) (by decide +kernel), List.mem_of_getElem? (i := 1397) (by decide +kernel)⟩
theorem lw_p82 : lw_okq (⟨"ClapBankModel", "canFeed", "(I)Z"⟩, 50) := ⟨⟨by decide +kernel, by decide +kernel⟩, List.mem_of_getElem? (i := 981) (by decide +kernel), List.mem_of_getElem? (i := 1404) (by decide +kernel), List.mem_of_getElem? (i := 1405) (by decide +kernel)⟩
theorem lw_p83 : lw_okq (⟨"ClapBankModel", "leftOf", "(I)I"⟩, 50) := ⟨⟨by decide +kernel, by decide +kernel⟩, List.mem_of_getElem? (i := 981) (by decide +kernel), List.mem_of_getElem? (i := 1408) (by decide +kernel), List.mem_of_getElem? (i := 1409) (by decide +kernel)⟩
theorem lw_p84 : lw_okq (⟨"ClapBankModel", "layUsurer", "(III)Z"⟩, 50) := ⟨⟨by decide +kernel, by decide +kernel⟩, List.mem_of_getElem? (i := 981) (by decide +kernel), List.mem_of_getElem? (i := 1426) (by decide +kernel), List.mem_of_getElem? (i := 1427) (by decide +kernel)⟩
theorem lw_p85 : lw_okq (⟨"ClapBankModel", "usurers", "()I"⟩, 50) := ⟨⟨by decide +kernel, by decide +kernel⟩, List.mem_of_getElem? (i := 981) (by decide +kernel), List.mem_of_getElem? (i := 1430) (by decide +kernel), List.mem_of_getElem? (i := 1431) (by decide +kernel)⟩
theorem lw_p86 : lw_okq (⟨"ClapBankModel", "findAsks", "()V"⟩, 50) := ⟨⟨by decide +kernel, by decide +kernel⟩, List.mem_of_getElem? (i := 981) (by decide +kernel), List.mem_of_getElem? (i := 1434) (by decide +kernel), List.mem_of_getElem? (i := 1435) (by decide +kernel)⟩
theorem lw_p87 : lw_okq (⟨"ClapBankModel", "areAlike", "(II)Z"⟩, 50) := ⟨⟨by decide +kernel, by decide +kernel⟩, List.mem_of_getElem? (i := 981) (by decide +kernel), List.mem_of_getElem? (i := 1446) (by decide +kernel), List.mem_of_getElem? (i := 1447) (by decide +kernel)⟩
theorem lw_p88 : lw_okq (⟨"ClapBankModel", "hasDark", "(I)Z"⟩, 50) := ⟨⟨by decide +kernel, by decide +kernel⟩, List.mem_of_getElem? (i := 981) (by decide +kernel), List.mem_of_getElem? (i := 1454) (by decide +kernel), List.mem_of_getElem? (i := 1455) (by decide +kernel)⟩
theorem lw_p89 : lw_okq (⟨"ClapBankModel", "heardOf", "(I)I"⟩, 50) := ⟨⟨by decide +kernel, by decide +kernel⟩, List.mem_of_getElem? (i := 981) (by decide +kernel), List.mem_of_getElem? (i := 1458) (by decide +kernel), List.mem_of_getElem? (i := 1459) (by decide +kernel)⟩
theorem lw_p90 : lw_okq (⟨"ClapBankModel", "findDark", "()V"⟩, 50) := ⟨⟨by decide +kernel, by decide +kernel⟩, List.mem_of_getElem? (i := 981) (by decide +kernel), List.mem_of_getElem? (i := 1467) (by decide +kernel), List.mem_of_getElem? (i := 1468) (by decide +kernel)⟩
theorem lw_p91 : lw_okq (⟨"ClapBankModel", "states", "()I"⟩, 50) := ⟨⟨by decide +kernel, by decide +kernel⟩, List.mem_of_getElem? (i := 981) (by decide +kernel), List.mem_of_getElem? (i := 1471) (by decide +kernel), List.mem_of_getElem? (i := 1472) (by decide +kernel)⟩
theorem lw_p92 : lw_okq (⟨"ClapBankModel", "goOn", "(I)V"⟩, 50) := ⟨⟨by decide +kernel, by decide +kernel⟩, List.mem_of_getElem? (i := 981) (by decide +kernel), List.mem_of_getElem? (i := 1475) (by decide +kernel), List.mem_of_getElem? (i := 1476) (by decide +kernel)⟩
theorem lw_p93 : lw_okq (⟨"ClapBankModel", "halvesOf", "(I)I"⟩, 50) := ⟨⟨by decide +kernel, by decide +kernel⟩, List.mem_of_getElem? (i := 981) (by decide +kernel), List.mem_of_getElem? (i := 1479) (by decide +kernel), List.mem_of_getElem? (i := 1480) (by decide +kernel)⟩
theorem lw_p94 : lw_okq (⟨"ClapBankModel", "after", "(II)I"⟩, 50) := ⟨⟨by decide +kernel, by decide +kernel⟩, List.mem_of_getElem? (i := 981) (by decide +kernel), List.mem_of_getElem? (i := 1483) (by decide +kernel), List.mem_of_getElem? (i := 1484) (by decide +kernel)⟩
theorem lw_p95 : lw_okq (⟨"ClapBankModel", "goBack", "(I)V"⟩, 50) := ⟨⟨by decide +kernel, by decide +kernel⟩, List.mem_of_getElem? (i := 981) (by decide +kernel), List.mem_of_getElem? (i := 1487) (by decide +kernel), List.mem_of_getElem? (i := 1488) (by decide +kernel)⟩
def lw_privs_6 : List (MethodName × Nat) := [(⟨"ClapBankModel", "isDoomed", "(I)Z"⟩, 50), (⟨"ClapBankModel", "isInDanger", "(I)Z"⟩, 50), (⟨"ClapBankModel", "canFeed", "(I)Z"⟩, 50), (⟨"ClapBankModel", "leftOf", "(I)I"⟩, 50), (⟨"ClapBankModel", "layUsurer", "(III)Z"⟩, 50), (⟨"ClapBankModel", "usurers", "()I"⟩, 50), (⟨"ClapBankModel", "findAsks", "()V"⟩, 50), (⟨"ClapBankModel", "areAlike", "(II)Z"⟩, 50), (⟨"ClapBankModel", "hasDark", "(I)Z"⟩, 50), (⟨"ClapBankModel", "heardOf", "(I)I"⟩, 50), (⟨"ClapBankModel", "findDark", "()V"⟩, 50), (⟨"ClapBankModel", "states", "()I"⟩, 50), (⟨"ClapBankModel", "goOn", "(I)V"⟩, 50), (⟨"ClapBankModel", "halvesOf", "(I)I"⟩, 50), (⟨"ClapBankModel", "after", "(II)I"⟩, 50), (⟨"ClapBankModel", "goBack", "(I)V"⟩, 50)]
theorem lw_r6 : ∀ q ∈ lw_privs_6, lw_okq q := List.forall_mem_cons.mpr ⟨lw_p80, List.forall_mem_cons.mpr ⟨lw_p81, List.forall_mem_cons.mpr ⟨lw_p82, List.forall_mem_cons.mpr ⟨lw_p83, List.forall_mem_cons.mpr ⟨lw_p84, List.forall_mem_cons.mpr ⟨lw_p85, List.forall_mem_cons.mpr ⟨lw_p86, List.forall_mem_cons.mpr ⟨lw_p87, List.forall_mem_cons.mpr ⟨lw_p88, List.forall_mem_cons.mpr ⟨lw_p89, List.forall_mem_cons.mpr ⟨lw_p90, List.forall_mem_cons.mpr ⟨lw_p91, List.forall_mem_cons.mpr ⟨lw_p92, List.forall_mem_cons.mpr ⟨lw_p93, List.forall_mem_cons.mpr ⟨lw_p94, List.forall_mem_cons.mpr ⟨lw_p95, fun _ h => absurd h List.not_mem_nil⟩⟩⟩⟩⟩⟩⟩⟩⟩⟩⟩⟩⟩⟩⟩⟩
theorem lw_p96 : lw_okq (⟨"ClapBankModel", "mayBe", "(II)Z"⟩, 50) := ⟨⟨by decide +kernel, by decide +kernel⟩, List.mem_of_getElem? (i := 981) (by decide +kernel), List.mem_of_getElem? (i := 1495) (by decide +kernel), List.mem_of_getElem? (i := 1496) (by decide +kernel)⟩
theorem lw_p97 : lw_okq (⟨"ClapBankModel", "draw", "(I)I"⟩, 50) := ⟨⟨by decide +kernel, by decide +kernel⟩, List.mem_of_getElem? (i := 981) (by decide +kernel), List.mem_of_getElem? (i := 1503) (by decide +kernel), List.mem_of_getElem? (i := 1504) (by decide +kernel)⟩
theorem lw_p98 : lw_okq (⟨"ClapBankModel", "livingOne", "(I)I"⟩, 50) := ⟨⟨by decide +kernel, by decide +kernel⟩, List.mem_of_getElem? (i := 981) (by decide +kernel), List.mem_of_getElem? (i := 1508) (by decide +kernel), List.mem_of_getElem? (i := 1509) (by decide +kernel)⟩
theorem lw_p99 : lw_okq (⟨"ClapBankModel", "tip", "(I)I"⟩, 50) := ⟨⟨by decide +kernel, by decide +kernel⟩, List.mem_of_getElem? (i := 981) (by decide +kernel), List.mem_of_getElem? (i := 1516) (by decide +kernel), List.mem_of_getElem? (i := 1517) (by decide +kernel)⟩
theorem lw_p100 : lw_okq (⟨"ClapBankModel", "eatsBy", "(II)Z"⟩, 50) := ⟨⟨by decide +kernel, by decide +kernel⟩, List.mem_of_getElem? (i := 981) (by decide +kernel), List.mem_of_getElem? (i := 1520) (by decide +kernel), List.mem_of_getElem? (i := 1521) (by decide +kernel)⟩
theorem lw_p101 : lw_okq (⟨"ClapBankModel", "mostOwing", "()I"⟩, 50) := ⟨⟨by decide +kernel, by decide +kernel⟩, List.mem_of_getElem? (i := 981) (by decide +kernel), List.mem_of_getElem? (i := 1524) (by decide +kernel), List.mem_of_getElem? (i := 1525) (by decide +kernel)⟩
theorem lw_p102 : lw_okq (⟨"ClapBankModel", "idol", "()I"⟩, 50) := ⟨⟨by decide +kernel, by decide +kernel⟩, List.mem_of_getElem? (i := 981) (by decide +kernel), List.mem_of_getElem? (i := 1528) (by decide +kernel), List.mem_of_getElem? (i := 1529) (by decide +kernel)⟩
theorem lw_p103 : lw_okq (⟨"ClapBankModel", "dear", "(I)I"⟩, 50) := ⟨⟨by decide +kernel, by decide +kernel⟩, List.mem_of_getElem? (i := 981) (by decide +kernel), List.mem_of_getElem? (i := 1532) (by decide +kernel), List.mem_of_getElem? (i := 1533) (by decide +kernel)⟩
theorem lw_p104 : lw_okq (⟨"ClapBankModel", "starvedWithout", "(II)I"⟩, 50) := ⟨⟨by decide +kernel, by decide +kernel⟩, List.mem_of_getElem? (i := 981) (by decide +kernel), List.mem_of_getElem? (i := 1540) (by decide +kernel), List.mem_of_getElem? (i := 1541) (by decide +kernel)⟩
theorem lw_p105 : lw_okq (⟨"ClapBankModel", "names", "(II)Z"⟩, 50) := ⟨⟨by decide +kernel, by decide +kernel⟩, List.mem_of_getElem? (i := 981) (by decide +kernel), List.mem_of_getElem? (i := 1544) (by decide +kernel), List.mem_of_getElem? (i := 1545) (by decide +kernel)⟩
theorem lw_p106 : lw_okq (⟨"ClapBankModel", "copyAll", "(II)V"⟩, 50) := ⟨⟨by decide +kernel, by decide +kernel⟩, List.mem_of_getElem? (i := 981) (by decide +kernel), List.mem_of_getElem? (i := 1556) (by decide +kernel), List.mem_of_getElem? (i := 1557) (by decide +kernel)⟩
def lw_privs_7 : List (MethodName × Nat) := [(⟨"ClapBankModel", "mayBe", "(II)Z"⟩, 50), (⟨"ClapBankModel", "draw", "(I)I"⟩, 50), (⟨"ClapBankModel", "livingOne", "(I)I"⟩, 50), (⟨"ClapBankModel", "tip", "(I)I"⟩, 50), (⟨"ClapBankModel", "eatsBy", "(II)Z"⟩, 50), (⟨"ClapBankModel", "mostOwing", "()I"⟩, 50), (⟨"ClapBankModel", "idol", "()I"⟩, 50), (⟨"ClapBankModel", "dear", "(I)I"⟩, 50), (⟨"ClapBankModel", "starvedWithout", "(II)I"⟩, 50), (⟨"ClapBankModel", "names", "(II)Z"⟩, 50), (⟨"ClapBankModel", "copyAll", "(II)V"⟩, 50)]
theorem lw_r7 : ∀ q ∈ lw_privs_7, lw_okq q := List.forall_mem_cons.mpr ⟨lw_p96, List.forall_mem_cons.mpr ⟨lw_p97, List.forall_mem_cons.mpr ⟨lw_p98, List.forall_mem_cons.mpr ⟨lw_p99, List.forall_mem_cons.mpr ⟨lw_p100, List.forall_mem_cons.mpr ⟨lw_p101, List.forall_mem_cons.mpr ⟨lw_p102, List.forall_mem_cons.mpr ⟨lw_p103, List.forall_mem_cons.mpr ⟨lw_p104, List.forall_mem_cons.mpr ⟨lw_p105, List.forall_mem_cons.mpr ⟨lw_p106, fun _ h => absurd h List.not_mem_nil⟩⟩⟩⟩⟩⟩⟩⟩⟩⟩⟩
def lw_privs : List (MethodName × Nat) := lw_privs_1 ++ (lw_privs_2 ++ (lw_privs_3 ++ (lw_privs_4 ++ (lw_privs_5 ++ (lw_privs_6 ++ (lw_privs_7))))))
def lw_tbl : List Cond := k2_sels lw_privs ++ tables_1
theorem lw_privs_ok : ∀ q ∈ lw_privs, lw_okq q := by
  show ∀ q ∈ lw_privs_1 ++ (lw_privs_2 ++ (lw_privs_3 ++ (lw_privs_4 ++ (lw_privs_5 ++ (lw_privs_6 ++ (lw_privs_7)))))), lw_okq q
  exact List.forall_mem_append.mpr ⟨lw_r1, List.forall_mem_append.mpr ⟨lw_r2, List.forall_mem_append.mpr ⟨lw_r3, List.forall_mem_append.mpr ⟨lw_r4, List.forall_mem_append.mpr ⟨lw_r5, List.forall_mem_append.mpr ⟨lw_r6, lw_r7⟩⟩⟩⟩⟩⟩
end
section
theorem goodIn_r {big : List Cond} (ws : List Cond) (ps : List Nat) (hp : ws = ps.filterMap (fun i => big[i]?)) (h : ws.all goodWord = true) : GoodIn big ws := by
  intro w hw
  have h1 := List.all_eq_true.mp h w hw
  rw [hp] at hw
  obtain ⟨i, -, hi⟩ := List.mem_filterMap.mp hw
  have hm : w ∈ big := by first | exact List.mem_of_getElem? hi | exact List.getElem?_mem hi
  exact ⟨hm, good_of_word h1⟩
def RX0 : String := "ClapBank$Book"
def TX0 : u_T := fun k => match k with
  | 0 => ("ClapBank$Book", "deeds", "I", false)
  | _ => ("ClapBank$Book", "parts", "[I", true)
def tyX0 : Nat → FieldType := fun k => match k with
  | 0 => .int
  | _ => .array .int
abbrev wsX00 : List Cond := u_ws RX0 TX0 2
theorem nmX0 : ∀ a, a < 2 → ∀ b, b < 2 → a ≠ b → (TX0 a).2.1 ≠ (TX0 b).2.1 := by decide +kernel
theorem tyX0_ok : ∀ k, k < 2 → parseFieldDescriptor (TX0 k).2.2.1 = some (tyX0 k) := by decide +kernel
abbrev cX0_init : ByteArray := prog_2_method_1_code
def yX0_init : MethodName := ⟨RX0, "<init>", "()V"⟩
def RX1 : String := "ClapBank$Dark"
def TX1 : u_T := fun k => match k with
  | 0 => ("ClapBank$Dark", "minutes", "I", false)
  | _ => ("ClapBank$Dark", "halves", "[I", true)
def tyX1 : Nat → FieldType := fun k => match k with
  | 0 => .int
  | _ => .array .int
abbrev wsX10 : List Cond := u_ws RX1 TX1 2
theorem nmX1 : ∀ a, a < 2 → ∀ b, b < 2 → a ≠ b → (TX1 a).2.1 ≠ (TX1 b).2.1 := by decide +kernel
theorem tyX1_ok : ∀ k, k < 2 → parseFieldDescriptor (TX1 k).2.2.1 = some (tyX1 k) := by decide +kernel
abbrev cX1_init : ByteArray := prog_3_method_1_code
def yX1_init : MethodName := ⟨RX1, "<init>", "()V"⟩
def RX2 : String := "ClapBank$Evening"
def TX2 : u_T := fun k => match k with
  | 0 => ("ClapBank$Evening", "house", "LClapBank$Theatre;", false)
  | 1 => ("ClapBank$Evening", "left", "[I", true)
  | 2 => ("ClapBank$Evening", "owes", "[I", true)
  | 3 => ("ClapBank$Evening", "got", "[I", true)
  | 4 => ("ClapBank$Evening", "saved", "[I", true)
  | 5 => ("ClapBank$Evening", "starved", "[I", true)
  | 6 => ("ClapBank$Evening", "storms", "[I", true)
  | 7 => ("ClapBank$Evening", "drawnFrom", "[I", true)
  | 8 => ("ClapBank$Evening", "chest", "I", false)
  | 9 => ("ClapBank$Evening", "encores", "I", false)
  | 10 => ("ClapBank$Evening", "nights", "I", false)
  | 11 => ("ClapBank$Evening", "claps", "I", false)
  | 12 => ("ClapBank$Evening", "hushed", "I", false)
  | _ => ("ClapBank$Evening", "echo", "I", false)
def tyX2 : Nat → FieldType := fun k => match k with
  | 0 => .object "ClapBank$Theatre"
  | 1 => .array .int
  | 2 => .array .int
  | 3 => .array .int
  | 4 => .array .int
  | 5 => .array .int
  | 6 => .array .int
  | 7 => .array .int
  | 8 => .int
  | 9 => .int
  | 10 => .int
  | 11 => .int
  | 12 => .int
  | _ => .int
abbrev wsX20 : List Cond := u_ws RX2 TX2 14
theorem nmX2 : ∀ a, a < 14 → ∀ b, b < 14 → a ≠ b → (TX2 a).2.1 ≠ (TX2 b).2.1 := by decide +kernel
theorem tyX2_ok : ∀ k, k < 14 → parseFieldDescriptor (TX2 k).2.2.1 = some (tyX2 k) := by decide +kernel
abbrev cX2_init : ByteArray := prog_4_method_1_code
def yX2_init : MethodName := ⟨RX2, "<init>", "()V"⟩
def RX3 : String := "ClapBank$Feast"
def TX3 : u_T := fun k => match k with
  | 0 => ("ClapBank$Feast", "who", "I", false)
  | 1 => ("ClapBank$Feast", "two", "I", false)
  | _ => ("ClapBank$Feast", "one", "I", false)
def tyX3 : Nat → FieldType := fun k => match k with
  | 0 => .int
  | 1 => .int
  | _ => .int
abbrev cX3_init : ByteArray := prog_5_method_1_code
def yX3_init : MethodName := ⟨RX3, "<init>", "()V"⟩
def RX4 : String := "ClapBank$Hearing"
def TX4 : u_T := fun k => match k with
  | 0 => ("ClapBank$Hearing", "house", "LClapBank$Theatre;", false)
  | 1 => ("ClapBank$Hearing", "dark", "LClapBank$Dark;", false)
  | 2 => ("ClapBank$Hearing", "early", "[I", true)
  | 3 => ("ClapBank$Hearing", "late", "[I", true)
  | 4 => ("ClapBank$Hearing", "halvesOf", "[I", true)
  | 5 => ("ClapBank$Hearing", "onceOf", "[I", true)
  | 6 => ("ClapBank$Hearing", "sets", "I", false)
  | 7 => ("ClapBank$Hearing", "any", "I", false)
  | _ => ("ClapBank$Hearing", "all", "I", false)
def tyX4 : Nat → FieldType := fun k => match k with
  | 0 => .object "ClapBank$Theatre"
  | 1 => .object "ClapBank$Dark"
  | 2 => .array .int
  | 3 => .array .int
  | 4 => .array .int
  | 5 => .array .int
  | 6 => .int
  | 7 => .int
  | _ => .int
abbrev wsX40 : List Cond := u_ws RX4 TX4 9
theorem nmX4 : ∀ a, a < 9 → ∀ b, b < 9 → a ≠ b → (TX4 a).2.1 ≠ (TX4 b).2.1 := by decide +kernel
theorem tyX4_ok : ∀ k, k < 9 → parseFieldDescriptor (TX4 k).2.2.1 = some (tyX4 k) := by decide +kernel
abbrev cX4_init : ByteArray := prog_6_method_1_code
def yX4_init : MethodName := ⟨RX4, "<init>", "()V"⟩
def RX5 : String := "ClapBank$Reader"
def TX5 : u_T := fun k => match k with
  | 0 => ("ClapBank$Reader", "theatre", "LClapBank$Theatre;", true)
  | 1 => ("ClapBank$Reader", "book", "LClapBank$Book;", true)
  | 2 => ("ClapBank$Reader", "dark", "LClapBank$Dark;", true)
  | 3 => ("ClapBank$Reader", "numbers", "[I", true)
  | 4 => ("ClapBank$Reader", "fault", "I", false)
  | 5 => ("ClapBank$Reader", "place", "I", false)
  | 6 => ("ClapBank$Reader", "token", "I", false)
  | 7 => ("ClapBank$Reader", "from", "I", false)
  | 8 => ("ClapBank$Reader", "to", "I", false)
  | _ => ("ClapBank$Reader", "value", "I", false)
def tyX5 : Nat → FieldType := fun k => match k with
  | 0 => .object "ClapBank$Theatre"
  | 1 => .object "ClapBank$Book"
  | 2 => .object "ClapBank$Dark"
  | 3 => .array .int
  | 4 => .int
  | 5 => .int
  | 6 => .int
  | 7 => .int
  | 8 => .int
  | _ => .int
abbrev wsX50 : List Cond := u_ws RX5 TX5 10
theorem nmX5 : ∀ a, a < 10 → ∀ b, b < 10 → a ≠ b → (TX5 a).2.1 ≠ (TX5 b).2.1 := by decide +kernel
theorem tyX5_ok : ∀ k, k < 10 → parseFieldDescriptor (TX5 k).2.2.1 = some (tyX5 k) := by decide +kernel
abbrev cX5_init : ByteArray := prog_7_method_1_code
def yX5_init : MethodName := ⟨RX5, "<init>", "()V"⟩
def RX6 : String := "ClapBank$Rounds"
def TX6 : u_T := fun k => match k with
  | 0 => ("ClapBank$Rounds", "usurers", "I", false)
  | 1 => ("ClapBank$Rounds", "borrowers", "I", false)
  | 2 => ("ClapBank$Rounds", "period", "I", false)
  | 3 => ("ClapBank$Rounds", "asks", "[I", true)
  | 4 => ("ClapBank$Rounds", "floors", "[I", true)
  | 5 => ("ClapBank$Rounds", "gains", "[I", true)
  | _ => ("ClapBank$Rounds", "seen", "[I", true)
def tyX6 : Nat → FieldType := fun k => match k with
  | 0 => .int
  | 1 => .int
  | 2 => .int
  | 3 => .array .int
  | 4 => .array .int
  | 5 => .array .int
  | _ => .array .int
abbrev wsX60 : List Cond := u_ws RX6 TX6 7
theorem nmX6 : ∀ a, a < 7 → ∀ b, b < 7 → a ≠ b → (TX6 a).2.1 ≠ (TX6 b).2.1 := by decide +kernel
theorem tyX6_ok : ∀ k, k < 7 → parseFieldDescriptor (TX6 k).2.2.1 = some (tyX6 k) := by decide +kernel
abbrev cX6_init : ByteArray := prog_8_method_1_code
def yX6_init : MethodName := ⟨RX6, "<init>", "()V"⟩
def RX7 : String := "ClapBank$Theatre"
def TX7 : u_T := fun k => match k with
  | 0 => ("ClapBank$Theatre", "palms", "I", false)
  | 1 => ("ClapBank$Theatre", "claps", "[I", true)
  | 2 => ("ClapBank$Theatre", "hands", "[I", true)
  | 3 => ("ClapBank$Theatre", "actors", "I", false)
  | 4 => ("ClapBank$Theatre", "hunger", "[I", true)
  | 5 => ("ClapBank$Theatre", "saved", "[I", true)
  | 6 => ("ClapBank$Theatre", "usurers", "I", false)
  | 7 => ("ClapBank$Theatre", "asks", "[I", true)
  | 8 => ("ClapBank$Theatre", "floors", "[I", true)
  | 9 => ("ClapBank$Theatre", "rate", "I", false)
  | 10 => ("ClapBank$Theatre", "chest", "I", false)
  | _ => ("ClapBank$Theatre", "borrowers", "I", false)
def tyX7 : Nat → FieldType := fun k => match k with
  | 0 => .int
  | 1 => .array .int
  | 2 => .array .int
  | 3 => .int
  | 4 => .array .int
  | 5 => .array .int
  | 6 => .int
  | 7 => .array .int
  | 8 => .array .int
  | 9 => .int
  | 10 => .int
  | _ => .int
abbrev wsX70 : List Cond := u_ws RX7 TX7 12
theorem nmX7 : ∀ a, a < 12 → ∀ b, b < 12 → a ≠ b → (TX7 a).2.1 ≠ (TX7 b).2.1 := by decide +kernel
theorem tyX7_ok : ∀ k, k < 12 → parseFieldDescriptor (TX7 k).2.2.1 = some (tyX7 k) := by decide +kernel
abbrev cX7_init : ByteArray := prog_9_method_1_code
def yX7_init : MethodName := ⟨RX7, "<init>", "()V"⟩
def RX8 : String := "ClapBank$Told"
def TX8 : u_T := fun k => match k with
  | 0 => ("ClapBank$Told", "tape", "[B", true)
  | 1 => ("ClapBank$Told", "length", "I", false)
  | 2 => ("ClapBank$Told", "fault", "I", false)
  | 3 => ("ClapBank$Told", "place", "I", false)
  | 4 => ("ClapBank$Told", "theatres", "I", false)
  | 5 => ("ClapBank$Told", "books", "I", false)
  | 6 => ("ClapBank$Told", "darks", "I", false)
  | 7 => ("ClapBank$Told", "firstTheatre", "LClapBank$Theatre;", true)
  | 8 => ("ClapBank$Told", "secondTheatre", "LClapBank$Theatre;", true)
  | 9 => ("ClapBank$Told", "firstBook", "LClapBank$Book;", true)
  | 10 => ("ClapBank$Told", "secondBook", "LClapBank$Book;", true)
  | 11 => ("ClapBank$Told", "firstDark", "LClapBank$Dark;", true)
  | _ => ("ClapBank$Told", "secondDark", "LClapBank$Dark;", true)
def tyX8 : Nat → FieldType := fun k => match k with
  | 0 => .array .byte
  | 1 => .int
  | 2 => .int
  | 3 => .int
  | 4 => .int
  | 5 => .int
  | 6 => .int
  | 7 => .object "ClapBank$Theatre"
  | 8 => .object "ClapBank$Theatre"
  | 9 => .object "ClapBank$Book"
  | 10 => .object "ClapBank$Book"
  | 11 => .object "ClapBank$Dark"
  | _ => .object "ClapBank$Dark"
abbrev wsX80 : List Cond := u_ws RX8 TX8 13
theorem nmX8 : ∀ a, a < 13 → ∀ b, b < 13 → a ≠ b → (TX8 a).2.1 ≠ (TX8 b).2.1 := by decide +kernel
theorem tyX8_ok : ∀ k, k < 13 → parseFieldDescriptor (TX8 k).2.2.1 = some (tyX8 k) := by decide +kernel
abbrev cX8_init : ByteArray := prog_10_method_1_code
def yX8_init : MethodName := ⟨RX8, "<init>", "()V"⟩
def RX9 : String := "ClapBank"
def TX9 : u_T := fun k => match k with
  | 0 => ("ClapBank", "told", "LClapBank$Told;", true)
  | 1 => ("ClapBank", "images", "[LClapBank$Told;", true)
  | 2 => ("ClapBank", "reader", "LClapBank$Reader;", true)
  | 3 => ("ClapBank", "evening", "LClapBank$Evening;", true)
  | 4 => ("ClapBank", "table", "LClapBank$Feast;", true)
  | 5 => ("ClapBank", "rounds", "LClapBank$Rounds;", true)
  | _ => ("ClapBank", "hearing", "LClapBank$Hearing;", true)
def tyX9 : Nat → FieldType := fun k => match k with
  | 0 => .object "ClapBank$Told"
  | 1 => .array (.object "ClapBank$Told")
  | 2 => .object "ClapBank$Reader"
  | 3 => .object "ClapBank$Evening"
  | 4 => .object "ClapBank$Feast"
  | 5 => .object "ClapBank$Rounds"
  | _ => .object "ClapBank$Hearing"
def RX10 : String := "ClapBankModel"
def TX10 : u_T := fun k => match k with
  | 0 => ("ClapBankModel", "code", "I", false)
  | 1 => ("ClapBankModel", "tape", "[B", true)
  | 2 => ("ClapBankModel", "size", "[I", true)
  | 3 => ("ClapBankModel", "fault", "[I", true)
  | 4 => ("ClapBankModel", "faultPlace", "[I", true)
  | 5 => ("ClapBankModel", "many", "[I", true)
  | 6 => ("ClapBankModel", "theatres", "[I", true)
  | 7 => ("ClapBankModel", "books", "[I", true)
  | 8 => ("ClapBankModel", "darks", "[I", true)
  | 9 => ("ClapBankModel", "reached", "I", false)
  | 10 => ("ClapBankModel", "length", "I", false)
  | 11 => ("ClapBankModel", "begins", "I", false)
  | 12 => ("ClapBankModel", "sort", "I", false)
  | 13 => ("ClapBankModel", "value", "I", false)
  | 14 => ("ClapBankModel", "word", "J", false)
  | 15 => ("ClapBankModel", "wrongAt", "I", false)
  | 16 => ("ClapBankModel", "laterFault", "I", false)
  | 17 => ("ClapBankModel", "laterPlace", "I", false)
  | 18 => ("ClapBankModel", "told", "[I", true)
  | 19 => ("ClapBankModel", "read", "[I", true)
  | 20 => ("ClapBankModel", "theatre", "I", false)
  | 21 => ("ClapBankModel", "palms", "I", false)
  | 22 => ("ClapBankModel", "actors", "I", false)
  | 23 => ("ClapBankModel", "rate", "I", false)
  | 24 => ("ClapBankModel", "book", "I", false)
  | 25 => ("ClapBankModel", "chest", "I", false)
  | 26 => ("ClapBankModel", "encores", "I", false)
  | 27 => ("ClapBankModel", "nights", "I", false)
  | 28 => ("ClapBankModel", "lives", "I", false)
  | 29 => ("ClapBankModel", "hushed", "I", false)
  | 30 => ("ClapBankModel", "claps", "I", false)
  | 31 => ("ClapBankModel", "echoFor", "I", false)
  | 32 => ("ClapBankModel", "left", "[I", true)
  | 33 => ("ClapBankModel", "owes", "[I", true)
  | 34 => ("ClapBankModel", "got", "[I", true)
  | 35 => ("ClapBankModel", "saved", "[I", true)
  | 36 => ("ClapBankModel", "storms", "[I", true)
  | 37 => ("ClapBankModel", "starved", "[I", true)
  | 38 => ("ClapBankModel", "capped", "Z", false)
  | 39 => ("ClapBankModel", "twoHands", "I", false)
  | 40 => ("ClapBankModel", "oneHand", "I", false)
  | 41 => ("ClapBankModel", "asks", "[I", true)
  | 42 => ("ClapBankModel", "wentTo", "[I", true)
  | 43 => ("ClapBankModel", "dark", "I", false)
  | 44 => ("ClapBankModel", "minutes", "I", false)
  | 45 => ("ClapBankModel", "ahead", "[J", true)
  | 46 => ("ClapBankModel", "behind", "[J", true)
  | 47 => ("ClapBankModel", "unit", "[I", true)
  | 48 => ("ClapBankModel", "seed", "I", false)
  | _ => ("ClapBankModel", "kept", "[Z", true)
def tyX10 : Nat → FieldType := fun k => match k with
  | 0 => .int
  | 1 => .array .byte
  | 2 => .array .int
  | 3 => .array .int
  | 4 => .array .int
  | 5 => .array .int
  | 6 => .array .int
  | 7 => .array .int
  | 8 => .array .int
  | 9 => .int
  | 10 => .int
  | 11 => .int
  | 12 => .int
  | 13 => .int
  | 14 => .long
  | 15 => .int
  | 16 => .int
  | 17 => .int
  | 18 => .array .int
  | 19 => .array .int
  | 20 => .int
  | 21 => .int
  | 22 => .int
  | 23 => .int
  | 24 => .int
  | 25 => .int
  | 26 => .int
  | 27 => .int
  | 28 => .int
  | 29 => .int
  | 30 => .int
  | 31 => .int
  | 32 => .array .int
  | 33 => .array .int
  | 34 => .array .int
  | 35 => .array .int
  | 36 => .array .int
  | 37 => .array .int
  | 38 => .boolean
  | 39 => .int
  | 40 => .int
  | 41 => .array .int
  | 42 => .array .int
  | 43 => .int
  | 44 => .int
  | 45 => .array .long
  | 46 => .array .long
  | 47 => .array .int
  | 48 => .int
  | _ => .array .boolean
def wsX0_init : List Cond := .code yX0_init cX0_init 1 none :: ([.methodLink RX0 3 objectInit, .instanceMethod objectInit, .code objectInit ⟨#[0xb1]⟩ 1 none, .arrayClass .int, .fieldLink RX0 9 "ClapBank$Book" "parts" "[I"] ++ wsX00)
def wsX1_init : List Cond := .code yX1_init cX1_init 1 none :: ([.methodLink RX1 3 objectInit, .instanceMethod objectInit, .code objectInit ⟨#[0xb1]⟩ 1 none, .arrayClass .int, .fieldLink RX1 9 "ClapBank$Dark" "halves" "[I"] ++ wsX10)
def wsX7_init : List Cond := .code yX7_init cX7_init 1 none :: ([.methodLink RX7 3 objectInit, .instanceMethod objectInit, .code objectInit ⟨#[0xb1]⟩ 1 none, .arrayClass .int, .fieldLink RX7 9 "ClapBank$Theatre" "claps" "[I", .fieldLink RX7 15 "ClapBank$Theatre" "hands" "[I", .fieldLink RX7 18 "ClapBank$Theatre" "hunger" "[I", .fieldLink RX7 21 "ClapBank$Theatre" "saved" "[I", .fieldLink RX7 24 "ClapBank$Theatre" "asks" "[I", .fieldLink RX7 27 "ClapBank$Theatre" "floors" "[I"] ++ wsX70)
def wsX2_init : List Cond := .code yX2_init cX2_init 1 none :: ([.methodLink RX2 3 objectInit, .instanceMethod objectInit, .code objectInit ⟨#[0xb1]⟩ 1 none, .classLink RX2 9 RX7, .instantiable RX7 12, .initialized RX7, .fieldLink RX2 12 "ClapBank$Evening" "house" "LClapBank$Theatre;", .arrayClass .int, .fieldLink RX2 18 "ClapBank$Evening" "left" "[I", .fieldLink RX2 22 "ClapBank$Evening" "owes" "[I", .fieldLink RX2 25 "ClapBank$Evening" "got" "[I", .fieldLink RX2 28 "ClapBank$Evening" "saved" "[I", .fieldLink RX2 31 "ClapBank$Evening" "starved" "[I", .fieldLink RX2 34 "ClapBank$Evening" "storms" "[I", .fieldLink RX2 37 "ClapBank$Evening" "drawnFrom" "[I", .instanceMethod yX7_init, .code yX7_init cX7_init 1 none, .methodLink RX7 3 objectInit, .fieldLink RX7 9 "ClapBank$Theatre" "claps" "[I", .fieldLink RX7 15 "ClapBank$Theatre" "hands" "[I", .fieldLink RX7 18 "ClapBank$Theatre" "hunger" "[I", .fieldLink RX7 21 "ClapBank$Theatre" "saved" "[I", .fieldLink RX7 24 "ClapBank$Theatre" "asks" "[I", .fieldLink RX7 27 "ClapBank$Theatre" "floors" "[I"] ++ wsX70 ++ wsX20)
def wsX3_init : List Cond := .code yX3_init cX3_init 1 none :: ([.methodLink RX3 3 objectInit, .instanceMethod objectInit, .code objectInit ⟨#[0xb1]⟩ 1 none])
def wsX4_init_r1 : List Cond := [Cond.methodLink RX4 3 objectInit, Cond.instanceMethod objectInit, Cond.code objectInit ⟨#[0xb1]⟩ 1 none, Cond.classLink RX4 9 RX7, Cond.instantiable RX7 12, Cond.initialized RX7, Cond.fieldLink RX4 12 "ClapBank$Hearing" "house" "LClapBank$Theatre;", Cond.classLink RX4 18 RX1, Cond.instantiable RX1 2, Cond.initialized RX1, Cond.fieldLink RX4 21 "ClapBank$Hearing" "dark" "LClapBank$Dark;", Cond.arrayClass .int, Cond.fieldLink RX4 25 "ClapBank$Hearing" "early" "[I", Cond.fieldLink RX4 29 "ClapBank$Hearing" "late" "[I", Cond.fieldLink RX4 32 "ClapBank$Hearing" "halvesOf" "[I", Cond.fieldLink RX4 35 "ClapBank$Hearing" "onceOf" "[I", Cond.instanceMethod yX7_init, Cond.code yX7_init cX7_init 1 none, Cond.methodLink RX7 3 objectInit, Cond.fieldLink RX7 9 "ClapBank$Theatre" "claps" "[I", Cond.fieldLink RX7 15 "ClapBank$Theatre" "hands" "[I", Cond.fieldLink RX7 18 "ClapBank$Theatre" "hunger" "[I", Cond.fieldLink RX7 21 "ClapBank$Theatre" "saved" "[I", Cond.fieldLink RX7 24 "ClapBank$Theatre" "asks" "[I"]
def wsX4_init_r2 : List Cond := [Cond.fieldLink RX7 27 "ClapBank$Theatre" "floors" "[I", Cond.instanceMethod yX1_init, Cond.code yX1_init cX1_init 1 none, Cond.methodLink RX1 3 objectInit, Cond.fieldLink RX1 9 "ClapBank$Dark" "halves" "[I"]
def wsX4_init : List Cond := .code yX4_init cX4_init 1 none :: ((wsX4_init_r1 ++ wsX4_init_r2) ++ wsX70 ++ wsX40 ++ wsX10)
def wsX5_init_r1 : List Cond := [Cond.methodLink RX5 3 objectInit, Cond.instanceMethod objectInit, Cond.code objectInit ⟨#[0xb1]⟩ 1 none, Cond.classLink RX5 9 RX7, Cond.instantiable RX7 12, Cond.initialized RX7, Cond.fieldLink RX5 12 "ClapBank$Reader" "theatre" "LClapBank$Theatre;", Cond.classLink RX5 18 RX0, Cond.instantiable RX0 2, Cond.initialized RX0, Cond.fieldLink RX5 21 "ClapBank$Reader" "book" "LClapBank$Book;", Cond.classLink RX5 25 RX1, Cond.instantiable RX1 2, Cond.initialized RX1, Cond.fieldLink RX5 28 "ClapBank$Reader" "dark" "LClapBank$Dark;", Cond.arrayClass .int, Cond.fieldLink RX5 32 "ClapBank$Reader" "numbers" "[I", Cond.instanceMethod yX7_init, Cond.code yX7_init cX7_init 1 none, Cond.methodLink RX7 3 objectInit, Cond.fieldLink RX7 9 "ClapBank$Theatre" "claps" "[I", Cond.fieldLink RX7 15 "ClapBank$Theatre" "hands" "[I", Cond.fieldLink RX7 18 "ClapBank$Theatre" "hunger" "[I", Cond.fieldLink RX7 21 "ClapBank$Theatre" "saved" "[I"]
def wsX5_init_r2 : List Cond := [Cond.fieldLink RX7 24 "ClapBank$Theatre" "asks" "[I", Cond.fieldLink RX7 27 "ClapBank$Theatre" "floors" "[I", Cond.instanceMethod yX0_init, Cond.code yX0_init cX0_init 1 none, Cond.methodLink RX0 3 objectInit, Cond.fieldLink RX0 9 "ClapBank$Book" "parts" "[I", Cond.instanceMethod yX1_init, Cond.code yX1_init cX1_init 1 none, Cond.methodLink RX1 3 objectInit, Cond.fieldLink RX1 9 "ClapBank$Dark" "halves" "[I"]
def wsX5_init : List Cond := .code yX5_init cX5_init 1 none :: ((wsX5_init_r1 ++ wsX5_init_r2) ++ wsX70 ++ wsX50 ++ wsX00 ++ wsX10)
def wsX6_init : List Cond := .code yX6_init cX6_init 1 none :: ([.methodLink RX6 3 objectInit, .instanceMethod objectInit, .code objectInit ⟨#[0xb1]⟩ 1 none, .arrayClass .int, .fieldLink RX6 9 "ClapBank$Rounds" "asks" "[I", .fieldLink RX6 15 "ClapBank$Rounds" "floors" "[I", .fieldLink RX6 18 "ClapBank$Rounds" "gains" "[I", .fieldLink RX6 21 "ClapBank$Rounds" "seen" "[I"] ++ wsX60)
def wsX8_init_r1 : List Cond := [Cond.methodLink RX8 3 objectInit, Cond.instanceMethod objectInit, Cond.code objectInit ⟨#[0xb1]⟩ 1 none, Cond.arrayClass .byte, Cond.fieldLink RX8 9 "ClapBank$Told" "tape" "[B", Cond.fieldLink RX8 15 "ClapBank$Told" "place" "I", Cond.classLink RX8 19 RX7, Cond.instantiable RX7 12, Cond.initialized RX7, Cond.fieldLink RX8 22 "ClapBank$Told" "firstTheatre" "LClapBank$Theatre;", Cond.fieldLink RX8 26 "ClapBank$Told" "secondTheatre" "LClapBank$Theatre;", Cond.classLink RX8 29 RX0, Cond.instantiable RX0 2, Cond.initialized RX0, Cond.fieldLink RX8 32 "ClapBank$Told" "firstBook" "LClapBank$Book;", Cond.fieldLink RX8 36 "ClapBank$Told" "secondBook" "LClapBank$Book;", Cond.classLink RX8 39 RX1, Cond.instantiable RX1 2, Cond.initialized RX1, Cond.fieldLink RX8 42 "ClapBank$Told" "firstDark" "LClapBank$Dark;", Cond.fieldLink RX8 46 "ClapBank$Told" "secondDark" "LClapBank$Dark;", Cond.instanceMethod yX7_init, Cond.code yX7_init cX7_init 1 none, Cond.methodLink RX7 3 objectInit]
def wsX8_init_r2 : List Cond := [Cond.arrayClass .int, Cond.fieldLink RX7 9 "ClapBank$Theatre" "claps" "[I", Cond.fieldLink RX7 15 "ClapBank$Theatre" "hands" "[I", Cond.fieldLink RX7 18 "ClapBank$Theatre" "hunger" "[I", Cond.fieldLink RX7 21 "ClapBank$Theatre" "saved" "[I", Cond.fieldLink RX7 24 "ClapBank$Theatre" "asks" "[I", Cond.fieldLink RX7 27 "ClapBank$Theatre" "floors" "[I", Cond.instanceMethod yX0_init, Cond.code yX0_init cX0_init 1 none, Cond.methodLink RX0 3 objectInit, Cond.fieldLink RX0 9 "ClapBank$Book" "parts" "[I", Cond.instanceMethod yX1_init, Cond.code yX1_init cX1_init 1 none, Cond.methodLink RX1 3 objectInit, Cond.fieldLink RX1 9 "ClapBank$Dark" "halves" "[I"]
def wsX8_init : List Cond := .code yX8_init cX8_init 1 none :: ((wsX8_init_r1 ++ wsX8_init_r2) ++ wsX80 ++ wsX70 ++ wsX00 ++ wsX10)
theorem dX0_init_0 : decode cX0_init 0 = .ok (.aload_n 0, 1) := by decide +kernel
theorem dX0_init_1 : decode cX0_init 1 = .ok (.invokespecial 3, 3) := by decide +kernel
theorem dX0_init_4 : decode cX0_init 4 = .ok (.aload_n 0, 1) := by decide +kernel
theorem dX0_init_5 : decode cX0_init 5 = .ok (.bipush 120, 2) := by decide +kernel
theorem dX0_init_7 : decode cX0_init 7 = .ok (.newarray .int, 2) := by decide +kernel
theorem dX0_init_9 : decode cX0_init 9 = .ok (.putfield 9, 3) := by decide +kernel
theorem dX0_init_12 : decode cX0_init 12 = .ok (.return_, 1) := by decide +kernel
theorem dX1_init_0 : decode cX1_init 0 = .ok (.aload_n 0, 1) := by decide +kernel
theorem dX1_init_1 : decode cX1_init 1 = .ok (.invokespecial 3, 3) := by decide +kernel
theorem dX1_init_4 : decode cX1_init 4 = .ok (.aload_n 0, 1) := by decide +kernel
theorem dX1_init_5 : decode cX1_init 5 = .ok (.bipush 6, 2) := by decide +kernel
theorem dX1_init_7 : decode cX1_init 7 = .ok (.newarray .int, 2) := by decide +kernel
theorem dX1_init_9 : decode cX1_init 9 = .ok (.putfield 9, 3) := by decide +kernel
theorem dX1_init_12 : decode cX1_init 12 = .ok (.return_, 1) := by decide +kernel
set_option maxRecDepth 20000 in
theorem ggX2_init_X7_init : GoodIn wsX2_init wsX7_init := goodIn_r _ [17, 18, 2, 3, 8, 19, 20, 21, 22, 23, 24, 25, 26, 27, 28, 29, 30, 31, 32, 33, 34, 35, 36] (by decide +kernel) (by decide +kernel)
set_option maxRecDepth 20000 in
theorem gX2_init_X7_init_n11 : GoodIn wsX2_init (wsX7_init) := ggX2_init_X7_init
theorem dX2_init_0 : decode cX2_init 0 = .ok (.aload_n 0, 1) := by decide +kernel
theorem dX2_init_1 : decode cX2_init 1 = .ok (.invokespecial 3, 3) := by decide +kernel
theorem dX2_init_4 : decode cX2_init 4 = .ok (.aload_n 0, 1) := by decide +kernel
theorem dX2_init_5 : decode cX2_init 5 = .ok (.new 9, 3) := by decide +kernel
theorem dX2_init_8 : decode cX2_init 8 = .ok (.dup, 1) := by decide +kernel
theorem dX2_init_9 : decode cX2_init 9 = .ok (.invokespecial 11, 3) := by decide +kernel
theorem dX2_init_12 : decode cX2_init 12 = .ok (.putfield 12, 3) := by decide +kernel
theorem dX2_init_15 : decode cX2_init 15 = .ok (.aload_n 0, 1) := by decide +kernel
theorem dX2_init_16 : decode cX2_init 16 = .ok (.iconst 5, 1) := by decide +kernel
theorem dX2_init_17 : decode cX2_init 17 = .ok (.newarray .int, 2) := by decide +kernel
theorem dX2_init_19 : decode cX2_init 19 = .ok (.putfield 18, 3) := by decide +kernel
theorem dX2_init_22 : decode cX2_init 22 = .ok (.aload_n 0, 1) := by decide +kernel
theorem dX2_init_23 : decode cX2_init 23 = .ok (.bipush 25, 2) := by decide +kernel
theorem dX2_init_25 : decode cX2_init 25 = .ok (.newarray .int, 2) := by decide +kernel
theorem dX2_init_27 : decode cX2_init 27 = .ok (.putfield 22, 3) := by decide +kernel
theorem dX2_init_30 : decode cX2_init 30 = .ok (.aload_n 0, 1) := by decide +kernel
theorem dX2_init_31 : decode cX2_init 31 = .ok (.bipush 30, 2) := by decide +kernel
theorem dX2_init_33 : decode cX2_init 33 = .ok (.newarray .int, 2) := by decide +kernel
theorem dX2_init_35 : decode cX2_init 35 = .ok (.putfield 25, 3) := by decide +kernel
theorem dX2_init_38 : decode cX2_init 38 = .ok (.aload_n 0, 1) := by decide +kernel
theorem dX2_init_39 : decode cX2_init 39 = .ok (.bipush 6, 2) := by decide +kernel
theorem dX2_init_41 : decode cX2_init 41 = .ok (.newarray .int, 2) := by decide +kernel
theorem dX2_init_43 : decode cX2_init 43 = .ok (.putfield 28, 3) := by decide +kernel
theorem dX2_init_46 : decode cX2_init 46 = .ok (.aload_n 0, 1) := by decide +kernel
theorem dX2_init_47 : decode cX2_init 47 = .ok (.bipush 6, 2) := by decide +kernel
theorem dX2_init_49 : decode cX2_init 49 = .ok (.newarray .int, 2) := by decide +kernel
theorem dX2_init_51 : decode cX2_init 51 = .ok (.putfield 31, 3) := by decide +kernel
theorem dX2_init_54 : decode cX2_init 54 = .ok (.aload_n 0, 1) := by decide +kernel
theorem dX2_init_55 : decode cX2_init 55 = .ok (.bipush 6, 2) := by decide +kernel
theorem dX2_init_57 : decode cX2_init 57 = .ok (.newarray .int, 2) := by decide +kernel
theorem dX2_init_59 : decode cX2_init 59 = .ok (.putfield 34, 3) := by decide +kernel
theorem dX2_init_62 : decode cX2_init 62 = .ok (.aload_n 0, 1) := by decide +kernel
theorem dX2_init_63 : decode cX2_init 63 = .ok (.bipush 6, 2) := by decide +kernel
theorem dX2_init_65 : decode cX2_init 65 = .ok (.newarray .int, 2) := by decide +kernel
theorem dX2_init_67 : decode cX2_init 67 = .ok (.putfield 37, 3) := by decide +kernel
theorem dX2_init_70 : decode cX2_init 70 = .ok (.return_, 1) := by decide +kernel
theorem dX3_init_0 : decode cX3_init 0 = .ok (.aload_n 0, 1) := by decide +kernel
theorem dX3_init_1 : decode cX3_init 1 = .ok (.invokespecial 3, 3) := by decide +kernel
theorem dX3_init_4 : decode cX3_init 4 = .ok (.return_, 1) := by decide +kernel
set_option maxRecDepth 20000 in
theorem ggX4_init_X7_init : GoodIn wsX4_init wsX7_init := goodIn_r _ [18, 19, 2, 3, 12, 20, 21, 22, 23, 24, 25, 30, 31, 32, 33, 34, 35, 36, 37, 38, 39, 40, 41] (by decide +kernel) (by decide +kernel)
set_option maxRecDepth 20000 in
theorem gX4_init_X7_init_n11 : GoodIn wsX4_init (wsX7_init) := ggX4_init_X7_init
set_option maxRecDepth 20000 in
theorem ggX4_init_X1_init : GoodIn wsX4_init wsX1_init := goodIn_r _ [27, 28, 2, 3, 12, 29, 51, 52] (by decide +kernel) (by decide +kernel)
set_option maxRecDepth 20000 in
theorem gX4_init_X1_init_n20 : GoodIn wsX4_init (wsX1_init) := ggX4_init_X1_init
theorem dX4_init_0 : decode cX4_init 0 = .ok (.aload_n 0, 1) := by decide +kernel
theorem dX4_init_1 : decode cX4_init 1 = .ok (.invokespecial 3, 3) := by decide +kernel
theorem dX4_init_4 : decode cX4_init 4 = .ok (.aload_n 0, 1) := by decide +kernel
theorem dX4_init_5 : decode cX4_init 5 = .ok (.new 9, 3) := by decide +kernel
theorem dX4_init_8 : decode cX4_init 8 = .ok (.dup, 1) := by decide +kernel
theorem dX4_init_9 : decode cX4_init 9 = .ok (.invokespecial 11, 3) := by decide +kernel
theorem dX4_init_12 : decode cX4_init 12 = .ok (.putfield 12, 3) := by decide +kernel
theorem dX4_init_15 : decode cX4_init 15 = .ok (.aload_n 0, 1) := by decide +kernel
theorem dX4_init_16 : decode cX4_init 16 = .ok (.new 18, 3) := by decide +kernel
theorem dX4_init_19 : decode cX4_init 19 = .ok (.dup, 1) := by decide +kernel
theorem dX4_init_20 : decode cX4_init 20 = .ok (.invokespecial 20, 3) := by decide +kernel
theorem dX4_init_23 : decode cX4_init 23 = .ok (.putfield 21, 3) := by decide +kernel
theorem dX4_init_26 : decode cX4_init 26 = .ok (.aload_n 0, 1) := by decide +kernel
theorem dX4_init_27 : decode cX4_init 27 = .ok (.sipush 1024, 3) := by decide +kernel
theorem dX4_init_30 : decode cX4_init 30 = .ok (.newarray .int, 2) := by decide +kernel
theorem dX4_init_32 : decode cX4_init 32 = .ok (.putfield 25, 3) := by decide +kernel
theorem dX4_init_35 : decode cX4_init 35 = .ok (.aload_n 0, 1) := by decide +kernel
theorem dX4_init_36 : decode cX4_init 36 = .ok (.sipush 1024, 3) := by decide +kernel
theorem dX4_init_39 : decode cX4_init 39 = .ok (.newarray .int, 2) := by decide +kernel
theorem dX4_init_41 : decode cX4_init 41 = .ok (.putfield 29, 3) := by decide +kernel
theorem dX4_init_44 : decode cX4_init 44 = .ok (.aload_n 0, 1) := by decide +kernel
theorem dX4_init_45 : decode cX4_init 45 = .ok (.bipush 32, 2) := by decide +kernel
theorem dX4_init_47 : decode cX4_init 47 = .ok (.newarray .int, 2) := by decide +kernel
theorem dX4_init_49 : decode cX4_init 49 = .ok (.putfield 32, 3) := by decide +kernel
theorem dX4_init_52 : decode cX4_init 52 = .ok (.aload_n 0, 1) := by decide +kernel
theorem dX4_init_53 : decode cX4_init 53 = .ok (.bipush 32, 2) := by decide +kernel
theorem dX4_init_55 : decode cX4_init 55 = .ok (.newarray .int, 2) := by decide +kernel
theorem dX4_init_57 : decode cX4_init 57 = .ok (.putfield 35, 3) := by decide +kernel
theorem dX4_init_60 : decode cX4_init 60 = .ok (.return_, 1) := by decide +kernel
set_option maxRecDepth 20000 in
theorem ggX5_init_X7_init : GoodIn wsX5_init wsX7_init := goodIn_r _ [19, 20, 2, 3, 16, 21, 22, 23, 24, 25, 26, 35, 36, 37, 38, 39, 40, 41, 42, 43, 44, 45, 46] (by decide +kernel) (by decide +kernel)
set_option maxRecDepth 20000 in
theorem gX5_init_X7_init_n11 : GoodIn wsX5_init (wsX7_init) := ggX5_init_X7_init
set_option maxRecDepth 20000 in
theorem ggX5_init_X0_init : GoodIn wsX5_init wsX0_init := goodIn_r _ [28, 29, 2, 3, 16, 30, 57, 58] (by decide +kernel) (by decide +kernel)
set_option maxRecDepth 20000 in
theorem gX5_init_X0_init_n20 : GoodIn wsX5_init (wsX0_init) := ggX5_init_X0_init
set_option maxRecDepth 20000 in
theorem ggX5_init_X1_init : GoodIn wsX5_init wsX1_init := goodIn_r _ [32, 33, 2, 3, 16, 34, 59, 60] (by decide +kernel) (by decide +kernel)
set_option maxRecDepth 20000 in
theorem gX5_init_X1_init_n27 : GoodIn wsX5_init (wsX1_init) := ggX5_init_X1_init
theorem dX5_init_0 : decode cX5_init 0 = .ok (.aload_n 0, 1) := by decide +kernel
theorem dX5_init_1 : decode cX5_init 1 = .ok (.invokespecial 3, 3) := by decide +kernel
theorem dX5_init_4 : decode cX5_init 4 = .ok (.aload_n 0, 1) := by decide +kernel
theorem dX5_init_5 : decode cX5_init 5 = .ok (.new 9, 3) := by decide +kernel
theorem dX5_init_8 : decode cX5_init 8 = .ok (.dup, 1) := by decide +kernel
theorem dX5_init_9 : decode cX5_init 9 = .ok (.invokespecial 11, 3) := by decide +kernel
theorem dX5_init_12 : decode cX5_init 12 = .ok (.putfield 12, 3) := by decide +kernel
theorem dX5_init_15 : decode cX5_init 15 = .ok (.aload_n 0, 1) := by decide +kernel
theorem dX5_init_16 : decode cX5_init 16 = .ok (.new 18, 3) := by decide +kernel
theorem dX5_init_19 : decode cX5_init 19 = .ok (.dup, 1) := by decide +kernel
theorem dX5_init_20 : decode cX5_init 20 = .ok (.invokespecial 20, 3) := by decide +kernel
theorem dX5_init_23 : decode cX5_init 23 = .ok (.putfield 21, 3) := by decide +kernel
theorem dX5_init_26 : decode cX5_init 26 = .ok (.aload_n 0, 1) := by decide +kernel
theorem dX5_init_27 : decode cX5_init 27 = .ok (.new 25, 3) := by decide +kernel
theorem dX5_init_30 : decode cX5_init 30 = .ok (.dup, 1) := by decide +kernel
theorem dX5_init_31 : decode cX5_init 31 = .ok (.invokespecial 27, 3) := by decide +kernel
theorem dX5_init_34 : decode cX5_init 34 = .ok (.putfield 28, 3) := by decide +kernel
theorem dX5_init_37 : decode cX5_init 37 = .ok (.aload_n 0, 1) := by decide +kernel
theorem dX5_init_38 : decode cX5_init 38 = .ok (.iconst 3, 1) := by decide +kernel
theorem dX5_init_39 : decode cX5_init 39 = .ok (.newarray .int, 2) := by decide +kernel
theorem dX5_init_41 : decode cX5_init 41 = .ok (.putfield 32, 3) := by decide +kernel
theorem dX5_init_44 : decode cX5_init 44 = .ok (.return_, 1) := by decide +kernel
theorem dX6_init_0 : decode cX6_init 0 = .ok (.aload_n 0, 1) := by decide +kernel
theorem dX6_init_1 : decode cX6_init 1 = .ok (.invokespecial 3, 3) := by decide +kernel
theorem dX6_init_4 : decode cX6_init 4 = .ok (.aload_n 0, 1) := by decide +kernel
theorem dX6_init_5 : decode cX6_init 5 = .ok (.iconst 4, 1) := by decide +kernel
theorem dX6_init_6 : decode cX6_init 6 = .ok (.newarray .int, 2) := by decide +kernel
theorem dX6_init_8 : decode cX6_init 8 = .ok (.putfield 9, 3) := by decide +kernel
theorem dX6_init_11 : decode cX6_init 11 = .ok (.aload_n 0, 1) := by decide +kernel
theorem dX6_init_12 : decode cX6_init 12 = .ok (.iconst 4, 1) := by decide +kernel
theorem dX6_init_13 : decode cX6_init 13 = .ok (.newarray .int, 2) := by decide +kernel
theorem dX6_init_15 : decode cX6_init 15 = .ok (.putfield 15, 3) := by decide +kernel
theorem dX6_init_18 : decode cX6_init 18 = .ok (.aload_n 0, 1) := by decide +kernel
theorem dX6_init_19 : decode cX6_init 19 = .ok (.iconst 4, 1) := by decide +kernel
theorem dX6_init_20 : decode cX6_init 20 = .ok (.newarray .int, 2) := by decide +kernel
theorem dX6_init_22 : decode cX6_init 22 = .ok (.putfield 18, 3) := by decide +kernel
theorem dX6_init_25 : decode cX6_init 25 = .ok (.aload_n 0, 1) := by decide +kernel
theorem dX6_init_26 : decode cX6_init 26 = .ok (.sipush 201, 3) := by decide +kernel
theorem dX6_init_29 : decode cX6_init 29 = .ok (.newarray .int, 2) := by decide +kernel
theorem dX6_init_31 : decode cX6_init 31 = .ok (.putfield 21, 3) := by decide +kernel
theorem dX6_init_34 : decode cX6_init 34 = .ok (.return_, 1) := by decide +kernel
theorem dX7_init_0 : decode cX7_init 0 = .ok (.aload_n 0, 1) := by decide +kernel
theorem dX7_init_1 : decode cX7_init 1 = .ok (.invokespecial 3, 3) := by decide +kernel
theorem dX7_init_4 : decode cX7_init 4 = .ok (.aload_n 0, 1) := by decide +kernel
theorem dX7_init_5 : decode cX7_init 5 = .ok (.iconst 5, 1) := by decide +kernel
theorem dX7_init_6 : decode cX7_init 6 = .ok (.newarray .int, 2) := by decide +kernel
theorem dX7_init_8 : decode cX7_init 8 = .ok (.putfield 9, 3) := by decide +kernel
theorem dX7_init_11 : decode cX7_init 11 = .ok (.aload_n 0, 1) := by decide +kernel
theorem dX7_init_12 : decode cX7_init 12 = .ok (.iconst 5, 1) := by decide +kernel
theorem dX7_init_13 : decode cX7_init 13 = .ok (.newarray .int, 2) := by decide +kernel
theorem dX7_init_15 : decode cX7_init 15 = .ok (.putfield 15, 3) := by decide +kernel
theorem dX7_init_18 : decode cX7_init 18 = .ok (.aload_n 0, 1) := by decide +kernel
theorem dX7_init_19 : decode cX7_init 19 = .ok (.bipush 6, 2) := by decide +kernel
theorem dX7_init_21 : decode cX7_init 21 = .ok (.newarray .int, 2) := by decide +kernel
theorem dX7_init_23 : decode cX7_init 23 = .ok (.putfield 18, 3) := by decide +kernel
theorem dX7_init_26 : decode cX7_init 26 = .ok (.aload_n 0, 1) := by decide +kernel
theorem dX7_init_27 : decode cX7_init 27 = .ok (.bipush 6, 2) := by decide +kernel
theorem dX7_init_29 : decode cX7_init 29 = .ok (.newarray .int, 2) := by decide +kernel
theorem dX7_init_31 : decode cX7_init 31 = .ok (.putfield 21, 3) := by decide +kernel
theorem dX7_init_34 : decode cX7_init 34 = .ok (.aload_n 0, 1) := by decide +kernel
theorem dX7_init_35 : decode cX7_init 35 = .ok (.iconst 4, 1) := by decide +kernel
theorem dX7_init_36 : decode cX7_init 36 = .ok (.newarray .int, 2) := by decide +kernel
theorem dX7_init_38 : decode cX7_init 38 = .ok (.putfield 24, 3) := by decide +kernel
theorem dX7_init_41 : decode cX7_init 41 = .ok (.aload_n 0, 1) := by decide +kernel
theorem dX7_init_42 : decode cX7_init 42 = .ok (.iconst 4, 1) := by decide +kernel
theorem dX7_init_43 : decode cX7_init 43 = .ok (.newarray .int, 2) := by decide +kernel
theorem dX7_init_45 : decode cX7_init 45 = .ok (.putfield 27, 3) := by decide +kernel
theorem dX7_init_48 : decode cX7_init 48 = .ok (.return_, 1) := by decide +kernel
set_option maxRecDepth 20000 in
theorem ggX8_init_X7_init : GoodIn wsX8_init wsX7_init := goodIn_r _ [23, 24, 2, 3, 25, 26, 27, 28, 29, 30, 31, 53, 54, 55, 56, 57, 58, 59, 60, 61, 62, 63, 64] (by decide +kernel) (by decide +kernel)
set_option maxRecDepth 20000 in
theorem gX8_init_X7_init_n21 : GoodIn wsX8_init (wsX7_init) := ggX8_init_X7_init
set_option maxRecDepth 20000 in
theorem ggX8_init_X0_init : GoodIn wsX8_init wsX0_init := goodIn_r _ [33, 34, 2, 3, 25, 35, 65, 66] (by decide +kernel) (by decide +kernel)
set_option maxRecDepth 20000 in
theorem gX8_init_X0_init_n31 : GoodIn wsX8_init (wsX0_init) := ggX8_init_X0_init
set_option maxRecDepth 20000 in
theorem ggX8_init_X1_init : GoodIn wsX8_init wsX1_init := goodIn_r _ [37, 38, 2, 3, 25, 39, 67, 68] (by decide +kernel) (by decide +kernel)
set_option maxRecDepth 20000 in
theorem gX8_init_X1_init_n41 : GoodIn wsX8_init (wsX1_init) := ggX8_init_X1_init
theorem dX8_init_0 : decode cX8_init 0 = .ok (.aload_n 0, 1) := by decide +kernel
theorem dX8_init_1 : decode cX8_init 1 = .ok (.invokespecial 3, 3) := by decide +kernel
theorem dX8_init_4 : decode cX8_init 4 = .ok (.aload_n 0, 1) := by decide +kernel
theorem dX8_init_5 : decode cX8_init 5 = .ok (.sipush 600, 3) := by decide +kernel
theorem dX8_init_8 : decode cX8_init 8 = .ok (.newarray .byte, 2) := by decide +kernel
theorem dX8_init_10 : decode cX8_init 10 = .ok (.putfield 9, 3) := by decide +kernel
theorem dX8_init_13 : decode cX8_init 13 = .ok (.aload_n 0, 1) := by decide +kernel
theorem dX8_init_14 : decode cX8_init 14 = .ok (.iconst (-1), 1) := by decide +kernel
theorem dX8_init_15 : decode cX8_init 15 = .ok (.putfield 15, 3) := by decide +kernel
theorem dX8_init_18 : decode cX8_init 18 = .ok (.aload_n 0, 1) := by decide +kernel
theorem dX8_init_19 : decode cX8_init 19 = .ok (.new 19, 3) := by decide +kernel
theorem dX8_init_22 : decode cX8_init 22 = .ok (.dup, 1) := by decide +kernel
theorem dX8_init_23 : decode cX8_init 23 = .ok (.invokespecial 21, 3) := by decide +kernel
theorem dX8_init_26 : decode cX8_init 26 = .ok (.putfield 22, 3) := by decide +kernel
theorem dX8_init_29 : decode cX8_init 29 = .ok (.aload_n 0, 1) := by decide +kernel
theorem dX8_init_30 : decode cX8_init 30 = .ok (.new 19, 3) := by decide +kernel
theorem dX8_init_33 : decode cX8_init 33 = .ok (.dup, 1) := by decide +kernel
theorem dX8_init_34 : decode cX8_init 34 = .ok (.invokespecial 21, 3) := by decide +kernel
theorem dX8_init_37 : decode cX8_init 37 = .ok (.putfield 26, 3) := by decide +kernel
theorem dX8_init_40 : decode cX8_init 40 = .ok (.aload_n 0, 1) := by decide +kernel
theorem dX8_init_41 : decode cX8_init 41 = .ok (.new 29, 3) := by decide +kernel
theorem dX8_init_44 : decode cX8_init 44 = .ok (.dup, 1) := by decide +kernel
theorem dX8_init_45 : decode cX8_init 45 = .ok (.invokespecial 31, 3) := by decide +kernel
theorem dX8_init_48 : decode cX8_init 48 = .ok (.putfield 32, 3) := by decide +kernel
theorem dX8_init_51 : decode cX8_init 51 = .ok (.aload_n 0, 1) := by decide +kernel
theorem dX8_init_52 : decode cX8_init 52 = .ok (.new 29, 3) := by decide +kernel
theorem dX8_init_55 : decode cX8_init 55 = .ok (.dup, 1) := by decide +kernel
theorem dX8_init_56 : decode cX8_init 56 = .ok (.invokespecial 31, 3) := by decide +kernel
theorem dX8_init_59 : decode cX8_init 59 = .ok (.putfield 36, 3) := by decide +kernel
theorem dX8_init_62 : decode cX8_init 62 = .ok (.aload_n 0, 1) := by decide +kernel
theorem dX8_init_63 : decode cX8_init 63 = .ok (.new 39, 3) := by decide +kernel
theorem dX8_init_66 : decode cX8_init 66 = .ok (.dup, 1) := by decide +kernel
theorem dX8_init_67 : decode cX8_init 67 = .ok (.invokespecial 41, 3) := by decide +kernel
theorem dX8_init_70 : decode cX8_init 70 = .ok (.putfield 42, 3) := by decide +kernel
theorem dX8_init_73 : decode cX8_init 73 = .ok (.aload_n 0, 1) := by decide +kernel
theorem dX8_init_74 : decode cX8_init 74 = .ok (.new 39, 3) := by decide +kernel
theorem dX8_init_77 : decode cX8_init 77 = .ok (.dup, 1) := by decide +kernel
theorem dX8_init_78 : decode cX8_init 78 = .ok (.invokespecial 41, 3) := by decide +kernel
theorem dX8_init_81 : decode cX8_init 81 = .ok (.putfield 46, 3) := by decide +kernel
theorem dX8_init_84 : decode cX8_init 84 = .ok (.return_, 1) := by decide +kernel
abbrev vwCl : List vw_C := [(RX0, TX0, 2), (RX1, TX1, 2), (RX2, TX2, 14), (RX3, TX3, 3), (RX4, TX4, 9), (RX5, TX5, 10), (RX6, TX6, 7), (RX7, TX7, 12), (RX8, TX8, 13), (RX9, TX9, 7), (RX10, TX10, 50)]
end
section
/-! nest links: one bundle for all methods -/
def nzl : List Cond := [
  .fieldLinkNest "ClapBank$Feast" 15 "ClapBank$Theatre" "palms" "I" "ClapBank",
  .fieldLinkNest "ClapBank$Hearing" 42 "ClapBank$Theatre" "palms" "I" "ClapBank",
  .fieldLinkNest "ClapBank$Evening" 103 "ClapBank$Theatre" "palms" "I" "ClapBank",
  .fieldLinkNest "ClapBank$Reader" 166 "ClapBank$Theatre" "palms" "I" "ClapBank",
  .fieldLinkNest "ClapBank" 234 "ClapBank$Theatre" "palms" "I" "ClapBank",
  .fieldLinkNest "ClapBank$Evening" 40 "ClapBank$Theatre" "claps" "[I" "ClapBank",
  .fieldLinkNest "ClapBank$Hearing" 81 "ClapBank$Theatre" "claps" "[I" "ClapBank",
  .fieldLinkNest "ClapBank$Feast" 25 "ClapBank$Theatre" "hands" "[I" "ClapBank",
  .fieldLinkNest "ClapBank$Hearing" 45 "ClapBank$Theatre" "hands" "[I" "ClapBank",
  .fieldLinkNest "ClapBank$Evening" 107 "ClapBank$Theatre" "hands" "[I" "ClapBank",
  .fieldLinkNest "ClapBank$Evening" 96 "ClapBank$Theatre" "actors" "I" "ClapBank",
  .fieldLinkNest "ClapBank$Reader" 169 "ClapBank$Theatre" "actors" "I" "ClapBank",
  .fieldLinkNest "ClapBank" 206 "ClapBank$Theatre" "actors" "I" "ClapBank",
  .fieldLinkNest "ClapBank$Evening" 140 "ClapBank$Theatre" "hunger" "[I" "ClapBank",
  .fieldLinkNest "ClapBank$Evening" 49 "ClapBank$Theatre" "saved" "[I" "ClapBank",
  .fieldLinkNest "ClapBank$Rounds" 24 "ClapBank$Theatre" "usurers" "I" "ClapBank",
  .fieldLinkNest "ClapBank$Reader" 172 "ClapBank$Theatre" "usurers" "I" "ClapBank",
  .fieldLinkNest "ClapBank" 162 "ClapBank$Theatre" "usurers" "I" "ClapBank",
  .fieldLinkNest "ClapBank$Rounds" 35 "ClapBank$Theatre" "asks" "[I" "ClapBank",
  .fieldLinkNest "ClapBank$Rounds" 42 "ClapBank$Theatre" "floors" "[I" "ClapBank",
  .fieldLinkNest "ClapBank$Reader" 191 "ClapBank$Theatre" "rate" "I" "ClapBank",
  .fieldLinkNest "ClapBank$Evening" 155 "ClapBank$Theatre" "rate" "I" "ClapBank",
  .fieldLinkNest "ClapBank$Evening" 56 "ClapBank$Theatre" "chest" "I" "ClapBank",
  .fieldLinkNest "ClapBank$Reader" 193 "ClapBank$Theatre" "chest" "I" "ClapBank",
  .fieldLinkNest "ClapBank$Rounds" 31 "ClapBank$Theatre" "borrowers" "I" "ClapBank",
  .fieldLinkNest "ClapBank$Reader" 195 "ClapBank$Theatre" "borrowers" "I" "ClapBank",
  .fieldLinkNest "ClapBank$Reader" 39 "ClapBank$Book" "deeds" "I" "ClapBank",
  .fieldLinkNest "ClapBank$Evening" 87 "ClapBank$Book" "deeds" "I" "ClapBank",
  .fieldLinkNest "ClapBank" 100 "ClapBank$Book" "deeds" "I" "ClapBank",
  .fieldLinkNest "ClapBank$Reader" 43 "ClapBank$Dark" "minutes" "I" "ClapBank",
  .fieldLinkNest "ClapBank$Hearing" 48 "ClapBank$Dark" "minutes" "I" "ClapBank",
  .fieldLinkNest "ClapBank" 176 "ClapBank$Dark" "minutes" "I" "ClapBank",
  .fieldLinkNest "ClapBank$Hearing" 74 "ClapBank$Dark" "halves" "[I" "ClapBank",
  .fieldLinkNest "ClapBank" 184 "ClapBank$Dark" "halves" "[I" "ClapBank",
  .fieldLinkNest "ClapBank" 73 "ClapBank$Told" "tape" "[B" "ClapBank",
  .fieldLinkNest "ClapBank" 55 "ClapBank$Told" "length" "I" "ClapBank",
  .fieldLinkNest "ClapBank" 63 "ClapBank$Told" "fault" "I" "ClapBank",
  .fieldLinkNest "ClapBank" 66 "ClapBank$Told" "place" "I" "ClapBank",
  .fieldLinkNest "ClapBank$Told" 61 "ClapBank$Reader" "theatre" "LClapBank$Theatre;" "ClapBank",
  .fieldLinkNest "ClapBank$Told" 76 "ClapBank$Reader" "book" "LClapBank$Book;" "ClapBank",
  .fieldLinkNest "ClapBank$Told" 82 "ClapBank$Reader" "dark" "LClapBank$Dark;" "ClapBank",
  .fieldLinkNest "ClapBank" 81 "ClapBank$Reader" "fault" "I" "ClapBank",
  .fieldLinkNest "ClapBank" 82 "ClapBank$Reader" "place" "I" "ClapBank",
  .fieldLinkNest "ClapBank$Feast" 9 "ClapBank$Evening" "house" "LClapBank$Theatre;" "ClapBank",
  .fieldLinkNest "ClapBank$Feast" 29 "ClapBank$Evening" "left" "[I" "ClapBank",
  .fieldLinkNest "ClapBank" 213 "ClapBank$Evening" "saved" "[I" "ClapBank",
  .fieldLinkNest "ClapBank" 219 "ClapBank$Evening" "chest" "I" "ClapBank",
  .fieldLinkNest "ClapBank" 169 "ClapBank$Rounds" "period" "I" "ClapBank",
  .fieldLinkNest "ClapBank" 155 "ClapBank$Rounds" "asks" "[I" "ClapBank",
  .fieldLinkNest "ClapBank" 159 "ClapBank$Rounds" "gains" "[I" "ClapBank",
  .fieldLinkNest "ClapBank" 200 "ClapBank$Hearing" "any" "I" "ClapBank",
  .fieldLinkNest "ClapBank" 203 "ClapBank$Hearing" "all" "I" "ClapBank",
  .methodLinkNest "ClapBank" 9 ⟨"ClapBank$Told", "<init>", "()V"⟩ "ClapBank",
  .methodLinkNest "ClapBank$Told" 21 ⟨"ClapBank$Theatre", "<init>", "()V"⟩ "ClapBank",
  .methodLinkNest "ClapBank$Told" 31 ⟨"ClapBank$Book", "<init>", "()V"⟩ "ClapBank",
  .methodLinkNest "ClapBank$Told" 41 ⟨"ClapBank$Dark", "<init>", "()V"⟩ "ClapBank",
  .methodLinkNest "ClapBank" 22 ⟨"ClapBank$Reader", "<init>", "()V"⟩ "ClapBank",
  .methodLinkNest "ClapBank$Reader" 11 ⟨"ClapBank$Theatre", "<init>", "()V"⟩ "ClapBank",
  .methodLinkNest "ClapBank$Reader" 20 ⟨"ClapBank$Book", "<init>", "()V"⟩ "ClapBank",
  .methodLinkNest "ClapBank$Reader" 27 ⟨"ClapBank$Dark", "<init>", "()V"⟩ "ClapBank",
  .methodLinkNest "ClapBank" 29 ⟨"ClapBank$Evening", "<init>", "()V"⟩ "ClapBank",
  .methodLinkNest "ClapBank$Evening" 11 ⟨"ClapBank$Theatre", "<init>", "()V"⟩ "ClapBank",
  .methodLinkNest "ClapBank" 36 ⟨"ClapBank$Feast", "<init>", "()V"⟩ "ClapBank",
  .methodLinkNest "ClapBank" 43 ⟨"ClapBank$Rounds", "<init>", "()V"⟩ "ClapBank",
  .methodLinkNest "ClapBank" 50 ⟨"ClapBank$Hearing", "<init>", "()V"⟩ "ClapBank",
  .methodLinkNest "ClapBank$Hearing" 11 ⟨"ClapBank$Theatre", "<init>", "()V"⟩ "ClapBank",
  .methodLinkNest "ClapBank$Hearing" 20 ⟨"ClapBank$Dark", "<init>", "()V"⟩ "ClapBank"]
def nz (U : State) : Prop := ∀ w ∈ nzl, va_Nw w U
theorem nz_at {U : State} (h : nz U) (k : Nat) {w : Cond} (hk : nzl[k]? = some w) : va_Nw w U := h w (List.mem_of_getElem? hk)
def nz_ok : Cond → Bool
  | .fieldLinkNest _ _ _ _ _ _ => true
  | .methodLinkNest _ _ _ _ => true
  | _ => false
theorem nz_all : nzl.all nz_ok = true := by decide +kernel
theorem nz_tab {w : Cond} (h : nz_ok w = true) : w.onTables = true := by
  cases w <;> first | rfl | exact absurd h (by simp [nz_ok])
theorem nz_warm {s U : State} (hW : s.WarmedH U.vm) (h : nz s) : nz U := by
  intro w hw
  have h1 := List.all_eq_true.mp nz_all w hw
  have h2 := h w hw
  cases w <;> first | exact va_Nw.warmF hW h2 | exact va_Nw.warmM hW h2 | exact absurd h1 (by simp [nz_ok])
theorem nz_same {u U : State} (h : u.vm = U.vm) (hz : nz u) : nz U := fun w hw => va_Nw.same (nz_tab (List.all_eq_true.mp nz_all w hw)) h (hz w hw)
abbrev tyL (cI cB cJ cZ cT : ClassId) : List (ClassId × FieldType) := [(cI, .int), (cB, .byte), (cJ, .long), (cZ, .boolean), (cT, .object "ClapBank$Told")]
def KK (D : va_G) (ty : List (ClassId × FieldType)) (U : State) : Prop := va_K D vwCl ty U ∧ nz U ∧ va_AO RX8 U
theorem KK.warm {D : va_G} {ty : List (ClassId × FieldType)} {s U : State} (hW : s.WarmedH U.vm) (h : KK D ty s) : KK D ty U := ⟨va_K.moved hW.alike h.1, nz_warm hW h.2.1, va_AO.moved hW.alike h.2.2⟩
theorem KK.call {D : va_G} {ty : List (ClassId × FieldType)} {U : State} {g : JFrame} {mk : MethodId} {a : Array Value} (h : KK D ty U) : KK D ty (U.calling g mk a) := ⟨va_K.moved (u := U) (U := U.calling g mk a) (Vm.Alike.refl U.vm) h.1, nz_same (u := U) (U := U.calling g mk a) rfl h.2.1, va_AO.moved (u := U) (U := U.calling g mk a) (Vm.Alike.refl U.vm) h.2.2⟩
theorem kk_i {D : va_G} {cI cB cJ cZ cT cA : ClassId} {s : State} (h : va_K D vwCl (tyL cI cB cJ cZ cT ++ [(cA, .int)]) s) : cI = cA := by
  have h1 := (h.2 0 (cI, .int) rfl).2
  have h2 := (h.2 5 (cA, .int) rfl).2
  exact Option.some.inj (h1.symm.trans h2)
theorem kk_b {D : va_G} {cI cB cJ cZ cT cA : ClassId} {s : State} (h : va_K D vwCl (tyL cI cB cJ cZ cT ++ [(cA, .byte)]) s) : cB = cA := by
  have h1 := (h.2 1 (cB, .byte) rfl).2
  have h2 := (h.2 5 (cA, .byte) rfl).2
  exact Option.some.inj (h1.symm.trans h2)
theorem kk_j {D : va_G} {cI cB cJ cZ cT cA : ClassId} {s : State} (h : va_K D vwCl (tyL cI cB cJ cZ cT ++ [(cA, .long)]) s) : cJ = cA := by
  have h1 := (h.2 2 (cJ, .long) rfl).2
  have h2 := (h.2 5 (cA, .long) rfl).2
  exact Option.some.inj (h1.symm.trans h2)
theorem kk_z {D : va_G} {cI cB cJ cZ cT cA : ClassId} {s : State} (h : va_K D vwCl (tyL cI cB cJ cZ cT ++ [(cA, .boolean)]) s) : cZ = cA := by
  have h1 := (h.2 3 (cZ, .boolean) rfl).2
  have h2 := (h.2 5 (cA, .boolean) rfl).2
  exact Option.some.inj (h1.symm.trans h2)
theorem kk_t {D : va_G} {cI cB cJ cZ cT cA : ClassId} {s : State} (h : va_K D vwCl (tyL cI cB cJ cZ cT ++ [(cA, .object "ClapBank$Told")]) s) : cT = cA := by
  obtain ⟨-, -, -, -, -, h1⟩ := (h.2 4 (cT, .object "ClapBank$Told") rfl).2
  obtain ⟨-, -, -, -, -, h2⟩ := (h.2 5 (cA, .object "ClapBank$Told") rfl).2
  exact Option.some.inj (h1.symm.trans h2)
def PreW (D : va_G) (ty : List (ClassId × FieldType)) (W0 : va_W) (sz : Nat) : State → Prop := fun U => U.heap.size = sz ∧ va_P D vwCl W0 U.heap ∧ KK D ty U ∧ va_D (fun _ => True) W0
def BW {S : Type} (D : va_G) (A : Nat → Prop) (w1 : S → va_W) : S → State → Prop := fun u t => va_P D vwCl (w1 u) t.heap ∧ va_D A (w1 u)
def Qo {S : Type} (o : S → Option Value) (post : S → Prop) (B : S → State → Prop) (A : Nat → Prop) : Array Value → State → Outcome → State → Prop := fun _ st oc t => (∃ u : S, oc = .returned (o u) ∧ post u ∧ B u t) ∧ va_F A st t
/-- a contract: from the world W0 with arguments av, the answer 'o u', the world 'w1 u', for some u with 'post u' -/
def Co {S : Type} (l : Launch) (y : MethodName) (ws : List Cond) (rm : Room) (D : va_G) (ty : List (ClassId × FieldType)) (av : List Value) (W0 : va_W) (o : S → Option Value) (post : S → Prop) (w1 : S → va_W) (mc ms : Nat) : Prop :=
  ∀ sz : Nat, Met l y ws rm (va_Pc av (PreW D ty W0 sz)) (Qo o post (BW D (va_A W0 sz) w1) (va_A W0 sz)) mc ms (va_A W0 sz)
theorem pre_blind {av : List Value} {D : va_G} {ty : List (ClassId × FieldType)} {W0 : va_W} {sz : Nat} : FrameBlind (va_Pc av (PreW D ty W0 sz)) := fun a U g mk q => ⟨q.1, q.2.1, q.2.2.1, KK.call q.2.2.2.1, q.2.2.2.2⟩
theorem fset_eq {fs : List Value} {k : Nat} {v : Value} (h : k < fs.length) : (fs.set k v)[k]? = some v := by simp [h]
theorem fset_ne {fs : List Value} {k j : Nat} {v w : Value} (h : k ≠ j) (hj : fs[j]? = some w) : (fs.set k v)[j]? = some w := by rw [List.getElem?_set_ne h]; exact hj
theorem fset_len {fs : List Value} {k n : Nat} {v : Value} (h : fs.length = n) : (fs.set k v).length = n := by rw [List.length_set]; exact h
theorem i_add {x y : Int32} {X Y : Int} (hx : x.toInt = X) (hy : y.toInt = Y) (h1 : -2147483648 ≤ X + Y) (h2 : X + Y < 2147483648) : (x + y).toInt = X + Y := by
  subst hx; subst hy
  rw [Int32.toInt_add]
  exact Int.bmod_eq_of_le (by simpa using h1) (by simpa using h2)
theorem i_sub {x y : Int32} {X Y : Int} (hx : x.toInt = X) (hy : y.toInt = Y) (h1 : -2147483648 ≤ X - Y) (h2 : X - Y < 2147483648) : (x - y).toInt = X - Y := by
  subst hx; subst hy
  rw [Int32.toInt_sub]
  exact Int.bmod_eq_of_le (by simpa using h1) (by simpa using h2)
theorem i_mul {x y : Int32} {X Y : Int} (hx : x.toInt = X) (hy : y.toInt = Y) (h1 : -2147483648 ≤ X * Y) (h2 : X * Y < 2147483648) : (x * y).toInt = X * Y := by
  subst hx; subst hy
  rw [Int32.toInt_mul]
  exact Int.bmod_eq_of_le (by simpa using h1) (by simpa using h2)
theorem i_rng (x : Int32) : -2147483648 ≤ x.toInt ∧ x.toInt < 2147483648 := ⟨Int32.le_toInt x, Int32.toInt_lt x⟩
theorem i_in {x : Int32} {X : Int} {n : Nat} (hx : x.toInt = X) (h1 : 0 ≤ X) (h2 : X < n) : vp_in x n := vp_in_iff.mpr (by rw [hx]; exact ⟨h1, h2⟩)
theorem i_cl {x : Int32} {X : Int} {k : Nat} (hx : x.toInt = X) (h1 : X = k) : x.toNatClampNeg = k := by
  have h : x.toNatClampNeg = x.toInt.toNat := rfl
  rw [h, hx, h1]; rfl
theorem i_eq {x y : Int32} {X Y : Int} (hx : x.toInt = X) (hy : y.toInt = Y) (h : X = Y) : x = y := Int32.toInt_inj.mp (by rw [hx, hy, h])
section BB
variable {p : Program} {l : Launch} {e : Env} {R : Room} {s : State} {m : MethodId} {args : Array Value} {below : List Frame} {meth : Method} {c : Code} {H : Heap} {locs : List Loc} {cells slots : Nat} {Q : State → Prop}
variable {cc : ByteArray} {pc : Nat} {ls : Array Slot} {rest : List Value}
theorem vz_i {x y : Int32} (h : x = y) (k : W p l e R s m args below meth c H locs cells slots Q (F0 m pc ls (.int y :: rest))) : W p l e R s m args below meth c H locs cells slots Q (F0 m pc ls (.int x :: rest)) := by subst h; exact k
theorem vz_l {x y : Int64} (h : x = y) (k : W p l e R s m args below meth c H locs cells slots Q (F0 m pc ls (.long y :: rest))) : W p l e R s m args below meth c H locs cells slots Q (F0 m pc ls (.long x :: rest)) := by subst h; exact k
theorem bi_eq (hx : p.tables.exec = Jvm.exec) (hb : c.code = cc) {x : Int32} {X : Int} (hX : x.toInt = X) {off : Int} {tgt : Nat} (hdg : decode cc pc = .ok (.ifCond .eq off, 3)) (ht : (pc : Int) + off = (tgt : Int))
    (kt : X = 0 → W p l e R s m args below meth c H locs cells slots Q (F0 m tgt ls rest)) (kf : X ≠ 0 → W p l e R s m args below meth c H locs cells slots Q (F0 m (pc + 3) ls rest)) : W p l e R s m args below meth c H locs cells slots Q (F0 m pc ls (.int x :: rest)) :=
  lv_if_eq hx hb hdg ht (fun h => kt (by rw [← hX, h]; rfl)) (fun h => kf (fun q => h (Int32.toInt_inj.mp (by rw [hX, q]; rfl))))
theorem bi_ne (hx : p.tables.exec = Jvm.exec) (hb : c.code = cc) {x : Int32} {X : Int} (hX : x.toInt = X) {off : Int} {tgt : Nat} (hdg : decode cc pc = .ok (.ifCond .ne off, 3)) (ht : (pc : Int) + off = (tgt : Int))
    (kt : X ≠ 0 → W p l e R s m args below meth c H locs cells slots Q (F0 m tgt ls rest)) (kf : X = 0 → W p l e R s m args below meth c H locs cells slots Q (F0 m (pc + 3) ls rest)) : W p l e R s m args below meth c H locs cells slots Q (F0 m pc ls (.int x :: rest)) :=
  lv_if_ne hx hb hdg ht (fun h => kt (fun q => h (Int32.toInt_inj.mp (by rw [hX, q]; rfl)))) (fun h => kf (by rw [← hX]; rw [h]; rfl))
theorem bi_lt (hx : p.tables.exec = Jvm.exec) (hb : c.code = cc) {x : Int32} {X : Int} (hX : x.toInt = X) {off : Int} {tgt : Nat} (hdg : decode cc pc = .ok (.ifCond .lt off, 3)) (ht : (pc : Int) + off = (tgt : Int))
    (kt : X < 0 → W p l e R s m args below meth c H locs cells slots Q (F0 m tgt ls rest)) (kf : 0 ≤ X → W p l e R s m args below meth c H locs cells slots Q (F0 m (pc + 3) ls rest)) : W p l e R s m args below meth c H locs cells slots Q (F0 m pc ls (.int x :: rest)) :=
  lv_if_lt hx hb hdg ht (fun h => kt (by rw [← hX]; exact Int32.lt_iff_toInt_lt.mp h)) (fun h => kf (by rw [← hX]; have h : ¬ x.toInt < (0 : Int32).toInt := fun q => h (Int32.lt_iff_toInt_lt.mpr q); have z : (0 : Int32).toInt = 0 := rfl; omega))
theorem bi_ge (hx : p.tables.exec = Jvm.exec) (hb : c.code = cc) {x : Int32} {X : Int} (hX : x.toInt = X) {off : Int} {tgt : Nat} (hdg : decode cc pc = .ok (.ifCond .ge off, 3)) (ht : (pc : Int) + off = (tgt : Int))
    (kt : 0 ≤ X → W p l e R s m args below meth c H locs cells slots Q (F0 m tgt ls rest)) (kf : X < 0 → W p l e R s m args below meth c H locs cells slots Q (F0 m (pc + 3) ls rest)) : W p l e R s m args below meth c H locs cells slots Q (F0 m pc ls (.int x :: rest)) :=
  lv_if_ge hx hb hdg ht (fun h => kt (by rw [← hX]; exact Int32.le_iff_toInt_le.mp h)) (fun h => kf (by rw [← hX]; have h : ¬ (0 : Int32).toInt ≤ x.toInt := fun q => h (Int32.le_iff_toInt_le.mpr q); have z : (0 : Int32).toInt = 0 := rfl; omega))
theorem bi_gt (hx : p.tables.exec = Jvm.exec) (hb : c.code = cc) {x : Int32} {X : Int} (hX : x.toInt = X) {off : Int} {tgt : Nat} (hdg : decode cc pc = .ok (.ifCond .gt off, 3)) (ht : (pc : Int) + off = (tgt : Int))
    (kt : 0 < X → W p l e R s m args below meth c H locs cells slots Q (F0 m tgt ls rest)) (kf : X ≤ 0 → W p l e R s m args below meth c H locs cells slots Q (F0 m (pc + 3) ls rest)) : W p l e R s m args below meth c H locs cells slots Q (F0 m pc ls (.int x :: rest)) :=
  lv_if_gt hx hb hdg ht (fun h => kt (by rw [← hX]; exact Int32.lt_iff_toInt_lt.mp h)) (fun h => kf (by rw [← hX]; have h : ¬ (0 : Int32).toInt < x.toInt := fun q => h (Int32.lt_iff_toInt_lt.mpr q); have z : (0 : Int32).toInt = 0 := rfl; omega))
theorem bi_le (hx : p.tables.exec = Jvm.exec) (hb : c.code = cc) {x : Int32} {X : Int} (hX : x.toInt = X) {off : Int} {tgt : Nat} (hdg : decode cc pc = .ok (.ifCond .le off, 3)) (ht : (pc : Int) + off = (tgt : Int))
    (kt : X ≤ 0 → W p l e R s m args below meth c H locs cells slots Q (F0 m tgt ls rest)) (kf : 0 < X → W p l e R s m args below meth c H locs cells slots Q (F0 m (pc + 3) ls rest)) : W p l e R s m args below meth c H locs cells slots Q (F0 m pc ls (.int x :: rest)) :=
  lv_if_le hx hb hdg ht (fun h => kt (by rw [← hX]; exact Int32.le_iff_toInt_le.mp h)) (fun h => kf (by rw [← hX]; have h : ¬ x.toInt ≤ (0 : Int32).toInt := fun q => h (Int32.le_iff_toInt_le.mpr q); have z : (0 : Int32).toInt = 0 := rfl; omega))
theorem bc_eq (hx : p.tables.exec = Jvm.exec) (hb : c.code = cc) {x y : Int32} {X Y : Int} (hX : x.toInt = X) (hY : y.toInt = Y) {off : Int} {tgt : Nat} (hdg : decode cc pc = .ok (.if_icmp .eq off, 3)) (ht : (pc : Int) + off = (tgt : Int))
    (kt : X = Y → W p l e R s m args below meth c H locs cells slots Q (F0 m tgt ls rest)) (kf : X ≠ Y → W p l e R s m args below meth c H locs cells slots Q (F0 m (pc + 3) ls rest)) : W p l e R s m args below meth c H locs cells slots Q (F0 m pc ls (.int y :: .int x :: rest)) :=
  lv_icmp_eq hx hb hdg ht (fun h => kt (by rw [← hX, ← hY, h])) (fun h => kf (fun q => h (Int32.toInt_inj.mp (by rw [hX, hY, q]))))
theorem bc_ne (hx : p.tables.exec = Jvm.exec) (hb : c.code = cc) {x y : Int32} {X Y : Int} (hX : x.toInt = X) (hY : y.toInt = Y) {off : Int} {tgt : Nat} (hdg : decode cc pc = .ok (.if_icmp .ne off, 3)) (ht : (pc : Int) + off = (tgt : Int))
    (kt : X ≠ Y → W p l e R s m args below meth c H locs cells slots Q (F0 m tgt ls rest)) (kf : X = Y → W p l e R s m args below meth c H locs cells slots Q (F0 m (pc + 3) ls rest)) : W p l e R s m args below meth c H locs cells slots Q (F0 m pc ls (.int y :: .int x :: rest)) :=
  lv_icmp_ne hx hb hdg ht (fun h => kt (fun q => h (Int32.toInt_inj.mp (by rw [hX, hY, q])))) (fun h => kf (by rw [← hX, ← hY, h]))
theorem bc_lt (hx : p.tables.exec = Jvm.exec) (hb : c.code = cc) {x y : Int32} {X Y : Int} (hX : x.toInt = X) (hY : y.toInt = Y) {off : Int} {tgt : Nat} (hdg : decode cc pc = .ok (.if_icmp .lt off, 3)) (ht : (pc : Int) + off = (tgt : Int))
    (kt : X < Y → W p l e R s m args below meth c H locs cells slots Q (F0 m tgt ls rest)) (kf : Y ≤ X → W p l e R s m args below meth c H locs cells slots Q (F0 m (pc + 3) ls rest)) : W p l e R s m args below meth c H locs cells slots Q (F0 m pc ls (.int y :: .int x :: rest)) :=
  lv_icmp_lt hx hb hdg ht (fun h => kt (by rw [← hX, ← hY]; exact Int32.lt_iff_toInt_lt.mp h)) (fun h => kf (by rw [← hX, ← hY]; have h : ¬ x.toInt < y.toInt := fun q => h (Int32.lt_iff_toInt_lt.mpr q); omega))
theorem bc_ge (hx : p.tables.exec = Jvm.exec) (hb : c.code = cc) {x y : Int32} {X Y : Int} (hX : x.toInt = X) (hY : y.toInt = Y) {off : Int} {tgt : Nat} (hdg : decode cc pc = .ok (.if_icmp .ge off, 3)) (ht : (pc : Int) + off = (tgt : Int))
    (kt : Y ≤ X → W p l e R s m args below meth c H locs cells slots Q (F0 m tgt ls rest)) (kf : X < Y → W p l e R s m args below meth c H locs cells slots Q (F0 m (pc + 3) ls rest)) : W p l e R s m args below meth c H locs cells slots Q (F0 m pc ls (.int y :: .int x :: rest)) :=
  lv_icmp_ge hx hb hdg ht (fun h => kt (by rw [← hX, ← hY]; exact Int32.le_iff_toInt_le.mp h)) (fun h => kf (by rw [← hX, ← hY]; have h : ¬ y.toInt ≤ x.toInt := fun q => h (Int32.le_iff_toInt_le.mpr q); omega))
theorem bc_gt (hx : p.tables.exec = Jvm.exec) (hb : c.code = cc) {x y : Int32} {X Y : Int} (hX : x.toInt = X) (hY : y.toInt = Y) {off : Int} {tgt : Nat} (hdg : decode cc pc = .ok (.if_icmp .gt off, 3)) (ht : (pc : Int) + off = (tgt : Int))
    (kt : Y < X → W p l e R s m args below meth c H locs cells slots Q (F0 m tgt ls rest)) (kf : X ≤ Y → W p l e R s m args below meth c H locs cells slots Q (F0 m (pc + 3) ls rest)) : W p l e R s m args below meth c H locs cells slots Q (F0 m pc ls (.int y :: .int x :: rest)) :=
  lv_icmp_gt hx hb hdg ht (fun h => kt (by rw [← hX, ← hY]; exact Int32.lt_iff_toInt_lt.mp h)) (fun h => kf (by rw [← hX, ← hY]; have h : ¬ y.toInt < x.toInt := fun q => h (Int32.lt_iff_toInt_lt.mpr q); omega))
theorem bc_le (hx : p.tables.exec = Jvm.exec) (hb : c.code = cc) {x y : Int32} {X Y : Int} (hX : x.toInt = X) (hY : y.toInt = Y) {off : Int} {tgt : Nat} (hdg : decode cc pc = .ok (.if_icmp .le off, 3)) (ht : (pc : Int) + off = (tgt : Int))
    (kt : X ≤ Y → W p l e R s m args below meth c H locs cells slots Q (F0 m tgt ls rest)) (kf : Y < X → W p l e R s m args below meth c H locs cells slots Q (F0 m (pc + 3) ls rest)) : W p l e R s m args below meth c H locs cells slots Q (F0 m pc ls (.int y :: .int x :: rest)) :=
  lv_icmp_le hx hb hdg ht (fun h => kt (by rw [← hX, ← hY]; exact Int32.le_iff_toInt_le.mp h)) (fun h => kf (by rw [← hX, ← hY]; have h : ¬ x.toInt ≤ y.toInt := fun q => h (Int32.le_iff_toInt_le.mpr q); omega))
variable {S : Type} {o : S → Option Value} {post : S → Prop} {w1 : S → va_W} {D : va_G} {A : Nat → Prop}
theorem ro_i {v : Int32} (hx : p.tables.exec = Jvm.exec) (hb : c.code = cc) (hr : meth.sig.returnType = some .int) (hlocks : meth.locks = false) (u : S) (ho : o u = some (.int v)) (hp : post u) (hP : va_P D vwCl (w1 u) H) (hD : va_D A (w1 u)) (hS : va_S A s.heap H locs) (hdg : decode cc pc = .ok (.ireturn, 1)) : W p l e R s m args below meth c H locs cells slots (MQ below (Qo o post (BW D A w1) A) args s cells slots A) (F0 m pc ls [.int v]) :=
  W.iret hx hb hr (fun t ht _ => ⟨⟨u, by rw [ho], hp, by rw [ht]; exact hP, hD⟩, hS.F ht⟩) hS.2.2 hdg hlocks
theorem ro_z {v : Int32} (hx : p.tables.exec = Jvm.exec) (hb : c.code = cc) (hr : meth.sig.returnType = some .boolean) (hn : narrow .boolean (.int v) = .int v) (hlocks : meth.locks = false) (u : S) (ho : o u = some (.int v)) (hp : post u) (hP : va_P D vwCl (w1 u) H) (hD : va_D A (w1 u)) (hS : va_S A s.heap H locs) (hdg : decode cc pc = .ok (.ireturn, 1)) : W p l e R s m args below meth c H locs cells slots (MQ below (Qo o post (BW D A w1) A) args s cells slots A) (F0 m pc ls [.int v]) :=
  W.zret hx hb hr hn (fun t ht _ => ⟨⟨u, by rw [ho], hp, by rw [ht]; exact hP, hD⟩, hS.F ht⟩) hS.2.2 hdg hlocks
theorem ro_l {v : Int64} (hx : p.tables.exec = Jvm.exec) (hb : c.code = cc) (hr : meth.sig.returnType = some .long) (hlocks : meth.locks = false) (u : S) (ho : o u = some (.long v)) (hp : post u) (hP : va_P D vwCl (w1 u) H) (hD : va_D A (w1 u)) (hS : va_S A s.heap H locs) (hdg : decode cc pc = .ok (.lreturn, 1)) : W p l e R s m args below meth c H locs cells slots (MQ below (Qo o post (BW D A w1) A) args s cells slots A) (F0 m pc ls [.long v]) :=
  W.lret hx hb hr (fun t ht _ => ⟨⟨u, by rw [ho], hp, by rw [ht]; exact hP, hD⟩, hS.F ht⟩) hS.2.2 hdg hlocks
theorem ro_v (hx : p.tables.exec = Jvm.exec) (hb : c.code = cc) (hr : meth.sig.returnType = none) (hlocks : meth.locks = false) (u : S) (ho : o u = none) (hp : post u) (hP : va_P D vwCl (w1 u) H) (hD : va_D A (w1 u)) (hS : va_S A s.heap H locs) (hdg : decode cc pc = .ok (.return_, 1)) : W p l e R s m args below meth c H locs cells slots (MQ below (Qo o post (BW D A w1) A) args s cells slots A) (F0 m pc ls []) :=
  W.vret hx hb hr (fun t ht _ => ⟨⟨u, by rw [ho], hp, by rw [ht]; exact hP, hD⟩, hS.F ht⟩) hS.2.2 hdg hlocks
theorem ro_a {v : Value} {cn : String} (hx : p.tables.exec = Jvm.exec) (hb : c.code = cc) (hr : meth.sig.returnType = some (.object cn)) (hv : v = .null ∨ ∃ a, v = .ref a) (hlocks : meth.locks = false) (u : S) (ho : o u = some v) (hp : post u) (hP : va_P D vwCl (w1 u) H) (hD : va_D A (w1 u)) (hS : va_S A s.heap H locs) (hdg : decode cc pc = .ok (.areturn, 1)) : W p l e R s m args below meth c H locs cells slots (MQ below (Qo o post (BW D A w1) A) args s cells slots A) (F0 m pc ls [v]) :=
  W.aret hx hb hr (Or.inl ⟨_, rfl⟩) hv (fun t ht _ => ⟨⟨u, by rw [ho], hp, by rw [ht]; exact hP, hD⟩, hS.F ht⟩) hS.2.2 hdg hlocks
variable {st0 : List Value} {a : Array Value} {A0 A1 : Nat → Prop} {H0 : Heap} {mc ms : Nat} {free : Addr → Prop} {B : S → State → Prop}
theorem callo (hr : va_Run p l e R s m args below meth c H locs cells slots mc ms (F0 m pc ls st0) rest (Qo o post B A1 a) free) (hS : va_S A0 H0 H locs) (hA : ∀ q, q < H.size → A1 q → A0 q) (hf : ∀ q, free q → A0 q)
    (kk : ∀ (u : S) (t : State) (H1 : Heap) (locs1 : List Loc), t.heap = H1 → post u → B u t → H.size ≤ H1.size → (∀ q : Nat, q < H.size → ¬ A1 q → H1[q]? = H[q]?) → va_S A0 H0 H1 locs1 → W p l e R s m args below meth c H1 locs1 (cells + mc) (slots + ms) Q (F0 m (pc + 3) ls ((o u).toList ++ rest))) : W p l e R s m args below meth c H locs cells slots Q (F0 m pc ls st0) := by
  intro T hT X
  obtain ⟨v, st₀, t, T', L, h0, X', hL, e1, e2, ⟨⟨u, hv, hp, hb⟩, hz, hk⟩, st⟩ := hr T hT X
  cases hv
  rw [h0] at hz hk
  obtain ⟨t2, a1, b1⟩ := kk u t T'.heap (locs ++ L) e1.symm hp hb (by rw [e1]; exact hz) (fun q h1 h2 => by rw [e1]; exact hk q h1 h2)
    ⟨Nat.le_trans hS.1 (by rw [e1]; exact hz), fun q h1 h2 => by rw [e1, hk q (Nat.lt_of_lt_of_le h1 hS.1) (fun z => h2 (hA q (Nat.lt_of_lt_of_le h1 hS.1) z))]; exact hS.2.1 q h1 h2, fun q hq => by
      rcases List.mem_append.mp hq with h | h
      · exact hS.2.2 q h
      · exact hf _ (hL q h)⟩ T' rfl X'
  exact ⟨t2, st t2 a1, b1⟩
/-- a call and the frame behind it -/
theorem callW {ws wc wr : va_W} (hP : va_P D vwCl ws H) (hD : va_D A0 ws) (hS : va_S A0 H0 H locs) (hA : ∀ q, H0.size ≤ q → A0 q) (isC isR : List Nat) (hC : isC.map (fun i => ws[i]?) = wc.map some) (hR : isR.map (fun i => ws[i]?) = wr.map some) (hn : va_nd isR = true) (hdis : ∀ i ∈ isR, i ∉ isC)
    (hr : va_Run p l e R s m args below meth c H locs cells slots mc ms (F0 m pc ls st0) rest (Qo o post (BW D (va_A wc H.size) w1) (va_A wc H.size) a) (va_A wc H.size))
    (kk : ∀ (u : S) (H1 : Heap) (locs1 : List Loc), post u → va_P D vwCl (wr ++ w1 u) H1 → va_D A0 (wr ++ w1 u) → va_S A0 H0 H1 locs1 → W p l e R s m args below meth c H1 locs1 (cells + mc) (slots + ms) Q (F0 m (pc + 3) ls ((o u).toList ++ rest))) : W p l e R s m args below meth c H locs cells slots Q (F0 m pc ls st0) := by
  have hF := va_free (wc := wc) hD hS hA isC hC
  refine callo hr hS (fun q _ h => hF q h) hF (fun u t H1 locs1 ht hp hB hz hk hS1 => ?_)
  obtain ⟨hP1, hD1⟩ := hB
  rw [ht] at hP1
  obtain ⟨hP2, hD2⟩ := va_join (wr := wr) hP hD isC isR hC hR hn hdis hk hF hP1 hD1
  exact kk u H1 locs1 hp hP2 hD2 hS1
variable {y : MethodName} {bytes : ByteArray} {maxL nL n index : Nat} {ret : Option FieldType} {wsc ws' : List Cond} {rm : Room} {Ts : List Cond} {own C host : String} {T : u_T} {N : Nat} {b : Addr} {As : List Value} {ty : List (ClassId × FieldType)}
theorem wP_of {ws wc : va_W} (hP : va_P D vwCl ws H) (isC : List Nat) (hC : isC.map (fun i => ws[i]?) = wc.map some) : va_P D vwCl wc H := fun k q hq => by
  have hz : (isC.map (fun i => ws[i]?))[k]? = some (some q) := by rw [hC, List.getElem?_map, hq]; rfl
  rw [List.getElem?_map] at hz
  obtain ⟨i, -, hi⟩ := Option.map_eq_some_iff.mp hz
  exact hP i q hi
theorem pre_at {ws wc : va_W} {av : List Value} (hK : KK D ty s) (hP : va_P D vwCl ws H) (hD : va_D A0 ws) (isC : List Nat) (hC : isC.map (fun i => ws[i]?) = wc.map some) (hnC : va_nd isC = true) : ∀ U : State, U.heap = H → s.WarmedH U.vm → va_Pc av (PreW D ty wc H.size) av.toArray U :=
  fun U hU hW => ⟨rfl, by rw [hU], by rw [hU]; exact wP_of hP isC hC, KK.warm hW hK, (hD.sub isC hnC hC).weaken (fun _ _ _ _ => trivial)⟩
theorem doV (hx : p.tables.exec = Jvm.exec) (hb : c.code = cc) (hml : c.maxLocals = nL) (hown : s.vm.findClass own = some m.cls) (hts : ∀ w ∈ Ts, w.before args s = true) (hK : KK D ty s)
    {ws wc wr : va_W} (hP : va_P D vwCl ws H) (hD : va_D A0 ws) (hS : va_S A0 H0 H locs) (hA : ∀ q, H0.size ≤ q → A0 q) (isC isR : List Nat) (hC : isC.map (fun i => ws[i]?) = wc.map some) (hR : isR.map (fun i => ws[i]?) = wr.map some) (hnC : va_nd isC = true) (hn : va_nd isR = true) (hdis : ∀ i ∈ isR, i ∉ isC)
    (q0 : Nat) {ci : Nat} {fs : List Value} (he : ws[q0]? = some (b, .inr (ci, fs))) (hc : vwCl[ci]? = some (C, T, N))
    (hM : Co l y wsc rm D ty (.ref b :: As) wc o post w1 mc ms) (hG : GoodIn Ts (wsV own index C y wsc)) (hw : wsc = Cond.code y bytes maxL ret :: ws') (hrc : rm.cells = mc) (hrs : rm.slots = ms)
    (hd : y.cls = C ∧ y.cls ≠ "java/lang/invoke/MethodHandle" ∧ y.cls ≠ "java/lang/invoke/VarHandle" ∧ (parseMethodDescriptor y.desc).map (fun d => d.parameters.length) = some n) (hrm : rm.frames + 1 ≤ R.frames ∧ 8 + (maxL + 11) + rm.locals ≤ R.locals)
    (hl : ls.size = nL) (hst : st0 = As.reverse ++ .ref b :: rest) (hAs : As.length = n) (hroom : (rest.map fun v => v.category).sum ≤ 8) (hdg : decode cc pc = .ok (.invokevirtual index, 3)) (hf : cells + mc ≤ R.cells ∧ slots + ms ≤ R.slots)
    (kk : ∀ (u : S) (H1 : Heap) (locs1 : List Loc), post u → va_P D vwCl (wr ++ w1 u) H1 → va_D A0 (wr ++ w1 u) → va_S A0 H0 H1 locs1 → W p l e R s m args below meth c H1 locs1 (cells + mc) (slots + ms) Q (F0 m (pc + 3) ls ((o u).toList ++ rest))) : W p l e R s m args below meth c H locs cells slots Q (F0 m pc ls st0) :=
  callW hP hD hS hA isC isR hC hR hn hdis (va_runV (As := As) (rest := rest) ⟨hx, hb, hml, hown, hts⟩ (hM H.size) (cwV n hts hG hw hrc hrs hd hrm) ⟨pre_blind, va_recv hK.1 hP hc he, pre_at hK hP hD isC hC hnC⟩ rfl hAs hl hst (lv_room hroom) hdg hf) kk
theorem doS (hx : p.tables.exec = Jvm.exec) (hb : c.code = cc) (hml : c.maxLocals = nL) (hown : s.vm.findClass own = some m.cls) (hts : ∀ w ∈ Ts, w.before args s = true) (hK : KK D ty s)
    {ws wc wr : va_W} (hP : va_P D vwCl ws H) (hD : va_D A0 ws) (hS : va_S A0 H0 H locs) (hA : ∀ q, H0.size ≤ q → A0 q) (isC isR : List Nat) (hC : isC.map (fun i => ws[i]?) = wc.map some) (hR : isR.map (fun i => ws[i]?) = wr.map some) (hnC : va_nd isC = true) (hn : va_nd isR = true) (hdis : ∀ i ∈ isR, i ∉ isC)
    (hM : Co l y wsc rm D ty As wc o post w1 mc ms) (hG : GoodIn Ts (va_wsS own index y wsc)) (hw : wsc = Cond.code y bytes maxL ret :: ws') (hrc : rm.cells = mc) (hrs : rm.slots = ms)
    (hd : y.cls ≠ "java/lang/invoke/MethodHandle" ∧ y.cls ≠ "java/lang/invoke/VarHandle" ∧ (parseMethodDescriptor y.desc).map (fun d => d.parameters.length) = some n) (hrm : rm.frames + 1 ≤ R.frames ∧ 8 + (maxL + 11) + rm.locals ≤ R.locals)
    (hl : ls.size = nL) (hst : st0 = As.reverse ++ rest) (hAs : As.length = n) (hroom : (rest.map fun v => v.category).sum ≤ 8) (hdg : decode cc pc = .ok (.invokestatic index, 3)) (hf : cells + mc ≤ R.cells ∧ slots + ms ≤ R.slots)
    (kk : ∀ (u : S) (H1 : Heap) (locs1 : List Loc), post u → va_P D vwCl (wr ++ w1 u) H1 → va_D A0 (wr ++ w1 u) → va_S A0 H0 H1 locs1 → W p l e R s m args below meth c H1 locs1 (cells + mc) (slots + ms) Q (F0 m (pc + 3) ls ((o u).toList ++ rest))) : W p l e R s m args below meth c H locs cells slots Q (F0 m pc ls st0) :=
  callW hP hD hS hA isC isR hC hR hn hdis (va_runS (As := As) (rest := rest) ⟨hx, hb, hml, hown, hts⟩ (hM H.size) (va_cwS n hts hG hw hrc hrs hd hrm) ⟨pre_blind, pre_at hK hP hD isC hC hnC⟩ rfl hAs hl hst (lv_room hroom) hdg hf) kk
theorem doN (hx : p.tables.exec = Jvm.exec) (hb : c.code = cc) (hml : c.maxLocals = nL) (hown : s.vm.findClass own = some m.cls) (hts : ∀ w ∈ Ts, w.before args s = true) (hK : KK D ty s)
    {ws wc wr : va_W} (hP : va_P D vwCl ws H) (hD : va_D A0 ws) (hS : va_S A0 H0 H locs) (hA : ∀ q, H0.size ≤ q → A0 q) (isC isR : List Nat) (hC : isC.map (fun i => ws[i]?) = wc.map some) (hR : isR.map (fun i => ws[i]?) = wr.map some) (hnC : va_nd isC = true) (hn : va_nd isR = true) (hdis : ∀ i ∈ isR, i ∉ isC)
    (hM : Co l y wsc rm D ty (.ref b :: As) wc o post w1 mc ms) (hG : GoodIn Ts wsc) (hw : wsc = Cond.code y bytes maxL none :: ws') (hrc : rm.cells = mc) (hrs : rm.slots = ms)
    (hln : va_Nw (.methodLinkNest own index y host) s) (hini : (Cond.initialized y.cls).before args s = true) (hin : (Cond.instanceMethod y).before args s = true) (hy1 : y.name = "<init>") (hd : y.cls ≠ "java/lang/invoke/MethodHandle" ∧ y.cls ≠ "java/lang/invoke/VarHandle" ∧ (parseMethodDescriptor y.desc).map (fun d => d.parameters.length) = some n) (hrm : rm.frames + 1 ≤ R.frames ∧ 8 + (maxL + 11) + rm.locals ≤ R.locals)
    (hl : ls.size = nL) (hst : st0 = As.reverse ++ .ref b :: rest) (hAs : As.length = n) (hroom : (rest.map fun v => v.category).sum ≤ 8) (hdg : decode cc pc = .ok (.invokespecial index, 3)) (hf : cells + mc ≤ R.cells ∧ slots + ms ≤ R.slots)
    (kk : ∀ (u : S) (H1 : Heap) (locs1 : List Loc), post u → va_P D vwCl (wr ++ w1 u) H1 → va_D A0 (wr ++ w1 u) → va_S A0 H0 H1 locs1 → W p l e R s m args below meth c H1 locs1 (cells + mc) (slots + ms) Q (F0 m (pc + 3) ls ((o u).toList ++ rest))) : W p l e R s m args below meth c H locs cells slots Q (F0 m pc ls st0) :=
  callW hP hD hS hA isC isR hC hR hn hdis (va_runIN (As := As) (rest := rest) ⟨hx, hb, hml, hown, hts⟩ (hM H.size) ⟨va_cnB n hts hG hw hrc hrs hln hini hd hrm, hy1, hin⟩ ⟨pre_blind, pre_at hK hP hD isC hC hnC⟩ rfl hAs hl hst (lv_room hroom) hdg hf) kk
theorem doI (hx : p.tables.exec = Jvm.exec) (hb : c.code = cc) (hml : c.maxLocals = nL) (hown : s.vm.findClass own = some m.cls) (hts : ∀ w ∈ Ts, w.before args s = true) (hK : KK D ty s)
    {ws wc wr : va_W} (hP : va_P D vwCl ws H) (hD : va_D A0 ws) (hS : va_S A0 H0 H locs) (hA : ∀ q, H0.size ≤ q → A0 q) (isC isR : List Nat) (hC : isC.map (fun i => ws[i]?) = wc.map some) (hR : isR.map (fun i => ws[i]?) = wr.map some) (hnC : va_nd isC = true) (hn : va_nd isR = true) (hdis : ∀ i ∈ isR, i ∉ isC)
    (hM : Co l y wsc rm D ty (.ref b :: As) wc o post w1 mc ms) (hG : GoodIn Ts wsc) (hw : wsc = Cond.code y bytes maxL none :: ws') (hrc : rm.cells = mc) (hrs : rm.slots = ms)
    (hln : (Cond.methodLink own index y).before args s = true) (hini : (Cond.initialized y.cls).before args s = true) (hin : (Cond.instanceMethod y).before args s = true) (hy1 : y.name = "<init>") (hd : y.cls ≠ "java/lang/invoke/MethodHandle" ∧ y.cls ≠ "java/lang/invoke/VarHandle" ∧ (parseMethodDescriptor y.desc).map (fun d => d.parameters.length) = some n) (hrm : rm.frames + 1 ≤ R.frames ∧ 8 + (maxL + 11) + rm.locals ≤ R.locals)
    (hl : ls.size = nL) (hst : st0 = As.reverse ++ .ref b :: rest) (hAs : As.length = n) (hroom : (rest.map fun v => v.category).sum ≤ 8) (hdg : decode cc pc = .ok (.invokespecial index, 3)) (hf : cells + mc ≤ R.cells ∧ slots + ms ≤ R.slots)
    (kk : ∀ (u : S) (H1 : Heap) (locs1 : List Loc), post u → va_P D vwCl (wr ++ w1 u) H1 → va_D A0 (wr ++ w1 u) → va_S A0 H0 H1 locs1 → W p l e R s m args below meth c H1 locs1 (cells + mc) (slots + ms) Q (F0 m (pc + 3) ls ((o u).toList ++ rest))) : W p l e R s m args below meth c H locs cells slots Q (F0 m pc ls st0) :=
  callW hP hD hS hA isC isR hC hR hn hdis (va_runI (As := As) (rest := rest) ⟨hx, hb, hml, hown, hts⟩ (hM H.size) (cwI n hts hG hw hrc hrs hini hln hin hy1 hd hrm) ⟨pre_blind, pre_at hK hP hD isC hC hnC⟩ rfl hAs hl hst (lv_room hroom) hdg hf) kk
end BB
/-- a method's start -/
theorem entry {S : Type} {l : Launch} {y : MethodName} {ws ws' : List Cond} {rm : Room} {D : va_G} {ty : List (ClassId × FieldType)} {av : List Value} {W0 : va_W} {o : S → Option Value} {post : S → Prop} {w1 : S → va_W} {mc ms : Nat} {cc : ByteArray} {maxL : Nat} {ret : Option FieldType} (hy : plainName y.cls = true) (hw : ws = Cond.code y cc maxL ret :: ws') (hn : (lg_sl av).length ≤ maxL)
    (body : ∀ (p : Program) (e : Env) (s : State) (m : MethodId) (below : List Frame) (meth : Method) (c : Code) (A : Nat → Prop) (ls : Array Slot), p.tables.exec = Jvm.exec → c.code = cc → meth.sig.returnType = ret → c.maxLocals = maxL → (∀ w ∈ ws, w.before av.toArray s = true) → s.vm.findClass y.cls = some m.cls → meth.locks = false → meth.name = y.name → KK D ty s → va_P D vwCl W0 s.heap → va_D A W0 → va_S A s.heap s.heap [] → (∀ q : Nat, s.heap.size ≤ q → A q) → lv_has ls maxL (lv_args 0 av) → W p l e rm s m av.toArray below meth c s.heap [] 0 0 (MQ below (Qo o post (BW D A w1) A) av.toArray s mc ms A) (F0 m 0 ls [])) : Co l y ws rm D ty av W0 o post w1 mc ms := by
  intro sz
  refine Met.ofW (cc := cc) (maxL := maxL) (ret := ret) hy hw ?_
  intro p e s m args below meth c s₁ B hml hv
  obtain ⟨rfl, hsz, hP, hK, hD0⟩ := hv
  subst hsz
  have hl := lv_entry av (n := maxL) hn
  rw [lg_entry_eq]
  exact body p e s m below meth c _ _ B.exec B.bytes B.returns hml (atoms_spec (ws := ws) B.pre) (findClass_of_methodNamed B.named) B.notSynchronized (name_of_methodNamed B.named B.method).1 hK hP hD0.self va_S.rf (fun q h => Or.inr h) hl
theorem dfX0 : ∀ j, j < 2 → defaultValue (tyX0 j) = vp_V [.int 0, .null] j := by
  intro j hj
  match j, hj with
  | 0, _ => rfl
  | 1, _ => rfl
  | j + 2, hj => exact absurd hj (by omega)
theorem dfX1 : ∀ j, j < 2 → defaultValue (tyX1 j) = vp_V [.int 0, .null] j := by
  intro j hj
  match j, hj with
  | 0, _ => rfl
  | 1, _ => rfl
  | j + 2, hj => exact absurd hj (by omega)
theorem dfX2 : ∀ j, j < 14 → defaultValue (tyX2 j) = vp_V [.null, .null, .null, .null, .null, .null, .null, .null, .int 0, .int 0, .int 0, .int 0, .int 0, .int 0] j := by
  intro j hj
  match j, hj with
  | 0, _ => rfl
  | 1, _ => rfl
  | 2, _ => rfl
  | 3, _ => rfl
  | 4, _ => rfl
  | 5, _ => rfl
  | 6, _ => rfl
  | 7, _ => rfl
  | 8, _ => rfl
  | 9, _ => rfl
  | 10, _ => rfl
  | 11, _ => rfl
  | 12, _ => rfl
  | 13, _ => rfl
  | j + 14, hj => exact absurd hj (by omega)
theorem dfX3 : ∀ j, j < 3 → defaultValue (tyX3 j) = vp_V [.int 0, .int 0, .int 0] j := by
  intro j hj
  match j, hj with
  | 0, _ => rfl
  | 1, _ => rfl
  | 2, _ => rfl
  | j + 3, hj => exact absurd hj (by omega)
theorem dfX4 : ∀ j, j < 9 → defaultValue (tyX4 j) = vp_V [.null, .null, .null, .null, .null, .null, .int 0, .int 0, .int 0] j := by
  intro j hj
  match j, hj with
  | 0, _ => rfl
  | 1, _ => rfl
  | 2, _ => rfl
  | 3, _ => rfl
  | 4, _ => rfl
  | 5, _ => rfl
  | 6, _ => rfl
  | 7, _ => rfl
  | 8, _ => rfl
  | j + 9, hj => exact absurd hj (by omega)
theorem dfX5 : ∀ j, j < 10 → defaultValue (tyX5 j) = vp_V [.null, .null, .null, .null, .int 0, .int 0, .int 0, .int 0, .int 0, .int 0] j := by
  intro j hj
  match j, hj with
  | 0, _ => rfl
  | 1, _ => rfl
  | 2, _ => rfl
  | 3, _ => rfl
  | 4, _ => rfl
  | 5, _ => rfl
  | 6, _ => rfl
  | 7, _ => rfl
  | 8, _ => rfl
  | 9, _ => rfl
  | j + 10, hj => exact absurd hj (by omega)
theorem dfX6 : ∀ j, j < 7 → defaultValue (tyX6 j) = vp_V [.int 0, .int 0, .int 0, .null, .null, .null, .null] j := by
  intro j hj
  match j, hj with
  | 0, _ => rfl
  | 1, _ => rfl
  | 2, _ => rfl
  | 3, _ => rfl
  | 4, _ => rfl
  | 5, _ => rfl
  | 6, _ => rfl
  | j + 7, hj => exact absurd hj (by omega)
theorem dfX7 : ∀ j, j < 12 → defaultValue (tyX7 j) = vp_V [.int 0, .null, .null, .int 0, .null, .null, .int 0, .null, .null, .int 0, .int 0, .int 0] j := by
  intro j hj
  match j, hj with
  | 0, _ => rfl
  | 1, _ => rfl
  | 2, _ => rfl
  | 3, _ => rfl
  | 4, _ => rfl
  | 5, _ => rfl
  | 6, _ => rfl
  | 7, _ => rfl
  | 8, _ => rfl
  | 9, _ => rfl
  | 10, _ => rfl
  | 11, _ => rfl
  | j + 12, hj => exact absurd hj (by omega)
theorem dfX8 : ∀ j, j < 13 → defaultValue (tyX8 j) = vp_V [.null, .int 0, .int 0, .int 0, .int 0, .int 0, .int 0, .null, .null, .null, .null, .null, .null] j := by
  intro j hj
  match j, hj with
  | 0, _ => rfl
  | 1, _ => rfl
  | 2, _ => rfl
  | 3, _ => rfl
  | 4, _ => rfl
  | 5, _ => rfl
  | 6, _ => rfl
  | 7, _ => rfl
  | 8, _ => rfl
  | 9, _ => rfl
  | 10, _ => rfl
  | 11, _ => rfl
  | 12, _ => rfl
  | j + 13, hj => exact absurd hj (by omega)
theorem dfX9 : ∀ j, j < 7 → defaultValue (tyX9 j) = vp_V [.null, .null, .null, .null, .null, .null, .null] j := by
  intro j hj
  match j, hj with
  | 0, _ => rfl
  | 1, _ => rfl
  | 2, _ => rfl
  | 3, _ => rfl
  | 4, _ => rfl
  | 5, _ => rfl
  | 6, _ => rfl
  | j + 7, hj => exact absurd hj (by omega)
theorem dfX10 : ∀ j, j < 50 → defaultValue (tyX10 j) = vp_V [.int 0, .null, .null, .null, .null, .null, .null, .null, .null, .int 0, .int 0, .int 0, .int 0, .int 0, .long 0, .int 0, .int 0, .int 0, .null, .null, .int 0, .int 0, .int 0, .int 0, .int 0, .int 0, .int 0, .int 0, .int 0, .int 0, .int 0, .int 0, .null, .null, .null, .null, .null, .null, .int 0, .int 0, .int 0, .null, .null, .int 0, .int 0, .null, .null, .null, .int 0, .null] j := by
  intro j hj
  match j, hj with
  | 0, _ => rfl
  | 1, _ => rfl
  | 2, _ => rfl
  | 3, _ => rfl
  | 4, _ => rfl
  | 5, _ => rfl
  | 6, _ => rfl
  | 7, _ => rfl
  | 8, _ => rfl
  | 9, _ => rfl
  | 10, _ => rfl
  | 11, _ => rfl
  | 12, _ => rfl
  | 13, _ => rfl
  | 14, _ => rfl
  | 15, _ => rfl
  | 16, _ => rfl
  | 17, _ => rfl
  | 18, _ => rfl
  | 19, _ => rfl
  | 20, _ => rfl
  | 21, _ => rfl
  | 22, _ => rfl
  | 23, _ => rfl
  | 24, _ => rfl
  | 25, _ => rfl
  | 26, _ => rfl
  | 27, _ => rfl
  | 28, _ => rfl
  | 29, _ => rfl
  | 30, _ => rfl
  | 31, _ => rfl
  | 32, _ => rfl
  | 33, _ => rfl
  | 34, _ => rfl
  | 35, _ => rfl
  | 36, _ => rfl
  | 37, _ => rfl
  | 38, _ => rfl
  | 39, _ => rfl
  | 40, _ => rfl
  | 41, _ => rfl
  | 42, _ => rfl
  | 43, _ => rfl
  | 44, _ => rfl
  | 45, _ => rfl
  | 46, _ => rfl
  | 47, _ => rfl
  | 48, _ => rfl
  | 49, _ => rfl
  | j + 50, hj => exact absurd hj (by omega)
end
section
set_option maxHeartbeats 400000 in
set_option maxRecDepth 100000 in
theorem c_Book_init (l : Launch) (D : va_G) (cI cB cJ cZ cT : ClassId) (h : Nat) : Co l yX0_init wsX0_init ({ frames := 1, cells := 1, slots := 120, locals := 20 }) D (tyL cI cB cJ cZ cT) [.ref h] [(h, .inr (0, [.int 0, .null]))] (fun u : Nat => none) (fun u : Nat => True) (fun u : Nat => [(h, .inr (0, [.int 0, .ref u])), (u, .inl (cI, 120, .inl (fun _ => 0)))]) 1 120 := by
  refine entry (cc := cX0_init) (maxL := 1) (ret := none) (by decide) rfl (Nat.le_of_ble_eq_true rfl) ?_
  intro p e s m below meth c A ls hx hb hr hml hts hown hlocks hname hK hP hD hS hA hl
  have hown : s.vm.findClass RX0 = some m.cls := hown
  have hl : lv_has ls 1 [(0, .ref h)] := hl
  refine lv_aload_n hx hb dX0_init_0 rfl (lv_at hl 0 rfl) ?_
  refine W.objInit hx hb hown (hts (.methodLink RX0 3 objectInit) (List.mem_of_getElem? (i := 1) rfl)) (hts (.instanceMethod objectInit) (List.mem_of_getElem? (i := 2) rfl)) (hts (.code objectInit ⟨#[0xb1]⟩ 1 none) (List.mem_of_getElem? (i := 3) rfl)) rfl (by rw [hml]; exact hl.1) rfl dX0_init_1 (Nat.le_of_ble_eq_true rfl) (Nat.le_of_ble_eq_true rfl) ?_
  refine W.eq (g2 := F0 m 4 ls []) rfl ?_
  refine lv_aload_n hx hb dX0_init_4 rfl (lv_at hl 0 rfl) ?_
  refine lv_bipush (v := 120) hx hb dX0_init_5 (by decide) ?_
  refine va_newa (atype := .int) (a0 := (120, .inl (fun _ => 0))) (N' := 120) (ty := .int) hx hb (hts (.arrayClass .int) (List.mem_of_getElem? (i := 4) rfl)) rfl hK.1 hP hD hS hA (fun _ => rfl) (by decide) (by decide) (Nat.le_of_ble_eq_true rfl) (Nat.le_of_ble_eq_true rfl) (Nat.le_of_ble_eq_true rfl) dX0_init_7 (fun q1 cA H hK9 hP hD hS => ?_)
  have ec := kk_i hK9; subst ec; clear hK9
  have hP : va_P D vwCl [(h, .inr (0, [.int 0, .null])), (q1, .inl (cI, 120, .inl (fun _ => 0)))] H := hP
  have hD : va_D A [(h, .inr (0, [.int 0, .null])), (q1, .inl (cI, 120, .inl (fun _ => 0)))] := hD
  refine va_putF (D := D) (ci := 0) (v := .ref q1) (ty := (.array .int)) (C := RX0) (T := TX0) (N := 2) hx hb hts (fun _ h => List.mem_cons_of_mem _ (List.mem_append_right _ h)) tyX0 tyX0_ok nmX0 hown hK.1 hP hD hS 0 rfl rfl 1 (by decide) (hts (.fieldLink RX0 9 "ClapBank$Book" "parts" "[I") (List.mem_of_getElem? (i := 5) rfl)) (fun _ h9 => h9) rfl hname rfl (by decide +kernel) rfl rfl (Nat.le_of_ble_eq_true rfl) dX0_init_9 (fun H locs hP hD hS => ?_)
  have hP : va_P D vwCl [(h, .inr (0, [.int 0, .ref q1])), (q1, .inl (cI, 120, .inl (fun _ => 0)))] H := hP
  have hD : va_D A [(h, .inr (0, [.int 0, .ref q1])), (q1, .inl (cI, 120, .inl (fun _ => 0)))] := hD
  refine W.widen (k := 1) (n := 120) (Nat.le_of_ble_eq_true rfl) (Nat.le_of_ble_eq_true rfl) ?_
  exact ro_v hx hb hr hlocks (q1) rfl trivial (hP.sub [0, 1] rfl) (hD.sub [0, 1] (by decide) rfl) hS dX0_init_12
set_option maxHeartbeats 400000 in
set_option maxRecDepth 100000 in
theorem c_Dark_init (l : Launch) (D : va_G) (cI cB cJ cZ cT : ClassId) (h : Nat) : Co l yX1_init wsX1_init ({ frames := 1, cells := 1, slots := 6, locals := 20 }) D (tyL cI cB cJ cZ cT) [.ref h] [(h, .inr (1, [.int 0, .null]))] (fun u : Nat => none) (fun u : Nat => True) (fun u : Nat => [(h, .inr (1, [.int 0, .ref u])), (u, .inl (cI, 6, .inl (fun _ => 0)))]) 1 6 := by
  refine entry (cc := cX1_init) (maxL := 1) (ret := none) (by decide) rfl (Nat.le_of_ble_eq_true rfl) ?_
  intro p e s m below meth c A ls hx hb hr hml hts hown hlocks hname hK hP hD hS hA hl
  have hown : s.vm.findClass RX1 = some m.cls := hown
  have hl : lv_has ls 1 [(0, .ref h)] := hl
  refine lv_aload_n hx hb dX1_init_0 rfl (lv_at hl 0 rfl) ?_
  refine W.objInit hx hb hown (hts (.methodLink RX1 3 objectInit) (List.mem_of_getElem? (i := 1) rfl)) (hts (.instanceMethod objectInit) (List.mem_of_getElem? (i := 2) rfl)) (hts (.code objectInit ⟨#[0xb1]⟩ 1 none) (List.mem_of_getElem? (i := 3) rfl)) rfl (by rw [hml]; exact hl.1) rfl dX1_init_1 (Nat.le_of_ble_eq_true rfl) (Nat.le_of_ble_eq_true rfl) ?_
  refine W.eq (g2 := F0 m 4 ls []) rfl ?_
  refine lv_aload_n hx hb dX1_init_4 rfl (lv_at hl 0 rfl) ?_
  refine lv_bipush (v := 6) hx hb dX1_init_5 (by decide) ?_
  refine va_newa (atype := .int) (a0 := (6, .inl (fun _ => 0))) (N' := 6) (ty := .int) hx hb (hts (.arrayClass .int) (List.mem_of_getElem? (i := 4) rfl)) rfl hK.1 hP hD hS hA (fun _ => rfl) (by decide) (by decide) (Nat.le_of_ble_eq_true rfl) (Nat.le_of_ble_eq_true rfl) (Nat.le_of_ble_eq_true rfl) dX1_init_7 (fun q1 cA H hK9 hP hD hS => ?_)
  have ec := kk_i hK9; subst ec; clear hK9
  have hP : va_P D vwCl [(h, .inr (1, [.int 0, .null])), (q1, .inl (cI, 6, .inl (fun _ => 0)))] H := hP
  have hD : va_D A [(h, .inr (1, [.int 0, .null])), (q1, .inl (cI, 6, .inl (fun _ => 0)))] := hD
  refine va_putF (D := D) (ci := 1) (v := .ref q1) (ty := (.array .int)) (C := RX1) (T := TX1) (N := 2) hx hb hts (fun _ h => List.mem_cons_of_mem _ (List.mem_append_right _ h)) tyX1 tyX1_ok nmX1 hown hK.1 hP hD hS 0 rfl rfl 1 (by decide) (hts (.fieldLink RX1 9 "ClapBank$Dark" "halves" "[I") (List.mem_of_getElem? (i := 5) rfl)) (fun _ h9 => h9) rfl hname rfl (by decide +kernel) rfl rfl (Nat.le_of_ble_eq_true rfl) dX1_init_9 (fun H locs hP hD hS => ?_)
  have hP : va_P D vwCl [(h, .inr (1, [.int 0, .ref q1])), (q1, .inl (cI, 6, .inl (fun _ => 0)))] H := hP
  have hD : va_D A [(h, .inr (1, [.int 0, .ref q1])), (q1, .inl (cI, 6, .inl (fun _ => 0)))] := hD
  refine W.widen (k := 1) (n := 6) (Nat.le_of_ble_eq_true rfl) (Nat.le_of_ble_eq_true rfl) ?_
  exact ro_v hx hb hr hlocks (q1) rfl trivial (hP.sub [0, 1] rfl) (hD.sub [0, 1] (by decide) rfl) hS dX1_init_12
set_option maxHeartbeats 400000 in
set_option maxRecDepth 100000 in
theorem c_Theatre_init (l : Launch) (D : va_G) (cI cB cJ cZ cT : ClassId) (h : Nat) : Co l yX7_init wsX7_init ({ frames := 1, cells := 6, slots := 30, locals := 20 }) D (tyL cI cB cJ cZ cT) [.ref h] [(h, .inr (7, [.int 0, .null, .null, .int 0, .null, .null, .int 0, .null, .null, .int 0, .int 0, .int 0]))] (fun u : Nat × Nat × Nat × Nat × Nat × Nat => none) (fun u : Nat × Nat × Nat × Nat × Nat × Nat => True) (fun u : Nat × Nat × Nat × Nat × Nat × Nat => [(h, .inr (7, [.int 0, .ref u.1, .ref u.2.1, .int 0, .ref u.2.2.1, .ref u.2.2.2.1, .int 0, .ref u.2.2.2.2.1, .ref u.2.2.2.2.2, .int 0, .int 0, .int 0])), (u.1, .inl (cI, 5, .inl (fun _ => 0))), (u.2.1, .inl (cI, 5, .inl (fun _ => 0))), (u.2.2.1, .inl (cI, 6, .inl (fun _ => 0))), (u.2.2.2.1, .inl (cI, 6, .inl (fun _ => 0))), (u.2.2.2.2.1, .inl (cI, 4, .inl (fun _ => 0))), (u.2.2.2.2.2, .inl (cI, 4, .inl (fun _ => 0)))]) 6 30 := by
  refine entry (cc := cX7_init) (maxL := 1) (ret := none) (by decide) rfl (Nat.le_of_ble_eq_true rfl) ?_
  intro p e s m below meth c A ls hx hb hr hml hts hown hlocks hname hK hP hD hS hA hl
  have hown : s.vm.findClass RX7 = some m.cls := hown
  have hl : lv_has ls 1 [(0, .ref h)] := hl
  refine lv_aload_n hx hb dX7_init_0 rfl (lv_at hl 0 rfl) ?_
  refine W.objInit hx hb hown (hts (.methodLink RX7 3 objectInit) (List.mem_of_getElem? (i := 1) rfl)) (hts (.instanceMethod objectInit) (List.mem_of_getElem? (i := 2) rfl)) (hts (.code objectInit ⟨#[0xb1]⟩ 1 none) (List.mem_of_getElem? (i := 3) rfl)) rfl (by rw [hml]; exact hl.1) rfl dX7_init_1 (Nat.le_of_ble_eq_true rfl) (Nat.le_of_ble_eq_true rfl) ?_
  refine W.eq (g2 := F0 m 4 ls []) rfl ?_
  refine lv_aload_n hx hb dX7_init_4 rfl (lv_at hl 0 rfl) ?_
  refine lv_iconst (v := 5) hx hb dX7_init_5 (by decide) ?_
  refine va_newa (atype := .int) (a0 := (5, .inl (fun _ => 0))) (N' := 5) (ty := .int) hx hb (hts (.arrayClass .int) (List.mem_of_getElem? (i := 4) rfl)) rfl hK.1 hP hD hS hA (fun _ => rfl) (by decide) (by decide) (Nat.le_of_ble_eq_true rfl) (Nat.le_of_ble_eq_true rfl) (Nat.le_of_ble_eq_true rfl) dX7_init_6 (fun q1 cA H hK9 hP hD hS => ?_)
  have ec := kk_i hK9; subst ec; clear hK9
  have hP : va_P D vwCl [(h, .inr (7, [.int 0, .null, .null, .int 0, .null, .null, .int 0, .null, .null, .int 0, .int 0, .int 0])), (q1, .inl (cI, 5, .inl (fun _ => 0)))] H := hP
  have hD : va_D A [(h, .inr (7, [.int 0, .null, .null, .int 0, .null, .null, .int 0, .null, .null, .int 0, .int 0, .int 0])), (q1, .inl (cI, 5, .inl (fun _ => 0)))] := hD
  refine va_putF (D := D) (ci := 7) (v := .ref q1) (ty := (.array .int)) (C := RX7) (T := TX7) (N := 12) hx hb hts (fun _ h => List.mem_cons_of_mem _ (List.mem_append_right _ h)) tyX7 tyX7_ok nmX7 hown hK.1 hP hD hS 0 rfl rfl 1 (by decide) (hts (.fieldLink RX7 9 "ClapBank$Theatre" "claps" "[I") (List.mem_of_getElem? (i := 5) rfl)) (fun _ h9 => h9) rfl hname rfl (by decide +kernel) rfl rfl (Nat.le_of_ble_eq_true rfl) dX7_init_8 (fun H locs hP hD hS => ?_)
  have hP : va_P D vwCl [(h, .inr (7, [.int 0, .ref q1, .null, .int 0, .null, .null, .int 0, .null, .null, .int 0, .int 0, .int 0])), (q1, .inl (cI, 5, .inl (fun _ => 0)))] H := hP
  have hD : va_D A [(h, .inr (7, [.int 0, .ref q1, .null, .int 0, .null, .null, .int 0, .null, .null, .int 0, .int 0, .int 0])), (q1, .inl (cI, 5, .inl (fun _ => 0)))] := hD
  refine lv_aload_n hx hb dX7_init_11 rfl (lv_at hl 0 rfl) ?_
  refine lv_iconst (v := 5) hx hb dX7_init_12 (by decide) ?_
  refine va_newa (atype := .int) (a0 := (5, .inl (fun _ => 0))) (N' := 5) (ty := .int) hx hb (hts (.arrayClass .int) (List.mem_of_getElem? (i := 4) rfl)) rfl hK.1 hP hD hS hA (fun _ => rfl) (by decide) (by decide) (Nat.le_of_ble_eq_true rfl) (Nat.le_of_ble_eq_true rfl) (Nat.le_of_ble_eq_true rfl) dX7_init_13 (fun q2 cA H hK9 hP hD hS => ?_)
  have ec := kk_i hK9; subst ec; clear hK9
  have hP : va_P D vwCl [(h, .inr (7, [.int 0, .ref q1, .null, .int 0, .null, .null, .int 0, .null, .null, .int 0, .int 0, .int 0])), (q1, .inl (cI, 5, .inl (fun _ => 0))), (q2, .inl (cI, 5, .inl (fun _ => 0)))] H := hP
  have hD : va_D A [(h, .inr (7, [.int 0, .ref q1, .null, .int 0, .null, .null, .int 0, .null, .null, .int 0, .int 0, .int 0])), (q1, .inl (cI, 5, .inl (fun _ => 0))), (q2, .inl (cI, 5, .inl (fun _ => 0)))] := hD
  refine va_putF (D := D) (ci := 7) (v := .ref q2) (ty := (.array .int)) (C := RX7) (T := TX7) (N := 12) hx hb hts (fun _ h => List.mem_cons_of_mem _ (List.mem_append_right _ h)) tyX7 tyX7_ok nmX7 hown hK.1 hP hD hS 0 rfl rfl 2 (by decide) (hts (.fieldLink RX7 15 "ClapBank$Theatre" "hands" "[I") (List.mem_of_getElem? (i := 6) rfl)) (fun _ h9 => h9) rfl hname rfl (by decide +kernel) rfl rfl (Nat.le_of_ble_eq_true rfl) dX7_init_15 (fun H locs hP hD hS => ?_)
  have hP : va_P D vwCl [(h, .inr (7, [.int 0, .ref q1, .ref q2, .int 0, .null, .null, .int 0, .null, .null, .int 0, .int 0, .int 0])), (q1, .inl (cI, 5, .inl (fun _ => 0))), (q2, .inl (cI, 5, .inl (fun _ => 0)))] H := hP
  have hD : va_D A [(h, .inr (7, [.int 0, .ref q1, .ref q2, .int 0, .null, .null, .int 0, .null, .null, .int 0, .int 0, .int 0])), (q1, .inl (cI, 5, .inl (fun _ => 0))), (q2, .inl (cI, 5, .inl (fun _ => 0)))] := hD
  refine lv_aload_n hx hb dX7_init_18 rfl (lv_at hl 0 rfl) ?_
  refine lv_bipush (v := 6) hx hb dX7_init_19 (by decide) ?_
  refine va_newa (atype := .int) (a0 := (6, .inl (fun _ => 0))) (N' := 6) (ty := .int) hx hb (hts (.arrayClass .int) (List.mem_of_getElem? (i := 4) rfl)) rfl hK.1 hP hD hS hA (fun _ => rfl) (by decide) (by decide) (Nat.le_of_ble_eq_true rfl) (Nat.le_of_ble_eq_true rfl) (Nat.le_of_ble_eq_true rfl) dX7_init_21 (fun q3 cA H hK9 hP hD hS => ?_)
  have ec := kk_i hK9; subst ec; clear hK9
  have hP : va_P D vwCl [(h, .inr (7, [.int 0, .ref q1, .ref q2, .int 0, .null, .null, .int 0, .null, .null, .int 0, .int 0, .int 0])), (q1, .inl (cI, 5, .inl (fun _ => 0))), (q2, .inl (cI, 5, .inl (fun _ => 0))), (q3, .inl (cI, 6, .inl (fun _ => 0)))] H := hP
  have hD : va_D A [(h, .inr (7, [.int 0, .ref q1, .ref q2, .int 0, .null, .null, .int 0, .null, .null, .int 0, .int 0, .int 0])), (q1, .inl (cI, 5, .inl (fun _ => 0))), (q2, .inl (cI, 5, .inl (fun _ => 0))), (q3, .inl (cI, 6, .inl (fun _ => 0)))] := hD
  refine va_putF (D := D) (ci := 7) (v := .ref q3) (ty := (.array .int)) (C := RX7) (T := TX7) (N := 12) hx hb hts (fun _ h => List.mem_cons_of_mem _ (List.mem_append_right _ h)) tyX7 tyX7_ok nmX7 hown hK.1 hP hD hS 0 rfl rfl 4 (by decide) (hts (.fieldLink RX7 18 "ClapBank$Theatre" "hunger" "[I") (List.mem_of_getElem? (i := 7) rfl)) (fun _ h9 => h9) rfl hname rfl (by decide +kernel) rfl rfl (Nat.le_of_ble_eq_true rfl) dX7_init_23 (fun H locs hP hD hS => ?_)
  have hP : va_P D vwCl [(h, .inr (7, [.int 0, .ref q1, .ref q2, .int 0, .ref q3, .null, .int 0, .null, .null, .int 0, .int 0, .int 0])), (q1, .inl (cI, 5, .inl (fun _ => 0))), (q2, .inl (cI, 5, .inl (fun _ => 0))), (q3, .inl (cI, 6, .inl (fun _ => 0)))] H := hP
  have hD : va_D A [(h, .inr (7, [.int 0, .ref q1, .ref q2, .int 0, .ref q3, .null, .int 0, .null, .null, .int 0, .int 0, .int 0])), (q1, .inl (cI, 5, .inl (fun _ => 0))), (q2, .inl (cI, 5, .inl (fun _ => 0))), (q3, .inl (cI, 6, .inl (fun _ => 0)))] := hD
  refine lv_aload_n hx hb dX7_init_26 rfl (lv_at hl 0 rfl) ?_
  refine lv_bipush (v := 6) hx hb dX7_init_27 (by decide) ?_
  refine va_newa (atype := .int) (a0 := (6, .inl (fun _ => 0))) (N' := 6) (ty := .int) hx hb (hts (.arrayClass .int) (List.mem_of_getElem? (i := 4) rfl)) rfl hK.1 hP hD hS hA (fun _ => rfl) (by decide) (by decide) (Nat.le_of_ble_eq_true rfl) (Nat.le_of_ble_eq_true rfl) (Nat.le_of_ble_eq_true rfl) dX7_init_29 (fun q4 cA H hK9 hP hD hS => ?_)
  have ec := kk_i hK9; subst ec; clear hK9
  have hP : va_P D vwCl [(h, .inr (7, [.int 0, .ref q1, .ref q2, .int 0, .ref q3, .null, .int 0, .null, .null, .int 0, .int 0, .int 0])), (q1, .inl (cI, 5, .inl (fun _ => 0))), (q2, .inl (cI, 5, .inl (fun _ => 0))), (q3, .inl (cI, 6, .inl (fun _ => 0))), (q4, .inl (cI, 6, .inl (fun _ => 0)))] H := hP
  have hD : va_D A [(h, .inr (7, [.int 0, .ref q1, .ref q2, .int 0, .ref q3, .null, .int 0, .null, .null, .int 0, .int 0, .int 0])), (q1, .inl (cI, 5, .inl (fun _ => 0))), (q2, .inl (cI, 5, .inl (fun _ => 0))), (q3, .inl (cI, 6, .inl (fun _ => 0))), (q4, .inl (cI, 6, .inl (fun _ => 0)))] := hD
  refine va_putF (D := D) (ci := 7) (v := .ref q4) (ty := (.array .int)) (C := RX7) (T := TX7) (N := 12) hx hb hts (fun _ h => List.mem_cons_of_mem _ (List.mem_append_right _ h)) tyX7 tyX7_ok nmX7 hown hK.1 hP hD hS 0 rfl rfl 5 (by decide) (hts (.fieldLink RX7 21 "ClapBank$Theatre" "saved" "[I") (List.mem_of_getElem? (i := 8) rfl)) (fun _ h9 => h9) rfl hname rfl (by decide +kernel) rfl rfl (Nat.le_of_ble_eq_true rfl) dX7_init_31 (fun H locs hP hD hS => ?_)
  have hP : va_P D vwCl [(h, .inr (7, [.int 0, .ref q1, .ref q2, .int 0, .ref q3, .ref q4, .int 0, .null, .null, .int 0, .int 0, .int 0])), (q1, .inl (cI, 5, .inl (fun _ => 0))), (q2, .inl (cI, 5, .inl (fun _ => 0))), (q3, .inl (cI, 6, .inl (fun _ => 0))), (q4, .inl (cI, 6, .inl (fun _ => 0)))] H := hP
  have hD : va_D A [(h, .inr (7, [.int 0, .ref q1, .ref q2, .int 0, .ref q3, .ref q4, .int 0, .null, .null, .int 0, .int 0, .int 0])), (q1, .inl (cI, 5, .inl (fun _ => 0))), (q2, .inl (cI, 5, .inl (fun _ => 0))), (q3, .inl (cI, 6, .inl (fun _ => 0))), (q4, .inl (cI, 6, .inl (fun _ => 0)))] := hD
  refine lv_aload_n hx hb dX7_init_34 rfl (lv_at hl 0 rfl) ?_
  refine lv_iconst (v := 4) hx hb dX7_init_35 (by decide) ?_
  refine va_newa (atype := .int) (a0 := (4, .inl (fun _ => 0))) (N' := 4) (ty := .int) hx hb (hts (.arrayClass .int) (List.mem_of_getElem? (i := 4) rfl)) rfl hK.1 hP hD hS hA (fun _ => rfl) (by decide) (by decide) (Nat.le_of_ble_eq_true rfl) (Nat.le_of_ble_eq_true rfl) (Nat.le_of_ble_eq_true rfl) dX7_init_36 (fun q5 cA H hK9 hP hD hS => ?_)
  have ec := kk_i hK9; subst ec; clear hK9
  have hP : va_P D vwCl [(h, .inr (7, [.int 0, .ref q1, .ref q2, .int 0, .ref q3, .ref q4, .int 0, .null, .null, .int 0, .int 0, .int 0])), (q1, .inl (cI, 5, .inl (fun _ => 0))), (q2, .inl (cI, 5, .inl (fun _ => 0))), (q3, .inl (cI, 6, .inl (fun _ => 0))), (q4, .inl (cI, 6, .inl (fun _ => 0))), (q5, .inl (cI, 4, .inl (fun _ => 0)))] H := hP
  have hD : va_D A [(h, .inr (7, [.int 0, .ref q1, .ref q2, .int 0, .ref q3, .ref q4, .int 0, .null, .null, .int 0, .int 0, .int 0])), (q1, .inl (cI, 5, .inl (fun _ => 0))), (q2, .inl (cI, 5, .inl (fun _ => 0))), (q3, .inl (cI, 6, .inl (fun _ => 0))), (q4, .inl (cI, 6, .inl (fun _ => 0))), (q5, .inl (cI, 4, .inl (fun _ => 0)))] := hD
  refine va_putF (D := D) (ci := 7) (v := .ref q5) (ty := (.array .int)) (C := RX7) (T := TX7) (N := 12) hx hb hts (fun _ h => List.mem_cons_of_mem _ (List.mem_append_right _ h)) tyX7 tyX7_ok nmX7 hown hK.1 hP hD hS 0 rfl rfl 7 (by decide) (hts (.fieldLink RX7 24 "ClapBank$Theatre" "asks" "[I") (List.mem_of_getElem? (i := 9) rfl)) (fun _ h9 => h9) rfl hname rfl (by decide +kernel) rfl rfl (Nat.le_of_ble_eq_true rfl) dX7_init_38 (fun H locs hP hD hS => ?_)
  have hP : va_P D vwCl [(h, .inr (7, [.int 0, .ref q1, .ref q2, .int 0, .ref q3, .ref q4, .int 0, .ref q5, .null, .int 0, .int 0, .int 0])), (q1, .inl (cI, 5, .inl (fun _ => 0))), (q2, .inl (cI, 5, .inl (fun _ => 0))), (q3, .inl (cI, 6, .inl (fun _ => 0))), (q4, .inl (cI, 6, .inl (fun _ => 0))), (q5, .inl (cI, 4, .inl (fun _ => 0)))] H := hP
  have hD : va_D A [(h, .inr (7, [.int 0, .ref q1, .ref q2, .int 0, .ref q3, .ref q4, .int 0, .ref q5, .null, .int 0, .int 0, .int 0])), (q1, .inl (cI, 5, .inl (fun _ => 0))), (q2, .inl (cI, 5, .inl (fun _ => 0))), (q3, .inl (cI, 6, .inl (fun _ => 0))), (q4, .inl (cI, 6, .inl (fun _ => 0))), (q5, .inl (cI, 4, .inl (fun _ => 0)))] := hD
  refine lv_aload_n hx hb dX7_init_41 rfl (lv_at hl 0 rfl) ?_
  refine lv_iconst (v := 4) hx hb dX7_init_42 (by decide) ?_
  refine va_newa (atype := .int) (a0 := (4, .inl (fun _ => 0))) (N' := 4) (ty := .int) hx hb (hts (.arrayClass .int) (List.mem_of_getElem? (i := 4) rfl)) rfl hK.1 hP hD hS hA (fun _ => rfl) (by decide) (by decide) (Nat.le_of_ble_eq_true rfl) (Nat.le_of_ble_eq_true rfl) (Nat.le_of_ble_eq_true rfl) dX7_init_43 (fun q6 cA H hK9 hP hD hS => ?_)
  have ec := kk_i hK9; subst ec; clear hK9
  have hP : va_P D vwCl [(h, .inr (7, [.int 0, .ref q1, .ref q2, .int 0, .ref q3, .ref q4, .int 0, .ref q5, .null, .int 0, .int 0, .int 0])), (q1, .inl (cI, 5, .inl (fun _ => 0))), (q2, .inl (cI, 5, .inl (fun _ => 0))), (q3, .inl (cI, 6, .inl (fun _ => 0))), (q4, .inl (cI, 6, .inl (fun _ => 0))), (q5, .inl (cI, 4, .inl (fun _ => 0))), (q6, .inl (cI, 4, .inl (fun _ => 0)))] H := hP
  have hD : va_D A [(h, .inr (7, [.int 0, .ref q1, .ref q2, .int 0, .ref q3, .ref q4, .int 0, .ref q5, .null, .int 0, .int 0, .int 0])), (q1, .inl (cI, 5, .inl (fun _ => 0))), (q2, .inl (cI, 5, .inl (fun _ => 0))), (q3, .inl (cI, 6, .inl (fun _ => 0))), (q4, .inl (cI, 6, .inl (fun _ => 0))), (q5, .inl (cI, 4, .inl (fun _ => 0))), (q6, .inl (cI, 4, .inl (fun _ => 0)))] := hD
  refine va_putF (D := D) (ci := 7) (v := .ref q6) (ty := (.array .int)) (C := RX7) (T := TX7) (N := 12) hx hb hts (fun _ h => List.mem_cons_of_mem _ (List.mem_append_right _ h)) tyX7 tyX7_ok nmX7 hown hK.1 hP hD hS 0 rfl rfl 8 (by decide) (hts (.fieldLink RX7 27 "ClapBank$Theatre" "floors" "[I") (List.mem_of_getElem? (i := 10) rfl)) (fun _ h9 => h9) rfl hname rfl (by decide +kernel) rfl rfl (Nat.le_of_ble_eq_true rfl) dX7_init_45 (fun H locs hP hD hS => ?_)
  have hP : va_P D vwCl [(h, .inr (7, [.int 0, .ref q1, .ref q2, .int 0, .ref q3, .ref q4, .int 0, .ref q5, .ref q6, .int 0, .int 0, .int 0])), (q1, .inl (cI, 5, .inl (fun _ => 0))), (q2, .inl (cI, 5, .inl (fun _ => 0))), (q3, .inl (cI, 6, .inl (fun _ => 0))), (q4, .inl (cI, 6, .inl (fun _ => 0))), (q5, .inl (cI, 4, .inl (fun _ => 0))), (q6, .inl (cI, 4, .inl (fun _ => 0)))] H := hP
  have hD : va_D A [(h, .inr (7, [.int 0, .ref q1, .ref q2, .int 0, .ref q3, .ref q4, .int 0, .ref q5, .ref q6, .int 0, .int 0, .int 0])), (q1, .inl (cI, 5, .inl (fun _ => 0))), (q2, .inl (cI, 5, .inl (fun _ => 0))), (q3, .inl (cI, 6, .inl (fun _ => 0))), (q4, .inl (cI, 6, .inl (fun _ => 0))), (q5, .inl (cI, 4, .inl (fun _ => 0))), (q6, .inl (cI, 4, .inl (fun _ => 0)))] := hD
  refine W.widen (k := 6) (n := 30) (Nat.le_of_ble_eq_true rfl) (Nat.le_of_ble_eq_true rfl) ?_
  exact ro_v hx hb hr hlocks (q1, q2, q3, q4, q5, q6) rfl trivial (hP.sub [0, 1, 2, 3, 4, 5, 6] rfl) (hD.sub [0, 1, 2, 3, 4, 5, 6] (by decide) rfl) hS dX7_init_48
set_option maxHeartbeats 400000 in
set_option maxRecDepth 100000 in
theorem c_Told_init (l : Launch) (D : va_G) (cI cB cJ cZ cT : ClassId) (h : Nat) : Co l yX8_init wsX8_init ({ frames := 2, cells := 23, slots := 944, locals := 40 }) D (tyL cI cB cJ cZ cT) [.ref h] [(h, .inr (8, [.null, .int 0, .int 0, .int 0, .int 0, .int 0, .int 0, .null, .null, .null, .null, .null, .null]))] (fun u : Nat × Nat × Nat × Nat × Nat × Nat × Nat × Nat × Nat × Nat × Nat × Nat × Nat × Nat × Nat × Nat × Nat × Nat × Nat × Nat × Nat × Nat × Nat => none) (fun u : Nat × Nat × Nat × Nat × Nat × Nat × Nat × Nat × Nat × Nat × Nat × Nat × Nat × Nat × Nat × Nat × Nat × Nat × Nat × Nat × Nat × Nat × Nat => True) (fun u : Nat × Nat × Nat × Nat × Nat × Nat × Nat × Nat × Nat × Nat × Nat × Nat × Nat × Nat × Nat × Nat × Nat × Nat × Nat × Nat × Nat × Nat × Nat => [(h, .inr (8, [.ref u.1, .int 0, .int 0, .int (-1), .int 0, .int 0, .int 0, .ref u.2.1, .ref u.2.2.2.2.2.2.2.2.1, .ref u.2.2.2.2.2.2.2.2.2.2.2.2.2.2.2.1, .ref u.2.2.2.2.2.2.2.2.2.2.2.2.2.2.2.2.2.1, .ref u.2.2.2.2.2.2.2.2.2.2.2.2.2.2.2.2.2.2.2.1, .ref u.2.2.2.2.2.2.2.2.2.2.2.2.2.2.2.2.2.2.2.2.2.1])), (u.1, .inl (cB, 600, .inl (fun _ => 0))), (u.2.1, .inr (7, [.int 0, .ref u.2.2.1, .ref u.2.2.2.1, .int 0, .ref u.2.2.2.2.1, .ref u.2.2.2.2.2.1, .int 0, .ref u.2.2.2.2.2.2.1, .ref u.2.2.2.2.2.2.2.1, .int 0, .int 0, .int 0])), (u.2.2.1, .inl (cI, 5, .inl (fun _ => 0))), (u.2.2.2.1, .inl (cI, 5, .inl (fun _ => 0))), (u.2.2.2.2.1, .inl (cI, 6, .inl (fun _ => 0))), (u.2.2.2.2.2.1, .inl (cI, 6, .inl (fun _ => 0))), (u.2.2.2.2.2.2.1, .inl (cI, 4, .inl (fun _ => 0))), (u.2.2.2.2.2.2.2.1, .inl (cI, 4, .inl (fun _ => 0))), (u.2.2.2.2.2.2.2.2.1, .inr (7, [.int 0, .ref u.2.2.2.2.2.2.2.2.2.1, .ref u.2.2.2.2.2.2.2.2.2.2.1, .int 0, .ref u.2.2.2.2.2.2.2.2.2.2.2.1, .ref u.2.2.2.2.2.2.2.2.2.2.2.2.1, .int 0, .ref u.2.2.2.2.2.2.2.2.2.2.2.2.2.1, .ref u.2.2.2.2.2.2.2.2.2.2.2.2.2.2.1, .int 0, .int 0, .int 0])), (u.2.2.2.2.2.2.2.2.2.1, .inl (cI, 5, .inl (fun _ => 0))), (u.2.2.2.2.2.2.2.2.2.2.1, .inl (cI, 5, .inl (fun _ => 0))), (u.2.2.2.2.2.2.2.2.2.2.2.1, .inl (cI, 6, .inl (fun _ => 0))), (u.2.2.2.2.2.2.2.2.2.2.2.2.1, .inl (cI, 6, .inl (fun _ => 0))), (u.2.2.2.2.2.2.2.2.2.2.2.2.2.1, .inl (cI, 4, .inl (fun _ => 0))), (u.2.2.2.2.2.2.2.2.2.2.2.2.2.2.1, .inl (cI, 4, .inl (fun _ => 0))), (u.2.2.2.2.2.2.2.2.2.2.2.2.2.2.2.1, .inr (0, [.int 0, .ref u.2.2.2.2.2.2.2.2.2.2.2.2.2.2.2.2.1])), (u.2.2.2.2.2.2.2.2.2.2.2.2.2.2.2.2.1, .inl (cI, 120, .inl (fun _ => 0))), (u.2.2.2.2.2.2.2.2.2.2.2.2.2.2.2.2.2.1, .inr (0, [.int 0, .ref u.2.2.2.2.2.2.2.2.2.2.2.2.2.2.2.2.2.2.1])), (u.2.2.2.2.2.2.2.2.2.2.2.2.2.2.2.2.2.2.1, .inl (cI, 120, .inl (fun _ => 0))), (u.2.2.2.2.2.2.2.2.2.2.2.2.2.2.2.2.2.2.2.1, .inr (1, [.int 0, .ref u.2.2.2.2.2.2.2.2.2.2.2.2.2.2.2.2.2.2.2.2.1])), (u.2.2.2.2.2.2.2.2.2.2.2.2.2.2.2.2.2.2.2.2.1, .inl (cI, 6, .inl (fun _ => 0))), (u.2.2.2.2.2.2.2.2.2.2.2.2.2.2.2.2.2.2.2.2.2.1, .inr (1, [.int 0, .ref u.2.2.2.2.2.2.2.2.2.2.2.2.2.2.2.2.2.2.2.2.2.2])), (u.2.2.2.2.2.2.2.2.2.2.2.2.2.2.2.2.2.2.2.2.2.2, .inl (cI, 6, .inl (fun _ => 0)))]) 23 944 := by
  refine entry (cc := cX8_init) (maxL := 1) (ret := none) (by decide) rfl (Nat.le_of_ble_eq_true rfl) ?_
  intro p e s m below meth c A ls hx hb hr hml hts hown hlocks hname hK hP hD hS hA hl
  have hown : s.vm.findClass RX8 = some m.cls := hown
  have hl : lv_has ls 1 [(0, .ref h)] := hl
  refine lv_aload_n hx hb dX8_init_0 rfl (lv_at hl 0 rfl) ?_
  refine W.objInit hx hb hown (hts (.methodLink RX8 3 objectInit) (List.mem_of_getElem? (i := 1) rfl)) (hts (.instanceMethod objectInit) (List.mem_of_getElem? (i := 2) rfl)) (hts (.code objectInit ⟨#[0xb1]⟩ 1 none) (List.mem_of_getElem? (i := 3) rfl)) rfl (by rw [hml]; exact hl.1) rfl dX8_init_1 (Nat.le_of_ble_eq_true rfl) (Nat.le_of_ble_eq_true rfl) ?_
  refine W.eq (g2 := F0 m 4 ls []) rfl ?_
  refine lv_aload_n hx hb dX8_init_4 rfl (lv_at hl 0 rfl) ?_
  refine lv_sipush (v := 600) hx hb dX8_init_5 (by decide) ?_
  refine va_newa (atype := .byte) (a0 := (600, .inl (fun _ => 0))) (N' := 600) (ty := .byte) hx hb (hts (.arrayClass .byte) (List.mem_of_getElem? (i := 4) rfl)) rfl hK.1 hP hD hS hA (fun _ => rfl) (by decide) (by decide) (Nat.le_of_ble_eq_true rfl) (Nat.le_of_ble_eq_true rfl) (Nat.le_of_ble_eq_true rfl) dX8_init_8 (fun q1 cA H hK9 hP hD hS => ?_)
  have ec := kk_b hK9; subst ec; clear hK9
  have hP : va_P D vwCl [(h, .inr (8, [.null, .int 0, .int 0, .int 0, .int 0, .int 0, .int 0, .null, .null, .null, .null, .null, .null])), (q1, .inl (cB, 600, .inl (fun _ => 0)))] H := hP
  have hD : va_D A [(h, .inr (8, [.null, .int 0, .int 0, .int 0, .int 0, .int 0, .int 0, .null, .null, .null, .null, .null, .null])), (q1, .inl (cB, 600, .inl (fun _ => 0)))] := hD
  refine va_putF (D := D) (ci := 8) (v := .ref q1) (ty := (.array .byte)) (C := RX8) (T := TX8) (N := 13) hx hb hts (fun _ h => List.mem_cons_of_mem _ (List.mem_append_left _ (List.mem_append_left _ (List.mem_append_left _ (List.mem_append_right _ h))))) tyX8 tyX8_ok nmX8 hown hK.1 hP hD hS 0 rfl rfl 0 (by decide) (hts (.fieldLink RX8 9 "ClapBank$Told" "tape" "[B") (List.mem_of_getElem? (i := 5) rfl)) (fun _ h9 => h9) rfl hname rfl (by decide +kernel) rfl rfl (Nat.le_of_ble_eq_true rfl) dX8_init_10 (fun H locs hP hD hS => ?_)
  have hP : va_P D vwCl [(h, .inr (8, [.ref q1, .int 0, .int 0, .int 0, .int 0, .int 0, .int 0, .null, .null, .null, .null, .null, .null])), (q1, .inl (cB, 600, .inl (fun _ => 0)))] H := hP
  have hD : va_D A [(h, .inr (8, [.ref q1, .int 0, .int 0, .int 0, .int 0, .int 0, .int 0, .null, .null, .null, .null, .null, .null])), (q1, .inl (cB, 600, .inl (fun _ => 0)))] := hD
  refine lv_aload_n hx hb dX8_init_13 rfl (lv_at hl 0 rfl) ?_
  refine lv_iconst (v := (-1)) hx hb dX8_init_14 (by decide) ?_
  refine va_put (D := D) (ci := 8) (v := .int (-1)) (ty := .int) (C := RX8) (T := TX8) (N := 13) hx hb hts (fun _ h => List.mem_cons_of_mem _ (List.mem_append_left _ (List.mem_append_left _ (List.mem_append_left _ (List.mem_append_right _ h))))) tyX8 tyX8_ok nmX8 hown hK.1 hP hD hS 0 rfl rfl 3 (by decide) (hts (.fieldLink RX8 15 "ClapBank$Told" "place" "I") (List.mem_of_getElem? (i := 6) rfl)) (fun _ h9 => h9) rfl (by decide +kernel) rfl rfl (Nat.le_of_ble_eq_true rfl) dX8_init_15 (fun H locs hP hD hS => ?_)
  have hP : va_P D vwCl [(h, .inr (8, [.ref q1, .int 0, .int 0, .int (-1), .int 0, .int 0, .int 0, .null, .null, .null, .null, .null, .null])), (q1, .inl (cB, 600, .inl (fun _ => 0)))] H := hP
  have hD : va_D A [(h, .inr (8, [.ref q1, .int 0, .int 0, .int (-1), .int 0, .int 0, .int 0, .null, .null, .null, .null, .null, .null])), (q1, .inl (cB, 600, .inl (fun _ => 0)))] := hD
  refine lv_aload_n hx hb dX8_init_18 rfl (lv_at hl 0 rfl) ?_
  refine va_new (ci := 7) (fs := [.int 0, .null, .null, .int 0, .null, .null, .int 0, .null, .null, .int 0, .int 0, .int 0]) (C := RX7) (T := TX7) (N := 12) hx hb hts (fun _ h => List.mem_cons_of_mem _ (List.mem_append_left _ (List.mem_append_left _ (List.mem_append_right _ h)))) tyX7 tyX7_ok hown (hts (.classLink RX8 19 RX7) (List.mem_of_getElem? (i := 7) rfl)) (hts (.instantiable RX7 12) (List.mem_of_getElem? (i := 8) rfl)) (hts (.initialized RX7) (List.mem_of_getElem? (i := 9) rfl)) hK.1 hP hD hS hA rfl dfX7 (Nat.le_of_ble_eq_true rfl) (Nat.le_of_ble_eq_true rfl) dX8_init_19 (fun q2 H hP hD hS => ?_)
  have hP : va_P D vwCl [(h, .inr (8, [.ref q1, .int 0, .int 0, .int (-1), .int 0, .int 0, .int 0, .null, .null, .null, .null, .null, .null])), (q1, .inl (cB, 600, .inl (fun _ => 0))), (q2, .inr (7, [.int 0, .null, .null, .int 0, .null, .null, .int 0, .null, .null, .int 0, .int 0, .int 0]))] H := hP
  have hD : va_D A [(h, .inr (8, [.ref q1, .int 0, .int 0, .int (-1), .int 0, .int 0, .int 0, .null, .null, .null, .null, .null, .null])), (q1, .inl (cB, 600, .inl (fun _ => 0))), (q2, .inr (7, [.int 0, .null, .null, .int 0, .null, .null, .int 0, .null, .null, .int 0, .int 0, .int 0]))] := hD
  refine lv_dup hx hb dX8_init_22 rfl ?_
  refine doN (As := []) (rest := [.ref q2, .ref h]) (wc := [(q2, .inr (7, [.int 0, .null, .null, .int 0, .null, .null, .int 0, .null, .null, .int 0, .int 0, .int 0]))]) (wr := [(h, .inr (8, [.ref q1, .int 0, .int 0, .int (-1), .int 0, .int 0, .int 0, .null, .null, .null, .null, .null, .null])), (q1, .inl (cB, 600, .inl (fun _ => 0)))]) hx hb hml hown hts hK hP hD hS hA [2] [0, 1] rfl rfl rfl rfl (by decide) (c_Theatre_init l D cI cB cJ cZ cT (q2)) gX8_init_X7_init_n21 rfl rfl rfl (nz_at hK.2.1 53 (w := .methodLinkNest "ClapBank$Told" 21 ⟨"ClapBank$Theatre", "<init>", "()V"⟩ "ClapBank") rfl) (hts (.initialized RX7) (List.mem_of_getElem? (i := 9) rfl)) (hts (.instanceMethod yX7_init) (List.mem_of_getElem? (i := 22) rfl)) rfl (by decide +kernel) ⟨Nat.le_of_ble_eq_true rfl, Nat.le_of_ble_eq_true rfl⟩ hl.1 rfl rfl (Nat.le_of_ble_eq_true rfl) dX8_init_23 ⟨Nat.le_of_ble_eq_true rfl, Nat.le_of_ble_eq_true rfl⟩ (fun u H locs hw hP hD hS => ?_)
  obtain ⟨q0_3, q1_4, q2_5, q3_6, q4_7, q5_8⟩ := u
  have hP : va_P D vwCl [(h, .inr (8, [.ref q1, .int 0, .int 0, .int (-1), .int 0, .int 0, .int 0, .null, .null, .null, .null, .null, .null])), (q1, .inl (cB, 600, .inl (fun _ => 0))), (q2, .inr (7, [.int 0, .ref q0_3, .ref q1_4, .int 0, .ref q2_5, .ref q3_6, .int 0, .ref q4_7, .ref q5_8, .int 0, .int 0, .int 0])), (q0_3, .inl (cI, 5, .inl (fun _ => 0))), (q1_4, .inl (cI, 5, .inl (fun _ => 0))), (q2_5, .inl (cI, 6, .inl (fun _ => 0))), (q3_6, .inl (cI, 6, .inl (fun _ => 0))), (q4_7, .inl (cI, 4, .inl (fun _ => 0))), (q5_8, .inl (cI, 4, .inl (fun _ => 0)))] H := hP
  have hD : va_D A [(h, .inr (8, [.ref q1, .int 0, .int 0, .int (-1), .int 0, .int 0, .int 0, .null, .null, .null, .null, .null, .null])), (q1, .inl (cB, 600, .inl (fun _ => 0))), (q2, .inr (7, [.int 0, .ref q0_3, .ref q1_4, .int 0, .ref q2_5, .ref q3_6, .int 0, .ref q4_7, .ref q5_8, .int 0, .int 0, .int 0])), (q0_3, .inl (cI, 5, .inl (fun _ => 0))), (q1_4, .inl (cI, 5, .inl (fun _ => 0))), (q2_5, .inl (cI, 6, .inl (fun _ => 0))), (q3_6, .inl (cI, 6, .inl (fun _ => 0))), (q4_7, .inl (cI, 4, .inl (fun _ => 0))), (q5_8, .inl (cI, 4, .inl (fun _ => 0)))] := hD
  refine W.eq (g2 := F0 m 26 ls [.ref q2, .ref h]) rfl ?_
  refine va_putF (D := D) (ci := 8) (v := .ref q2) (ty := (.object "ClapBank$Theatre")) (C := RX8) (T := TX8) (N := 13) hx hb hts (fun _ h => List.mem_cons_of_mem _ (List.mem_append_left _ (List.mem_append_left _ (List.mem_append_left _ (List.mem_append_right _ h))))) tyX8 tyX8_ok nmX8 hown hK.1 hP hD hS 0 rfl rfl 7 (by decide) (hts (.fieldLink RX8 22 "ClapBank$Told" "firstTheatre" "LClapBank$Theatre;") (List.mem_of_getElem? (i := 10) rfl)) (fun _ h9 => h9) rfl hname rfl (by decide +kernel) rfl rfl (Nat.le_of_ble_eq_true rfl) dX8_init_26 (fun H locs hP hD hS => ?_)
  have hP : va_P D vwCl [(h, .inr (8, [.ref q1, .int 0, .int 0, .int (-1), .int 0, .int 0, .int 0, .ref q2, .null, .null, .null, .null, .null])), (q1, .inl (cB, 600, .inl (fun _ => 0))), (q2, .inr (7, [.int 0, .ref q0_3, .ref q1_4, .int 0, .ref q2_5, .ref q3_6, .int 0, .ref q4_7, .ref q5_8, .int 0, .int 0, .int 0])), (q0_3, .inl (cI, 5, .inl (fun _ => 0))), (q1_4, .inl (cI, 5, .inl (fun _ => 0))), (q2_5, .inl (cI, 6, .inl (fun _ => 0))), (q3_6, .inl (cI, 6, .inl (fun _ => 0))), (q4_7, .inl (cI, 4, .inl (fun _ => 0))), (q5_8, .inl (cI, 4, .inl (fun _ => 0)))] H := hP
  have hD : va_D A [(h, .inr (8, [.ref q1, .int 0, .int 0, .int (-1), .int 0, .int 0, .int 0, .ref q2, .null, .null, .null, .null, .null])), (q1, .inl (cB, 600, .inl (fun _ => 0))), (q2, .inr (7, [.int 0, .ref q0_3, .ref q1_4, .int 0, .ref q2_5, .ref q3_6, .int 0, .ref q4_7, .ref q5_8, .int 0, .int 0, .int 0])), (q0_3, .inl (cI, 5, .inl (fun _ => 0))), (q1_4, .inl (cI, 5, .inl (fun _ => 0))), (q2_5, .inl (cI, 6, .inl (fun _ => 0))), (q3_6, .inl (cI, 6, .inl (fun _ => 0))), (q4_7, .inl (cI, 4, .inl (fun _ => 0))), (q5_8, .inl (cI, 4, .inl (fun _ => 0)))] := hD
  refine lv_aload_n hx hb dX8_init_29 rfl (lv_at hl 0 rfl) ?_
  refine va_new (ci := 7) (fs := [.int 0, .null, .null, .int 0, .null, .null, .int 0, .null, .null, .int 0, .int 0, .int 0]) (C := RX7) (T := TX7) (N := 12) hx hb hts (fun _ h => List.mem_cons_of_mem _ (List.mem_append_left _ (List.mem_append_left _ (List.mem_append_right _ h)))) tyX7 tyX7_ok hown (hts (.classLink RX8 19 RX7) (List.mem_of_getElem? (i := 7) rfl)) (hts (.instantiable RX7 12) (List.mem_of_getElem? (i := 8) rfl)) (hts (.initialized RX7) (List.mem_of_getElem? (i := 9) rfl)) hK.1 hP hD hS hA rfl dfX7 (Nat.le_of_ble_eq_true rfl) (Nat.le_of_ble_eq_true rfl) dX8_init_30 (fun q9 H hP hD hS => ?_)
  have hP : va_P D vwCl [(h, .inr (8, [.ref q1, .int 0, .int 0, .int (-1), .int 0, .int 0, .int 0, .ref q2, .null, .null, .null, .null, .null])), (q1, .inl (cB, 600, .inl (fun _ => 0))), (q2, .inr (7, [.int 0, .ref q0_3, .ref q1_4, .int 0, .ref q2_5, .ref q3_6, .int 0, .ref q4_7, .ref q5_8, .int 0, .int 0, .int 0])), (q0_3, .inl (cI, 5, .inl (fun _ => 0))), (q1_4, .inl (cI, 5, .inl (fun _ => 0))), (q2_5, .inl (cI, 6, .inl (fun _ => 0))), (q3_6, .inl (cI, 6, .inl (fun _ => 0))), (q4_7, .inl (cI, 4, .inl (fun _ => 0))), (q5_8, .inl (cI, 4, .inl (fun _ => 0))), (q9, .inr (7, [.int 0, .null, .null, .int 0, .null, .null, .int 0, .null, .null, .int 0, .int 0, .int 0]))] H := hP
  have hD : va_D A [(h, .inr (8, [.ref q1, .int 0, .int 0, .int (-1), .int 0, .int 0, .int 0, .ref q2, .null, .null, .null, .null, .null])), (q1, .inl (cB, 600, .inl (fun _ => 0))), (q2, .inr (7, [.int 0, .ref q0_3, .ref q1_4, .int 0, .ref q2_5, .ref q3_6, .int 0, .ref q4_7, .ref q5_8, .int 0, .int 0, .int 0])), (q0_3, .inl (cI, 5, .inl (fun _ => 0))), (q1_4, .inl (cI, 5, .inl (fun _ => 0))), (q2_5, .inl (cI, 6, .inl (fun _ => 0))), (q3_6, .inl (cI, 6, .inl (fun _ => 0))), (q4_7, .inl (cI, 4, .inl (fun _ => 0))), (q5_8, .inl (cI, 4, .inl (fun _ => 0))), (q9, .inr (7, [.int 0, .null, .null, .int 0, .null, .null, .int 0, .null, .null, .int 0, .int 0, .int 0]))] := hD
  refine lv_dup hx hb dX8_init_33 rfl ?_
  refine doN (As := []) (rest := [.ref q9, .ref h]) (wc := [(q9, .inr (7, [.int 0, .null, .null, .int 0, .null, .null, .int 0, .null, .null, .int 0, .int 0, .int 0]))]) (wr := [(h, .inr (8, [.ref q1, .int 0, .int 0, .int (-1), .int 0, .int 0, .int 0, .ref q2, .null, .null, .null, .null, .null])), (q1, .inl (cB, 600, .inl (fun _ => 0))), (q2, .inr (7, [.int 0, .ref q0_3, .ref q1_4, .int 0, .ref q2_5, .ref q3_6, .int 0, .ref q4_7, .ref q5_8, .int 0, .int 0, .int 0])), (q0_3, .inl (cI, 5, .inl (fun _ => 0))), (q1_4, .inl (cI, 5, .inl (fun _ => 0))), (q2_5, .inl (cI, 6, .inl (fun _ => 0))), (q3_6, .inl (cI, 6, .inl (fun _ => 0))), (q4_7, .inl (cI, 4, .inl (fun _ => 0))), (q5_8, .inl (cI, 4, .inl (fun _ => 0)))]) hx hb hml hown hts hK hP hD hS hA [9] [0, 1, 2, 3, 4, 5, 6, 7, 8] rfl rfl rfl rfl (by decide) (c_Theatre_init l D cI cB cJ cZ cT (q9)) gX8_init_X7_init_n21 rfl rfl rfl (nz_at hK.2.1 53 (w := .methodLinkNest "ClapBank$Told" 21 ⟨"ClapBank$Theatre", "<init>", "()V"⟩ "ClapBank") rfl) (hts (.initialized RX7) (List.mem_of_getElem? (i := 9) rfl)) (hts (.instanceMethod yX7_init) (List.mem_of_getElem? (i := 22) rfl)) rfl (by decide +kernel) ⟨Nat.le_of_ble_eq_true rfl, Nat.le_of_ble_eq_true rfl⟩ hl.1 rfl rfl (Nat.le_of_ble_eq_true rfl) dX8_init_34 ⟨Nat.le_of_ble_eq_true rfl, Nat.le_of_ble_eq_true rfl⟩ (fun u H locs hw hP hD hS => ?_)
  obtain ⟨q0_10, q1_11, q2_12, q3_13, q4_14, q5_15⟩ := u
  have hP : va_P D vwCl [(h, .inr (8, [.ref q1, .int 0, .int 0, .int (-1), .int 0, .int 0, .int 0, .ref q2, .null, .null, .null, .null, .null])), (q1, .inl (cB, 600, .inl (fun _ => 0))), (q2, .inr (7, [.int 0, .ref q0_3, .ref q1_4, .int 0, .ref q2_5, .ref q3_6, .int 0, .ref q4_7, .ref q5_8, .int 0, .int 0, .int 0])), (q0_3, .inl (cI, 5, .inl (fun _ => 0))), (q1_4, .inl (cI, 5, .inl (fun _ => 0))), (q2_5, .inl (cI, 6, .inl (fun _ => 0))), (q3_6, .inl (cI, 6, .inl (fun _ => 0))), (q4_7, .inl (cI, 4, .inl (fun _ => 0))), (q5_8, .inl (cI, 4, .inl (fun _ => 0))), (q9, .inr (7, [.int 0, .ref q0_10, .ref q1_11, .int 0, .ref q2_12, .ref q3_13, .int 0, .ref q4_14, .ref q5_15, .int 0, .int 0, .int 0])), (q0_10, .inl (cI, 5, .inl (fun _ => 0))), (q1_11, .inl (cI, 5, .inl (fun _ => 0))), (q2_12, .inl (cI, 6, .inl (fun _ => 0))), (q3_13, .inl (cI, 6, .inl (fun _ => 0))), (q4_14, .inl (cI, 4, .inl (fun _ => 0))), (q5_15, .inl (cI, 4, .inl (fun _ => 0)))] H := hP
  have hD : va_D A [(h, .inr (8, [.ref q1, .int 0, .int 0, .int (-1), .int 0, .int 0, .int 0, .ref q2, .null, .null, .null, .null, .null])), (q1, .inl (cB, 600, .inl (fun _ => 0))), (q2, .inr (7, [.int 0, .ref q0_3, .ref q1_4, .int 0, .ref q2_5, .ref q3_6, .int 0, .ref q4_7, .ref q5_8, .int 0, .int 0, .int 0])), (q0_3, .inl (cI, 5, .inl (fun _ => 0))), (q1_4, .inl (cI, 5, .inl (fun _ => 0))), (q2_5, .inl (cI, 6, .inl (fun _ => 0))), (q3_6, .inl (cI, 6, .inl (fun _ => 0))), (q4_7, .inl (cI, 4, .inl (fun _ => 0))), (q5_8, .inl (cI, 4, .inl (fun _ => 0))), (q9, .inr (7, [.int 0, .ref q0_10, .ref q1_11, .int 0, .ref q2_12, .ref q3_13, .int 0, .ref q4_14, .ref q5_15, .int 0, .int 0, .int 0])), (q0_10, .inl (cI, 5, .inl (fun _ => 0))), (q1_11, .inl (cI, 5, .inl (fun _ => 0))), (q2_12, .inl (cI, 6, .inl (fun _ => 0))), (q3_13, .inl (cI, 6, .inl (fun _ => 0))), (q4_14, .inl (cI, 4, .inl (fun _ => 0))), (q5_15, .inl (cI, 4, .inl (fun _ => 0)))] := hD
  refine W.eq (g2 := F0 m 37 ls [.ref q9, .ref h]) rfl ?_
  refine va_putF (D := D) (ci := 8) (v := .ref q9) (ty := (.object "ClapBank$Theatre")) (C := RX8) (T := TX8) (N := 13) hx hb hts (fun _ h => List.mem_cons_of_mem _ (List.mem_append_left _ (List.mem_append_left _ (List.mem_append_left _ (List.mem_append_right _ h))))) tyX8 tyX8_ok nmX8 hown hK.1 hP hD hS 0 rfl rfl 8 (by decide) (hts (.fieldLink RX8 26 "ClapBank$Told" "secondTheatre" "LClapBank$Theatre;") (List.mem_of_getElem? (i := 11) rfl)) (fun _ h9 => h9) rfl hname rfl (by decide +kernel) rfl rfl (Nat.le_of_ble_eq_true rfl) dX8_init_37 (fun H locs hP hD hS => ?_)
  have hP : va_P D vwCl [(h, .inr (8, [.ref q1, .int 0, .int 0, .int (-1), .int 0, .int 0, .int 0, .ref q2, .ref q9, .null, .null, .null, .null])), (q1, .inl (cB, 600, .inl (fun _ => 0))), (q2, .inr (7, [.int 0, .ref q0_3, .ref q1_4, .int 0, .ref q2_5, .ref q3_6, .int 0, .ref q4_7, .ref q5_8, .int 0, .int 0, .int 0])), (q0_3, .inl (cI, 5, .inl (fun _ => 0))), (q1_4, .inl (cI, 5, .inl (fun _ => 0))), (q2_5, .inl (cI, 6, .inl (fun _ => 0))), (q3_6, .inl (cI, 6, .inl (fun _ => 0))), (q4_7, .inl (cI, 4, .inl (fun _ => 0))), (q5_8, .inl (cI, 4, .inl (fun _ => 0))), (q9, .inr (7, [.int 0, .ref q0_10, .ref q1_11, .int 0, .ref q2_12, .ref q3_13, .int 0, .ref q4_14, .ref q5_15, .int 0, .int 0, .int 0])), (q0_10, .inl (cI, 5, .inl (fun _ => 0))), (q1_11, .inl (cI, 5, .inl (fun _ => 0))), (q2_12, .inl (cI, 6, .inl (fun _ => 0))), (q3_13, .inl (cI, 6, .inl (fun _ => 0))), (q4_14, .inl (cI, 4, .inl (fun _ => 0))), (q5_15, .inl (cI, 4, .inl (fun _ => 0)))] H := hP
  have hD : va_D A [(h, .inr (8, [.ref q1, .int 0, .int 0, .int (-1), .int 0, .int 0, .int 0, .ref q2, .ref q9, .null, .null, .null, .null])), (q1, .inl (cB, 600, .inl (fun _ => 0))), (q2, .inr (7, [.int 0, .ref q0_3, .ref q1_4, .int 0, .ref q2_5, .ref q3_6, .int 0, .ref q4_7, .ref q5_8, .int 0, .int 0, .int 0])), (q0_3, .inl (cI, 5, .inl (fun _ => 0))), (q1_4, .inl (cI, 5, .inl (fun _ => 0))), (q2_5, .inl (cI, 6, .inl (fun _ => 0))), (q3_6, .inl (cI, 6, .inl (fun _ => 0))), (q4_7, .inl (cI, 4, .inl (fun _ => 0))), (q5_8, .inl (cI, 4, .inl (fun _ => 0))), (q9, .inr (7, [.int 0, .ref q0_10, .ref q1_11, .int 0, .ref q2_12, .ref q3_13, .int 0, .ref q4_14, .ref q5_15, .int 0, .int 0, .int 0])), (q0_10, .inl (cI, 5, .inl (fun _ => 0))), (q1_11, .inl (cI, 5, .inl (fun _ => 0))), (q2_12, .inl (cI, 6, .inl (fun _ => 0))), (q3_13, .inl (cI, 6, .inl (fun _ => 0))), (q4_14, .inl (cI, 4, .inl (fun _ => 0))), (q5_15, .inl (cI, 4, .inl (fun _ => 0)))] := hD
  refine lv_aload_n hx hb dX8_init_40 rfl (lv_at hl 0 rfl) ?_
  refine va_new (ci := 0) (fs := [.int 0, .null]) (C := RX0) (T := TX0) (N := 2) hx hb hts (fun _ h => List.mem_cons_of_mem _ (List.mem_append_left _ (List.mem_append_right _ h))) tyX0 tyX0_ok hown (hts (.classLink RX8 29 RX0) (List.mem_of_getElem? (i := 12) rfl)) (hts (.instantiable RX0 2) (List.mem_of_getElem? (i := 13) rfl)) (hts (.initialized RX0) (List.mem_of_getElem? (i := 14) rfl)) hK.1 hP hD hS hA rfl dfX0 (Nat.le_of_ble_eq_true rfl) (Nat.le_of_ble_eq_true rfl) dX8_init_41 (fun q16 H hP hD hS => ?_)
  have hP : va_P D vwCl [(h, .inr (8, [.ref q1, .int 0, .int 0, .int (-1), .int 0, .int 0, .int 0, .ref q2, .ref q9, .null, .null, .null, .null])), (q1, .inl (cB, 600, .inl (fun _ => 0))), (q2, .inr (7, [.int 0, .ref q0_3, .ref q1_4, .int 0, .ref q2_5, .ref q3_6, .int 0, .ref q4_7, .ref q5_8, .int 0, .int 0, .int 0])), (q0_3, .inl (cI, 5, .inl (fun _ => 0))), (q1_4, .inl (cI, 5, .inl (fun _ => 0))), (q2_5, .inl (cI, 6, .inl (fun _ => 0))), (q3_6, .inl (cI, 6, .inl (fun _ => 0))), (q4_7, .inl (cI, 4, .inl (fun _ => 0))), (q5_8, .inl (cI, 4, .inl (fun _ => 0))), (q9, .inr (7, [.int 0, .ref q0_10, .ref q1_11, .int 0, .ref q2_12, .ref q3_13, .int 0, .ref q4_14, .ref q5_15, .int 0, .int 0, .int 0])), (q0_10, .inl (cI, 5, .inl (fun _ => 0))), (q1_11, .inl (cI, 5, .inl (fun _ => 0))), (q2_12, .inl (cI, 6, .inl (fun _ => 0))), (q3_13, .inl (cI, 6, .inl (fun _ => 0))), (q4_14, .inl (cI, 4, .inl (fun _ => 0))), (q5_15, .inl (cI, 4, .inl (fun _ => 0))), (q16, .inr (0, [.int 0, .null]))] H := hP
  have hD : va_D A [(h, .inr (8, [.ref q1, .int 0, .int 0, .int (-1), .int 0, .int 0, .int 0, .ref q2, .ref q9, .null, .null, .null, .null])), (q1, .inl (cB, 600, .inl (fun _ => 0))), (q2, .inr (7, [.int 0, .ref q0_3, .ref q1_4, .int 0, .ref q2_5, .ref q3_6, .int 0, .ref q4_7, .ref q5_8, .int 0, .int 0, .int 0])), (q0_3, .inl (cI, 5, .inl (fun _ => 0))), (q1_4, .inl (cI, 5, .inl (fun _ => 0))), (q2_5, .inl (cI, 6, .inl (fun _ => 0))), (q3_6, .inl (cI, 6, .inl (fun _ => 0))), (q4_7, .inl (cI, 4, .inl (fun _ => 0))), (q5_8, .inl (cI, 4, .inl (fun _ => 0))), (q9, .inr (7, [.int 0, .ref q0_10, .ref q1_11, .int 0, .ref q2_12, .ref q3_13, .int 0, .ref q4_14, .ref q5_15, .int 0, .int 0, .int 0])), (q0_10, .inl (cI, 5, .inl (fun _ => 0))), (q1_11, .inl (cI, 5, .inl (fun _ => 0))), (q2_12, .inl (cI, 6, .inl (fun _ => 0))), (q3_13, .inl (cI, 6, .inl (fun _ => 0))), (q4_14, .inl (cI, 4, .inl (fun _ => 0))), (q5_15, .inl (cI, 4, .inl (fun _ => 0))), (q16, .inr (0, [.int 0, .null]))] := hD
  refine lv_dup hx hb dX8_init_44 rfl ?_
  refine doN (As := []) (rest := [.ref q16, .ref h]) (wc := [(q16, .inr (0, [.int 0, .null]))]) (wr := [(h, .inr (8, [.ref q1, .int 0, .int 0, .int (-1), .int 0, .int 0, .int 0, .ref q2, .ref q9, .null, .null, .null, .null])), (q1, .inl (cB, 600, .inl (fun _ => 0))), (q2, .inr (7, [.int 0, .ref q0_3, .ref q1_4, .int 0, .ref q2_5, .ref q3_6, .int 0, .ref q4_7, .ref q5_8, .int 0, .int 0, .int 0])), (q0_3, .inl (cI, 5, .inl (fun _ => 0))), (q1_4, .inl (cI, 5, .inl (fun _ => 0))), (q2_5, .inl (cI, 6, .inl (fun _ => 0))), (q3_6, .inl (cI, 6, .inl (fun _ => 0))), (q4_7, .inl (cI, 4, .inl (fun _ => 0))), (q5_8, .inl (cI, 4, .inl (fun _ => 0))), (q9, .inr (7, [.int 0, .ref q0_10, .ref q1_11, .int 0, .ref q2_12, .ref q3_13, .int 0, .ref q4_14, .ref q5_15, .int 0, .int 0, .int 0])), (q0_10, .inl (cI, 5, .inl (fun _ => 0))), (q1_11, .inl (cI, 5, .inl (fun _ => 0))), (q2_12, .inl (cI, 6, .inl (fun _ => 0))), (q3_13, .inl (cI, 6, .inl (fun _ => 0))), (q4_14, .inl (cI, 4, .inl (fun _ => 0))), (q5_15, .inl (cI, 4, .inl (fun _ => 0)))]) hx hb hml hown hts hK hP hD hS hA [16] [0, 1, 2, 3, 4, 5, 6, 7, 8, 9, 10, 11, 12, 13, 14, 15] rfl rfl rfl rfl (by decide) (c_Book_init l D cI cB cJ cZ cT (q16)) gX8_init_X0_init_n31 rfl rfl rfl (nz_at hK.2.1 54 (w := .methodLinkNest "ClapBank$Told" 31 ⟨"ClapBank$Book", "<init>", "()V"⟩ "ClapBank") rfl) (hts (.initialized RX0) (List.mem_of_getElem? (i := 14) rfl)) (hts (.instanceMethod yX0_init) (List.mem_of_getElem? (i := 32) rfl)) rfl (by decide +kernel) ⟨Nat.le_of_ble_eq_true rfl, Nat.le_of_ble_eq_true rfl⟩ hl.1 rfl rfl (Nat.le_of_ble_eq_true rfl) dX8_init_45 ⟨Nat.le_of_ble_eq_true rfl, Nat.le_of_ble_eq_true rfl⟩ (fun u H locs hw hP hD hS => ?_)
  obtain ⟨q_17, rfl⟩ : ∃ z, z = u := ⟨_, rfl⟩
  have hP : va_P D vwCl [(h, .inr (8, [.ref q1, .int 0, .int 0, .int (-1), .int 0, .int 0, .int 0, .ref q2, .ref q9, .null, .null, .null, .null])), (q1, .inl (cB, 600, .inl (fun _ => 0))), (q2, .inr (7, [.int 0, .ref q0_3, .ref q1_4, .int 0, .ref q2_5, .ref q3_6, .int 0, .ref q4_7, .ref q5_8, .int 0, .int 0, .int 0])), (q0_3, .inl (cI, 5, .inl (fun _ => 0))), (q1_4, .inl (cI, 5, .inl (fun _ => 0))), (q2_5, .inl (cI, 6, .inl (fun _ => 0))), (q3_6, .inl (cI, 6, .inl (fun _ => 0))), (q4_7, .inl (cI, 4, .inl (fun _ => 0))), (q5_8, .inl (cI, 4, .inl (fun _ => 0))), (q9, .inr (7, [.int 0, .ref q0_10, .ref q1_11, .int 0, .ref q2_12, .ref q3_13, .int 0, .ref q4_14, .ref q5_15, .int 0, .int 0, .int 0])), (q0_10, .inl (cI, 5, .inl (fun _ => 0))), (q1_11, .inl (cI, 5, .inl (fun _ => 0))), (q2_12, .inl (cI, 6, .inl (fun _ => 0))), (q3_13, .inl (cI, 6, .inl (fun _ => 0))), (q4_14, .inl (cI, 4, .inl (fun _ => 0))), (q5_15, .inl (cI, 4, .inl (fun _ => 0))), (q16, .inr (0, [.int 0, .ref q_17])), (q_17, .inl (cI, 120, .inl (fun _ => 0)))] H := hP
  have hD : va_D A [(h, .inr (8, [.ref q1, .int 0, .int 0, .int (-1), .int 0, .int 0, .int 0, .ref q2, .ref q9, .null, .null, .null, .null])), (q1, .inl (cB, 600, .inl (fun _ => 0))), (q2, .inr (7, [.int 0, .ref q0_3, .ref q1_4, .int 0, .ref q2_5, .ref q3_6, .int 0, .ref q4_7, .ref q5_8, .int 0, .int 0, .int 0])), (q0_3, .inl (cI, 5, .inl (fun _ => 0))), (q1_4, .inl (cI, 5, .inl (fun _ => 0))), (q2_5, .inl (cI, 6, .inl (fun _ => 0))), (q3_6, .inl (cI, 6, .inl (fun _ => 0))), (q4_7, .inl (cI, 4, .inl (fun _ => 0))), (q5_8, .inl (cI, 4, .inl (fun _ => 0))), (q9, .inr (7, [.int 0, .ref q0_10, .ref q1_11, .int 0, .ref q2_12, .ref q3_13, .int 0, .ref q4_14, .ref q5_15, .int 0, .int 0, .int 0])), (q0_10, .inl (cI, 5, .inl (fun _ => 0))), (q1_11, .inl (cI, 5, .inl (fun _ => 0))), (q2_12, .inl (cI, 6, .inl (fun _ => 0))), (q3_13, .inl (cI, 6, .inl (fun _ => 0))), (q4_14, .inl (cI, 4, .inl (fun _ => 0))), (q5_15, .inl (cI, 4, .inl (fun _ => 0))), (q16, .inr (0, [.int 0, .ref q_17])), (q_17, .inl (cI, 120, .inl (fun _ => 0)))] := hD
  refine W.eq (g2 := F0 m 48 ls [.ref q16, .ref h]) rfl ?_
  refine va_putF (D := D) (ci := 8) (v := .ref q16) (ty := (.object "ClapBank$Book")) (C := RX8) (T := TX8) (N := 13) hx hb hts (fun _ h => List.mem_cons_of_mem _ (List.mem_append_left _ (List.mem_append_left _ (List.mem_append_left _ (List.mem_append_right _ h))))) tyX8 tyX8_ok nmX8 hown hK.1 hP hD hS 0 rfl rfl 9 (by decide) (hts (.fieldLink RX8 32 "ClapBank$Told" "firstBook" "LClapBank$Book;") (List.mem_of_getElem? (i := 15) rfl)) (fun _ h9 => h9) rfl hname rfl (by decide +kernel) rfl rfl (Nat.le_of_ble_eq_true rfl) dX8_init_48 (fun H locs hP hD hS => ?_)
  have hP : va_P D vwCl [(h, .inr (8, [.ref q1, .int 0, .int 0, .int (-1), .int 0, .int 0, .int 0, .ref q2, .ref q9, .ref q16, .null, .null, .null])), (q1, .inl (cB, 600, .inl (fun _ => 0))), (q2, .inr (7, [.int 0, .ref q0_3, .ref q1_4, .int 0, .ref q2_5, .ref q3_6, .int 0, .ref q4_7, .ref q5_8, .int 0, .int 0, .int 0])), (q0_3, .inl (cI, 5, .inl (fun _ => 0))), (q1_4, .inl (cI, 5, .inl (fun _ => 0))), (q2_5, .inl (cI, 6, .inl (fun _ => 0))), (q3_6, .inl (cI, 6, .inl (fun _ => 0))), (q4_7, .inl (cI, 4, .inl (fun _ => 0))), (q5_8, .inl (cI, 4, .inl (fun _ => 0))), (q9, .inr (7, [.int 0, .ref q0_10, .ref q1_11, .int 0, .ref q2_12, .ref q3_13, .int 0, .ref q4_14, .ref q5_15, .int 0, .int 0, .int 0])), (q0_10, .inl (cI, 5, .inl (fun _ => 0))), (q1_11, .inl (cI, 5, .inl (fun _ => 0))), (q2_12, .inl (cI, 6, .inl (fun _ => 0))), (q3_13, .inl (cI, 6, .inl (fun _ => 0))), (q4_14, .inl (cI, 4, .inl (fun _ => 0))), (q5_15, .inl (cI, 4, .inl (fun _ => 0))), (q16, .inr (0, [.int 0, .ref q_17])), (q_17, .inl (cI, 120, .inl (fun _ => 0)))] H := hP
  have hD : va_D A [(h, .inr (8, [.ref q1, .int 0, .int 0, .int (-1), .int 0, .int 0, .int 0, .ref q2, .ref q9, .ref q16, .null, .null, .null])), (q1, .inl (cB, 600, .inl (fun _ => 0))), (q2, .inr (7, [.int 0, .ref q0_3, .ref q1_4, .int 0, .ref q2_5, .ref q3_6, .int 0, .ref q4_7, .ref q5_8, .int 0, .int 0, .int 0])), (q0_3, .inl (cI, 5, .inl (fun _ => 0))), (q1_4, .inl (cI, 5, .inl (fun _ => 0))), (q2_5, .inl (cI, 6, .inl (fun _ => 0))), (q3_6, .inl (cI, 6, .inl (fun _ => 0))), (q4_7, .inl (cI, 4, .inl (fun _ => 0))), (q5_8, .inl (cI, 4, .inl (fun _ => 0))), (q9, .inr (7, [.int 0, .ref q0_10, .ref q1_11, .int 0, .ref q2_12, .ref q3_13, .int 0, .ref q4_14, .ref q5_15, .int 0, .int 0, .int 0])), (q0_10, .inl (cI, 5, .inl (fun _ => 0))), (q1_11, .inl (cI, 5, .inl (fun _ => 0))), (q2_12, .inl (cI, 6, .inl (fun _ => 0))), (q3_13, .inl (cI, 6, .inl (fun _ => 0))), (q4_14, .inl (cI, 4, .inl (fun _ => 0))), (q5_15, .inl (cI, 4, .inl (fun _ => 0))), (q16, .inr (0, [.int 0, .ref q_17])), (q_17, .inl (cI, 120, .inl (fun _ => 0)))] := hD
  refine lv_aload_n hx hb dX8_init_51 rfl (lv_at hl 0 rfl) ?_
  refine va_new (ci := 0) (fs := [.int 0, .null]) (C := RX0) (T := TX0) (N := 2) hx hb hts (fun _ h => List.mem_cons_of_mem _ (List.mem_append_left _ (List.mem_append_right _ h))) tyX0 tyX0_ok hown (hts (.classLink RX8 29 RX0) (List.mem_of_getElem? (i := 12) rfl)) (hts (.instantiable RX0 2) (List.mem_of_getElem? (i := 13) rfl)) (hts (.initialized RX0) (List.mem_of_getElem? (i := 14) rfl)) hK.1 hP hD hS hA rfl dfX0 (Nat.le_of_ble_eq_true rfl) (Nat.le_of_ble_eq_true rfl) dX8_init_52 (fun q18 H hP hD hS => ?_)
  have hP : va_P D vwCl [(h, .inr (8, [.ref q1, .int 0, .int 0, .int (-1), .int 0, .int 0, .int 0, .ref q2, .ref q9, .ref q16, .null, .null, .null])), (q1, .inl (cB, 600, .inl (fun _ => 0))), (q2, .inr (7, [.int 0, .ref q0_3, .ref q1_4, .int 0, .ref q2_5, .ref q3_6, .int 0, .ref q4_7, .ref q5_8, .int 0, .int 0, .int 0])), (q0_3, .inl (cI, 5, .inl (fun _ => 0))), (q1_4, .inl (cI, 5, .inl (fun _ => 0))), (q2_5, .inl (cI, 6, .inl (fun _ => 0))), (q3_6, .inl (cI, 6, .inl (fun _ => 0))), (q4_7, .inl (cI, 4, .inl (fun _ => 0))), (q5_8, .inl (cI, 4, .inl (fun _ => 0))), (q9, .inr (7, [.int 0, .ref q0_10, .ref q1_11, .int 0, .ref q2_12, .ref q3_13, .int 0, .ref q4_14, .ref q5_15, .int 0, .int 0, .int 0])), (q0_10, .inl (cI, 5, .inl (fun _ => 0))), (q1_11, .inl (cI, 5, .inl (fun _ => 0))), (q2_12, .inl (cI, 6, .inl (fun _ => 0))), (q3_13, .inl (cI, 6, .inl (fun _ => 0))), (q4_14, .inl (cI, 4, .inl (fun _ => 0))), (q5_15, .inl (cI, 4, .inl (fun _ => 0))), (q16, .inr (0, [.int 0, .ref q_17])), (q_17, .inl (cI, 120, .inl (fun _ => 0))), (q18, .inr (0, [.int 0, .null]))] H := hP
  have hD : va_D A [(h, .inr (8, [.ref q1, .int 0, .int 0, .int (-1), .int 0, .int 0, .int 0, .ref q2, .ref q9, .ref q16, .null, .null, .null])), (q1, .inl (cB, 600, .inl (fun _ => 0))), (q2, .inr (7, [.int 0, .ref q0_3, .ref q1_4, .int 0, .ref q2_5, .ref q3_6, .int 0, .ref q4_7, .ref q5_8, .int 0, .int 0, .int 0])), (q0_3, .inl (cI, 5, .inl (fun _ => 0))), (q1_4, .inl (cI, 5, .inl (fun _ => 0))), (q2_5, .inl (cI, 6, .inl (fun _ => 0))), (q3_6, .inl (cI, 6, .inl (fun _ => 0))), (q4_7, .inl (cI, 4, .inl (fun _ => 0))), (q5_8, .inl (cI, 4, .inl (fun _ => 0))), (q9, .inr (7, [.int 0, .ref q0_10, .ref q1_11, .int 0, .ref q2_12, .ref q3_13, .int 0, .ref q4_14, .ref q5_15, .int 0, .int 0, .int 0])), (q0_10, .inl (cI, 5, .inl (fun _ => 0))), (q1_11, .inl (cI, 5, .inl (fun _ => 0))), (q2_12, .inl (cI, 6, .inl (fun _ => 0))), (q3_13, .inl (cI, 6, .inl (fun _ => 0))), (q4_14, .inl (cI, 4, .inl (fun _ => 0))), (q5_15, .inl (cI, 4, .inl (fun _ => 0))), (q16, .inr (0, [.int 0, .ref q_17])), (q_17, .inl (cI, 120, .inl (fun _ => 0))), (q18, .inr (0, [.int 0, .null]))] := hD
  refine lv_dup hx hb dX8_init_55 rfl ?_
  refine doN (As := []) (rest := [.ref q18, .ref h]) (wc := [(q18, .inr (0, [.int 0, .null]))]) (wr := [(h, .inr (8, [.ref q1, .int 0, .int 0, .int (-1), .int 0, .int 0, .int 0, .ref q2, .ref q9, .ref q16, .null, .null, .null])), (q1, .inl (cB, 600, .inl (fun _ => 0))), (q2, .inr (7, [.int 0, .ref q0_3, .ref q1_4, .int 0, .ref q2_5, .ref q3_6, .int 0, .ref q4_7, .ref q5_8, .int 0, .int 0, .int 0])), (q0_3, .inl (cI, 5, .inl (fun _ => 0))), (q1_4, .inl (cI, 5, .inl (fun _ => 0))), (q2_5, .inl (cI, 6, .inl (fun _ => 0))), (q3_6, .inl (cI, 6, .inl (fun _ => 0))), (q4_7, .inl (cI, 4, .inl (fun _ => 0))), (q5_8, .inl (cI, 4, .inl (fun _ => 0))), (q9, .inr (7, [.int 0, .ref q0_10, .ref q1_11, .int 0, .ref q2_12, .ref q3_13, .int 0, .ref q4_14, .ref q5_15, .int 0, .int 0, .int 0])), (q0_10, .inl (cI, 5, .inl (fun _ => 0))), (q1_11, .inl (cI, 5, .inl (fun _ => 0))), (q2_12, .inl (cI, 6, .inl (fun _ => 0))), (q3_13, .inl (cI, 6, .inl (fun _ => 0))), (q4_14, .inl (cI, 4, .inl (fun _ => 0))), (q5_15, .inl (cI, 4, .inl (fun _ => 0))), (q16, .inr (0, [.int 0, .ref q_17])), (q_17, .inl (cI, 120, .inl (fun _ => 0)))]) hx hb hml hown hts hK hP hD hS hA [18] [0, 1, 2, 3, 4, 5, 6, 7, 8, 9, 10, 11, 12, 13, 14, 15, 16, 17] rfl rfl rfl rfl (by decide) (c_Book_init l D cI cB cJ cZ cT (q18)) gX8_init_X0_init_n31 rfl rfl rfl (nz_at hK.2.1 54 (w := .methodLinkNest "ClapBank$Told" 31 ⟨"ClapBank$Book", "<init>", "()V"⟩ "ClapBank") rfl) (hts (.initialized RX0) (List.mem_of_getElem? (i := 14) rfl)) (hts (.instanceMethod yX0_init) (List.mem_of_getElem? (i := 32) rfl)) rfl (by decide +kernel) ⟨Nat.le_of_ble_eq_true rfl, Nat.le_of_ble_eq_true rfl⟩ hl.1 rfl rfl (Nat.le_of_ble_eq_true rfl) dX8_init_56 ⟨Nat.le_of_ble_eq_true rfl, Nat.le_of_ble_eq_true rfl⟩ (fun u H locs hw hP hD hS => ?_)
  obtain ⟨q_19, rfl⟩ : ∃ z, z = u := ⟨_, rfl⟩
  have hP : va_P D vwCl [(h, .inr (8, [.ref q1, .int 0, .int 0, .int (-1), .int 0, .int 0, .int 0, .ref q2, .ref q9, .ref q16, .null, .null, .null])), (q1, .inl (cB, 600, .inl (fun _ => 0))), (q2, .inr (7, [.int 0, .ref q0_3, .ref q1_4, .int 0, .ref q2_5, .ref q3_6, .int 0, .ref q4_7, .ref q5_8, .int 0, .int 0, .int 0])), (q0_3, .inl (cI, 5, .inl (fun _ => 0))), (q1_4, .inl (cI, 5, .inl (fun _ => 0))), (q2_5, .inl (cI, 6, .inl (fun _ => 0))), (q3_6, .inl (cI, 6, .inl (fun _ => 0))), (q4_7, .inl (cI, 4, .inl (fun _ => 0))), (q5_8, .inl (cI, 4, .inl (fun _ => 0))), (q9, .inr (7, [.int 0, .ref q0_10, .ref q1_11, .int 0, .ref q2_12, .ref q3_13, .int 0, .ref q4_14, .ref q5_15, .int 0, .int 0, .int 0])), (q0_10, .inl (cI, 5, .inl (fun _ => 0))), (q1_11, .inl (cI, 5, .inl (fun _ => 0))), (q2_12, .inl (cI, 6, .inl (fun _ => 0))), (q3_13, .inl (cI, 6, .inl (fun _ => 0))), (q4_14, .inl (cI, 4, .inl (fun _ => 0))), (q5_15, .inl (cI, 4, .inl (fun _ => 0))), (q16, .inr (0, [.int 0, .ref q_17])), (q_17, .inl (cI, 120, .inl (fun _ => 0))), (q18, .inr (0, [.int 0, .ref q_19])), (q_19, .inl (cI, 120, .inl (fun _ => 0)))] H := hP
  have hD : va_D A [(h, .inr (8, [.ref q1, .int 0, .int 0, .int (-1), .int 0, .int 0, .int 0, .ref q2, .ref q9, .ref q16, .null, .null, .null])), (q1, .inl (cB, 600, .inl (fun _ => 0))), (q2, .inr (7, [.int 0, .ref q0_3, .ref q1_4, .int 0, .ref q2_5, .ref q3_6, .int 0, .ref q4_7, .ref q5_8, .int 0, .int 0, .int 0])), (q0_3, .inl (cI, 5, .inl (fun _ => 0))), (q1_4, .inl (cI, 5, .inl (fun _ => 0))), (q2_5, .inl (cI, 6, .inl (fun _ => 0))), (q3_6, .inl (cI, 6, .inl (fun _ => 0))), (q4_7, .inl (cI, 4, .inl (fun _ => 0))), (q5_8, .inl (cI, 4, .inl (fun _ => 0))), (q9, .inr (7, [.int 0, .ref q0_10, .ref q1_11, .int 0, .ref q2_12, .ref q3_13, .int 0, .ref q4_14, .ref q5_15, .int 0, .int 0, .int 0])), (q0_10, .inl (cI, 5, .inl (fun _ => 0))), (q1_11, .inl (cI, 5, .inl (fun _ => 0))), (q2_12, .inl (cI, 6, .inl (fun _ => 0))), (q3_13, .inl (cI, 6, .inl (fun _ => 0))), (q4_14, .inl (cI, 4, .inl (fun _ => 0))), (q5_15, .inl (cI, 4, .inl (fun _ => 0))), (q16, .inr (0, [.int 0, .ref q_17])), (q_17, .inl (cI, 120, .inl (fun _ => 0))), (q18, .inr (0, [.int 0, .ref q_19])), (q_19, .inl (cI, 120, .inl (fun _ => 0)))] := hD
  refine W.eq (g2 := F0 m 59 ls [.ref q18, .ref h]) rfl ?_
  refine va_putF (D := D) (ci := 8) (v := .ref q18) (ty := (.object "ClapBank$Book")) (C := RX8) (T := TX8) (N := 13) hx hb hts (fun _ h => List.mem_cons_of_mem _ (List.mem_append_left _ (List.mem_append_left _ (List.mem_append_left _ (List.mem_append_right _ h))))) tyX8 tyX8_ok nmX8 hown hK.1 hP hD hS 0 rfl rfl 10 (by decide) (hts (.fieldLink RX8 36 "ClapBank$Told" "secondBook" "LClapBank$Book;") (List.mem_of_getElem? (i := 16) rfl)) (fun _ h9 => h9) rfl hname rfl (by decide +kernel) rfl rfl (Nat.le_of_ble_eq_true rfl) dX8_init_59 (fun H locs hP hD hS => ?_)
  have hP : va_P D vwCl [(h, .inr (8, [.ref q1, .int 0, .int 0, .int (-1), .int 0, .int 0, .int 0, .ref q2, .ref q9, .ref q16, .ref q18, .null, .null])), (q1, .inl (cB, 600, .inl (fun _ => 0))), (q2, .inr (7, [.int 0, .ref q0_3, .ref q1_4, .int 0, .ref q2_5, .ref q3_6, .int 0, .ref q4_7, .ref q5_8, .int 0, .int 0, .int 0])), (q0_3, .inl (cI, 5, .inl (fun _ => 0))), (q1_4, .inl (cI, 5, .inl (fun _ => 0))), (q2_5, .inl (cI, 6, .inl (fun _ => 0))), (q3_6, .inl (cI, 6, .inl (fun _ => 0))), (q4_7, .inl (cI, 4, .inl (fun _ => 0))), (q5_8, .inl (cI, 4, .inl (fun _ => 0))), (q9, .inr (7, [.int 0, .ref q0_10, .ref q1_11, .int 0, .ref q2_12, .ref q3_13, .int 0, .ref q4_14, .ref q5_15, .int 0, .int 0, .int 0])), (q0_10, .inl (cI, 5, .inl (fun _ => 0))), (q1_11, .inl (cI, 5, .inl (fun _ => 0))), (q2_12, .inl (cI, 6, .inl (fun _ => 0))), (q3_13, .inl (cI, 6, .inl (fun _ => 0))), (q4_14, .inl (cI, 4, .inl (fun _ => 0))), (q5_15, .inl (cI, 4, .inl (fun _ => 0))), (q16, .inr (0, [.int 0, .ref q_17])), (q_17, .inl (cI, 120, .inl (fun _ => 0))), (q18, .inr (0, [.int 0, .ref q_19])), (q_19, .inl (cI, 120, .inl (fun _ => 0)))] H := hP
  have hD : va_D A [(h, .inr (8, [.ref q1, .int 0, .int 0, .int (-1), .int 0, .int 0, .int 0, .ref q2, .ref q9, .ref q16, .ref q18, .null, .null])), (q1, .inl (cB, 600, .inl (fun _ => 0))), (q2, .inr (7, [.int 0, .ref q0_3, .ref q1_4, .int 0, .ref q2_5, .ref q3_6, .int 0, .ref q4_7, .ref q5_8, .int 0, .int 0, .int 0])), (q0_3, .inl (cI, 5, .inl (fun _ => 0))), (q1_4, .inl (cI, 5, .inl (fun _ => 0))), (q2_5, .inl (cI, 6, .inl (fun _ => 0))), (q3_6, .inl (cI, 6, .inl (fun _ => 0))), (q4_7, .inl (cI, 4, .inl (fun _ => 0))), (q5_8, .inl (cI, 4, .inl (fun _ => 0))), (q9, .inr (7, [.int 0, .ref q0_10, .ref q1_11, .int 0, .ref q2_12, .ref q3_13, .int 0, .ref q4_14, .ref q5_15, .int 0, .int 0, .int 0])), (q0_10, .inl (cI, 5, .inl (fun _ => 0))), (q1_11, .inl (cI, 5, .inl (fun _ => 0))), (q2_12, .inl (cI, 6, .inl (fun _ => 0))), (q3_13, .inl (cI, 6, .inl (fun _ => 0))), (q4_14, .inl (cI, 4, .inl (fun _ => 0))), (q5_15, .inl (cI, 4, .inl (fun _ => 0))), (q16, .inr (0, [.int 0, .ref q_17])), (q_17, .inl (cI, 120, .inl (fun _ => 0))), (q18, .inr (0, [.int 0, .ref q_19])), (q_19, .inl (cI, 120, .inl (fun _ => 0)))] := hD
  refine lv_aload_n hx hb dX8_init_62 rfl (lv_at hl 0 rfl) ?_
  refine va_new (ci := 1) (fs := [.int 0, .null]) (C := RX1) (T := TX1) (N := 2) hx hb hts (fun _ h => List.mem_cons_of_mem _ (List.mem_append_right _ h)) tyX1 tyX1_ok hown (hts (.classLink RX8 39 RX1) (List.mem_of_getElem? (i := 17) rfl)) (hts (.instantiable RX1 2) (List.mem_of_getElem? (i := 18) rfl)) (hts (.initialized RX1) (List.mem_of_getElem? (i := 19) rfl)) hK.1 hP hD hS hA rfl dfX1 (Nat.le_of_ble_eq_true rfl) (Nat.le_of_ble_eq_true rfl) dX8_init_63 (fun q20 H hP hD hS => ?_)
  have hP : va_P D vwCl [(h, .inr (8, [.ref q1, .int 0, .int 0, .int (-1), .int 0, .int 0, .int 0, .ref q2, .ref q9, .ref q16, .ref q18, .null, .null])), (q1, .inl (cB, 600, .inl (fun _ => 0))), (q2, .inr (7, [.int 0, .ref q0_3, .ref q1_4, .int 0, .ref q2_5, .ref q3_6, .int 0, .ref q4_7, .ref q5_8, .int 0, .int 0, .int 0])), (q0_3, .inl (cI, 5, .inl (fun _ => 0))), (q1_4, .inl (cI, 5, .inl (fun _ => 0))), (q2_5, .inl (cI, 6, .inl (fun _ => 0))), (q3_6, .inl (cI, 6, .inl (fun _ => 0))), (q4_7, .inl (cI, 4, .inl (fun _ => 0))), (q5_8, .inl (cI, 4, .inl (fun _ => 0))), (q9, .inr (7, [.int 0, .ref q0_10, .ref q1_11, .int 0, .ref q2_12, .ref q3_13, .int 0, .ref q4_14, .ref q5_15, .int 0, .int 0, .int 0])), (q0_10, .inl (cI, 5, .inl (fun _ => 0))), (q1_11, .inl (cI, 5, .inl (fun _ => 0))), (q2_12, .inl (cI, 6, .inl (fun _ => 0))), (q3_13, .inl (cI, 6, .inl (fun _ => 0))), (q4_14, .inl (cI, 4, .inl (fun _ => 0))), (q5_15, .inl (cI, 4, .inl (fun _ => 0))), (q16, .inr (0, [.int 0, .ref q_17])), (q_17, .inl (cI, 120, .inl (fun _ => 0))), (q18, .inr (0, [.int 0, .ref q_19])), (q_19, .inl (cI, 120, .inl (fun _ => 0))), (q20, .inr (1, [.int 0, .null]))] H := hP
  have hD : va_D A [(h, .inr (8, [.ref q1, .int 0, .int 0, .int (-1), .int 0, .int 0, .int 0, .ref q2, .ref q9, .ref q16, .ref q18, .null, .null])), (q1, .inl (cB, 600, .inl (fun _ => 0))), (q2, .inr (7, [.int 0, .ref q0_3, .ref q1_4, .int 0, .ref q2_5, .ref q3_6, .int 0, .ref q4_7, .ref q5_8, .int 0, .int 0, .int 0])), (q0_3, .inl (cI, 5, .inl (fun _ => 0))), (q1_4, .inl (cI, 5, .inl (fun _ => 0))), (q2_5, .inl (cI, 6, .inl (fun _ => 0))), (q3_6, .inl (cI, 6, .inl (fun _ => 0))), (q4_7, .inl (cI, 4, .inl (fun _ => 0))), (q5_8, .inl (cI, 4, .inl (fun _ => 0))), (q9, .inr (7, [.int 0, .ref q0_10, .ref q1_11, .int 0, .ref q2_12, .ref q3_13, .int 0, .ref q4_14, .ref q5_15, .int 0, .int 0, .int 0])), (q0_10, .inl (cI, 5, .inl (fun _ => 0))), (q1_11, .inl (cI, 5, .inl (fun _ => 0))), (q2_12, .inl (cI, 6, .inl (fun _ => 0))), (q3_13, .inl (cI, 6, .inl (fun _ => 0))), (q4_14, .inl (cI, 4, .inl (fun _ => 0))), (q5_15, .inl (cI, 4, .inl (fun _ => 0))), (q16, .inr (0, [.int 0, .ref q_17])), (q_17, .inl (cI, 120, .inl (fun _ => 0))), (q18, .inr (0, [.int 0, .ref q_19])), (q_19, .inl (cI, 120, .inl (fun _ => 0))), (q20, .inr (1, [.int 0, .null]))] := hD
  refine lv_dup hx hb dX8_init_66 rfl ?_
  refine doN (As := []) (rest := [.ref q20, .ref h]) (wc := [(q20, .inr (1, [.int 0, .null]))]) (wr := [(h, .inr (8, [.ref q1, .int 0, .int 0, .int (-1), .int 0, .int 0, .int 0, .ref q2, .ref q9, .ref q16, .ref q18, .null, .null])), (q1, .inl (cB, 600, .inl (fun _ => 0))), (q2, .inr (7, [.int 0, .ref q0_3, .ref q1_4, .int 0, .ref q2_5, .ref q3_6, .int 0, .ref q4_7, .ref q5_8, .int 0, .int 0, .int 0])), (q0_3, .inl (cI, 5, .inl (fun _ => 0))), (q1_4, .inl (cI, 5, .inl (fun _ => 0))), (q2_5, .inl (cI, 6, .inl (fun _ => 0))), (q3_6, .inl (cI, 6, .inl (fun _ => 0))), (q4_7, .inl (cI, 4, .inl (fun _ => 0))), (q5_8, .inl (cI, 4, .inl (fun _ => 0))), (q9, .inr (7, [.int 0, .ref q0_10, .ref q1_11, .int 0, .ref q2_12, .ref q3_13, .int 0, .ref q4_14, .ref q5_15, .int 0, .int 0, .int 0])), (q0_10, .inl (cI, 5, .inl (fun _ => 0))), (q1_11, .inl (cI, 5, .inl (fun _ => 0))), (q2_12, .inl (cI, 6, .inl (fun _ => 0))), (q3_13, .inl (cI, 6, .inl (fun _ => 0))), (q4_14, .inl (cI, 4, .inl (fun _ => 0))), (q5_15, .inl (cI, 4, .inl (fun _ => 0))), (q16, .inr (0, [.int 0, .ref q_17])), (q_17, .inl (cI, 120, .inl (fun _ => 0))), (q18, .inr (0, [.int 0, .ref q_19])), (q_19, .inl (cI, 120, .inl (fun _ => 0)))]) hx hb hml hown hts hK hP hD hS hA [20] [0, 1, 2, 3, 4, 5, 6, 7, 8, 9, 10, 11, 12, 13, 14, 15, 16, 17, 18, 19] rfl rfl rfl rfl (by decide) (c_Dark_init l D cI cB cJ cZ cT (q20)) gX8_init_X1_init_n41 rfl rfl rfl (nz_at hK.2.1 55 (w := .methodLinkNest "ClapBank$Told" 41 ⟨"ClapBank$Dark", "<init>", "()V"⟩ "ClapBank") rfl) (hts (.initialized RX1) (List.mem_of_getElem? (i := 19) rfl)) (hts (.instanceMethod yX1_init) (List.mem_of_getElem? (i := 36) rfl)) rfl (by decide +kernel) ⟨Nat.le_of_ble_eq_true rfl, Nat.le_of_ble_eq_true rfl⟩ hl.1 rfl rfl (Nat.le_of_ble_eq_true rfl) dX8_init_67 ⟨Nat.le_of_ble_eq_true rfl, Nat.le_of_ble_eq_true rfl⟩ (fun u H locs hw hP hD hS => ?_)
  obtain ⟨q_21, rfl⟩ : ∃ z, z = u := ⟨_, rfl⟩
  have hP : va_P D vwCl [(h, .inr (8, [.ref q1, .int 0, .int 0, .int (-1), .int 0, .int 0, .int 0, .ref q2, .ref q9, .ref q16, .ref q18, .null, .null])), (q1, .inl (cB, 600, .inl (fun _ => 0))), (q2, .inr (7, [.int 0, .ref q0_3, .ref q1_4, .int 0, .ref q2_5, .ref q3_6, .int 0, .ref q4_7, .ref q5_8, .int 0, .int 0, .int 0])), (q0_3, .inl (cI, 5, .inl (fun _ => 0))), (q1_4, .inl (cI, 5, .inl (fun _ => 0))), (q2_5, .inl (cI, 6, .inl (fun _ => 0))), (q3_6, .inl (cI, 6, .inl (fun _ => 0))), (q4_7, .inl (cI, 4, .inl (fun _ => 0))), (q5_8, .inl (cI, 4, .inl (fun _ => 0))), (q9, .inr (7, [.int 0, .ref q0_10, .ref q1_11, .int 0, .ref q2_12, .ref q3_13, .int 0, .ref q4_14, .ref q5_15, .int 0, .int 0, .int 0])), (q0_10, .inl (cI, 5, .inl (fun _ => 0))), (q1_11, .inl (cI, 5, .inl (fun _ => 0))), (q2_12, .inl (cI, 6, .inl (fun _ => 0))), (q3_13, .inl (cI, 6, .inl (fun _ => 0))), (q4_14, .inl (cI, 4, .inl (fun _ => 0))), (q5_15, .inl (cI, 4, .inl (fun _ => 0))), (q16, .inr (0, [.int 0, .ref q_17])), (q_17, .inl (cI, 120, .inl (fun _ => 0))), (q18, .inr (0, [.int 0, .ref q_19])), (q_19, .inl (cI, 120, .inl (fun _ => 0))), (q20, .inr (1, [.int 0, .ref q_21])), (q_21, .inl (cI, 6, .inl (fun _ => 0)))] H := hP
  have hD : va_D A [(h, .inr (8, [.ref q1, .int 0, .int 0, .int (-1), .int 0, .int 0, .int 0, .ref q2, .ref q9, .ref q16, .ref q18, .null, .null])), (q1, .inl (cB, 600, .inl (fun _ => 0))), (q2, .inr (7, [.int 0, .ref q0_3, .ref q1_4, .int 0, .ref q2_5, .ref q3_6, .int 0, .ref q4_7, .ref q5_8, .int 0, .int 0, .int 0])), (q0_3, .inl (cI, 5, .inl (fun _ => 0))), (q1_4, .inl (cI, 5, .inl (fun _ => 0))), (q2_5, .inl (cI, 6, .inl (fun _ => 0))), (q3_6, .inl (cI, 6, .inl (fun _ => 0))), (q4_7, .inl (cI, 4, .inl (fun _ => 0))), (q5_8, .inl (cI, 4, .inl (fun _ => 0))), (q9, .inr (7, [.int 0, .ref q0_10, .ref q1_11, .int 0, .ref q2_12, .ref q3_13, .int 0, .ref q4_14, .ref q5_15, .int 0, .int 0, .int 0])), (q0_10, .inl (cI, 5, .inl (fun _ => 0))), (q1_11, .inl (cI, 5, .inl (fun _ => 0))), (q2_12, .inl (cI, 6, .inl (fun _ => 0))), (q3_13, .inl (cI, 6, .inl (fun _ => 0))), (q4_14, .inl (cI, 4, .inl (fun _ => 0))), (q5_15, .inl (cI, 4, .inl (fun _ => 0))), (q16, .inr (0, [.int 0, .ref q_17])), (q_17, .inl (cI, 120, .inl (fun _ => 0))), (q18, .inr (0, [.int 0, .ref q_19])), (q_19, .inl (cI, 120, .inl (fun _ => 0))), (q20, .inr (1, [.int 0, .ref q_21])), (q_21, .inl (cI, 6, .inl (fun _ => 0)))] := hD
  refine W.eq (g2 := F0 m 70 ls [.ref q20, .ref h]) rfl ?_
  refine va_putF (D := D) (ci := 8) (v := .ref q20) (ty := (.object "ClapBank$Dark")) (C := RX8) (T := TX8) (N := 13) hx hb hts (fun _ h => List.mem_cons_of_mem _ (List.mem_append_left _ (List.mem_append_left _ (List.mem_append_left _ (List.mem_append_right _ h))))) tyX8 tyX8_ok nmX8 hown hK.1 hP hD hS 0 rfl rfl 11 (by decide) (hts (.fieldLink RX8 42 "ClapBank$Told" "firstDark" "LClapBank$Dark;") (List.mem_of_getElem? (i := 20) rfl)) (fun _ h9 => h9) rfl hname rfl (by decide +kernel) rfl rfl (Nat.le_of_ble_eq_true rfl) dX8_init_70 (fun H locs hP hD hS => ?_)
  have hP : va_P D vwCl [(h, .inr (8, [.ref q1, .int 0, .int 0, .int (-1), .int 0, .int 0, .int 0, .ref q2, .ref q9, .ref q16, .ref q18, .ref q20, .null])), (q1, .inl (cB, 600, .inl (fun _ => 0))), (q2, .inr (7, [.int 0, .ref q0_3, .ref q1_4, .int 0, .ref q2_5, .ref q3_6, .int 0, .ref q4_7, .ref q5_8, .int 0, .int 0, .int 0])), (q0_3, .inl (cI, 5, .inl (fun _ => 0))), (q1_4, .inl (cI, 5, .inl (fun _ => 0))), (q2_5, .inl (cI, 6, .inl (fun _ => 0))), (q3_6, .inl (cI, 6, .inl (fun _ => 0))), (q4_7, .inl (cI, 4, .inl (fun _ => 0))), (q5_8, .inl (cI, 4, .inl (fun _ => 0))), (q9, .inr (7, [.int 0, .ref q0_10, .ref q1_11, .int 0, .ref q2_12, .ref q3_13, .int 0, .ref q4_14, .ref q5_15, .int 0, .int 0, .int 0])), (q0_10, .inl (cI, 5, .inl (fun _ => 0))), (q1_11, .inl (cI, 5, .inl (fun _ => 0))), (q2_12, .inl (cI, 6, .inl (fun _ => 0))), (q3_13, .inl (cI, 6, .inl (fun _ => 0))), (q4_14, .inl (cI, 4, .inl (fun _ => 0))), (q5_15, .inl (cI, 4, .inl (fun _ => 0))), (q16, .inr (0, [.int 0, .ref q_17])), (q_17, .inl (cI, 120, .inl (fun _ => 0))), (q18, .inr (0, [.int 0, .ref q_19])), (q_19, .inl (cI, 120, .inl (fun _ => 0))), (q20, .inr (1, [.int 0, .ref q_21])), (q_21, .inl (cI, 6, .inl (fun _ => 0)))] H := hP
  have hD : va_D A [(h, .inr (8, [.ref q1, .int 0, .int 0, .int (-1), .int 0, .int 0, .int 0, .ref q2, .ref q9, .ref q16, .ref q18, .ref q20, .null])), (q1, .inl (cB, 600, .inl (fun _ => 0))), (q2, .inr (7, [.int 0, .ref q0_3, .ref q1_4, .int 0, .ref q2_5, .ref q3_6, .int 0, .ref q4_7, .ref q5_8, .int 0, .int 0, .int 0])), (q0_3, .inl (cI, 5, .inl (fun _ => 0))), (q1_4, .inl (cI, 5, .inl (fun _ => 0))), (q2_5, .inl (cI, 6, .inl (fun _ => 0))), (q3_6, .inl (cI, 6, .inl (fun _ => 0))), (q4_7, .inl (cI, 4, .inl (fun _ => 0))), (q5_8, .inl (cI, 4, .inl (fun _ => 0))), (q9, .inr (7, [.int 0, .ref q0_10, .ref q1_11, .int 0, .ref q2_12, .ref q3_13, .int 0, .ref q4_14, .ref q5_15, .int 0, .int 0, .int 0])), (q0_10, .inl (cI, 5, .inl (fun _ => 0))), (q1_11, .inl (cI, 5, .inl (fun _ => 0))), (q2_12, .inl (cI, 6, .inl (fun _ => 0))), (q3_13, .inl (cI, 6, .inl (fun _ => 0))), (q4_14, .inl (cI, 4, .inl (fun _ => 0))), (q5_15, .inl (cI, 4, .inl (fun _ => 0))), (q16, .inr (0, [.int 0, .ref q_17])), (q_17, .inl (cI, 120, .inl (fun _ => 0))), (q18, .inr (0, [.int 0, .ref q_19])), (q_19, .inl (cI, 120, .inl (fun _ => 0))), (q20, .inr (1, [.int 0, .ref q_21])), (q_21, .inl (cI, 6, .inl (fun _ => 0)))] := hD
  refine lv_aload_n hx hb dX8_init_73 rfl (lv_at hl 0 rfl) ?_
  refine va_new (ci := 1) (fs := [.int 0, .null]) (C := RX1) (T := TX1) (N := 2) hx hb hts (fun _ h => List.mem_cons_of_mem _ (List.mem_append_right _ h)) tyX1 tyX1_ok hown (hts (.classLink RX8 39 RX1) (List.mem_of_getElem? (i := 17) rfl)) (hts (.instantiable RX1 2) (List.mem_of_getElem? (i := 18) rfl)) (hts (.initialized RX1) (List.mem_of_getElem? (i := 19) rfl)) hK.1 hP hD hS hA rfl dfX1 (Nat.le_of_ble_eq_true rfl) (Nat.le_of_ble_eq_true rfl) dX8_init_74 (fun q22 H hP hD hS => ?_)
  have hP : va_P D vwCl [(h, .inr (8, [.ref q1, .int 0, .int 0, .int (-1), .int 0, .int 0, .int 0, .ref q2, .ref q9, .ref q16, .ref q18, .ref q20, .null])), (q1, .inl (cB, 600, .inl (fun _ => 0))), (q2, .inr (7, [.int 0, .ref q0_3, .ref q1_4, .int 0, .ref q2_5, .ref q3_6, .int 0, .ref q4_7, .ref q5_8, .int 0, .int 0, .int 0])), (q0_3, .inl (cI, 5, .inl (fun _ => 0))), (q1_4, .inl (cI, 5, .inl (fun _ => 0))), (q2_5, .inl (cI, 6, .inl (fun _ => 0))), (q3_6, .inl (cI, 6, .inl (fun _ => 0))), (q4_7, .inl (cI, 4, .inl (fun _ => 0))), (q5_8, .inl (cI, 4, .inl (fun _ => 0))), (q9, .inr (7, [.int 0, .ref q0_10, .ref q1_11, .int 0, .ref q2_12, .ref q3_13, .int 0, .ref q4_14, .ref q5_15, .int 0, .int 0, .int 0])), (q0_10, .inl (cI, 5, .inl (fun _ => 0))), (q1_11, .inl (cI, 5, .inl (fun _ => 0))), (q2_12, .inl (cI, 6, .inl (fun _ => 0))), (q3_13, .inl (cI, 6, .inl (fun _ => 0))), (q4_14, .inl (cI, 4, .inl (fun _ => 0))), (q5_15, .inl (cI, 4, .inl (fun _ => 0))), (q16, .inr (0, [.int 0, .ref q_17])), (q_17, .inl (cI, 120, .inl (fun _ => 0))), (q18, .inr (0, [.int 0, .ref q_19])), (q_19, .inl (cI, 120, .inl (fun _ => 0))), (q20, .inr (1, [.int 0, .ref q_21])), (q_21, .inl (cI, 6, .inl (fun _ => 0))), (q22, .inr (1, [.int 0, .null]))] H := hP
  have hD : va_D A [(h, .inr (8, [.ref q1, .int 0, .int 0, .int (-1), .int 0, .int 0, .int 0, .ref q2, .ref q9, .ref q16, .ref q18, .ref q20, .null])), (q1, .inl (cB, 600, .inl (fun _ => 0))), (q2, .inr (7, [.int 0, .ref q0_3, .ref q1_4, .int 0, .ref q2_5, .ref q3_6, .int 0, .ref q4_7, .ref q5_8, .int 0, .int 0, .int 0])), (q0_3, .inl (cI, 5, .inl (fun _ => 0))), (q1_4, .inl (cI, 5, .inl (fun _ => 0))), (q2_5, .inl (cI, 6, .inl (fun _ => 0))), (q3_6, .inl (cI, 6, .inl (fun _ => 0))), (q4_7, .inl (cI, 4, .inl (fun _ => 0))), (q5_8, .inl (cI, 4, .inl (fun _ => 0))), (q9, .inr (7, [.int 0, .ref q0_10, .ref q1_11, .int 0, .ref q2_12, .ref q3_13, .int 0, .ref q4_14, .ref q5_15, .int 0, .int 0, .int 0])), (q0_10, .inl (cI, 5, .inl (fun _ => 0))), (q1_11, .inl (cI, 5, .inl (fun _ => 0))), (q2_12, .inl (cI, 6, .inl (fun _ => 0))), (q3_13, .inl (cI, 6, .inl (fun _ => 0))), (q4_14, .inl (cI, 4, .inl (fun _ => 0))), (q5_15, .inl (cI, 4, .inl (fun _ => 0))), (q16, .inr (0, [.int 0, .ref q_17])), (q_17, .inl (cI, 120, .inl (fun _ => 0))), (q18, .inr (0, [.int 0, .ref q_19])), (q_19, .inl (cI, 120, .inl (fun _ => 0))), (q20, .inr (1, [.int 0, .ref q_21])), (q_21, .inl (cI, 6, .inl (fun _ => 0))), (q22, .inr (1, [.int 0, .null]))] := hD
  refine lv_dup hx hb dX8_init_77 rfl ?_
  refine doN (As := []) (rest := [.ref q22, .ref h]) (wc := [(q22, .inr (1, [.int 0, .null]))]) (wr := [(h, .inr (8, [.ref q1, .int 0, .int 0, .int (-1), .int 0, .int 0, .int 0, .ref q2, .ref q9, .ref q16, .ref q18, .ref q20, .null])), (q1, .inl (cB, 600, .inl (fun _ => 0))), (q2, .inr (7, [.int 0, .ref q0_3, .ref q1_4, .int 0, .ref q2_5, .ref q3_6, .int 0, .ref q4_7, .ref q5_8, .int 0, .int 0, .int 0])), (q0_3, .inl (cI, 5, .inl (fun _ => 0))), (q1_4, .inl (cI, 5, .inl (fun _ => 0))), (q2_5, .inl (cI, 6, .inl (fun _ => 0))), (q3_6, .inl (cI, 6, .inl (fun _ => 0))), (q4_7, .inl (cI, 4, .inl (fun _ => 0))), (q5_8, .inl (cI, 4, .inl (fun _ => 0))), (q9, .inr (7, [.int 0, .ref q0_10, .ref q1_11, .int 0, .ref q2_12, .ref q3_13, .int 0, .ref q4_14, .ref q5_15, .int 0, .int 0, .int 0])), (q0_10, .inl (cI, 5, .inl (fun _ => 0))), (q1_11, .inl (cI, 5, .inl (fun _ => 0))), (q2_12, .inl (cI, 6, .inl (fun _ => 0))), (q3_13, .inl (cI, 6, .inl (fun _ => 0))), (q4_14, .inl (cI, 4, .inl (fun _ => 0))), (q5_15, .inl (cI, 4, .inl (fun _ => 0))), (q16, .inr (0, [.int 0, .ref q_17])), (q_17, .inl (cI, 120, .inl (fun _ => 0))), (q18, .inr (0, [.int 0, .ref q_19])), (q_19, .inl (cI, 120, .inl (fun _ => 0))), (q20, .inr (1, [.int 0, .ref q_21])), (q_21, .inl (cI, 6, .inl (fun _ => 0)))]) hx hb hml hown hts hK hP hD hS hA [22] [0, 1, 2, 3, 4, 5, 6, 7, 8, 9, 10, 11, 12, 13, 14, 15, 16, 17, 18, 19, 20, 21] rfl rfl rfl rfl (by decide) (c_Dark_init l D cI cB cJ cZ cT (q22)) gX8_init_X1_init_n41 rfl rfl rfl (nz_at hK.2.1 55 (w := .methodLinkNest "ClapBank$Told" 41 ⟨"ClapBank$Dark", "<init>", "()V"⟩ "ClapBank") rfl) (hts (.initialized RX1) (List.mem_of_getElem? (i := 19) rfl)) (hts (.instanceMethod yX1_init) (List.mem_of_getElem? (i := 36) rfl)) rfl (by decide +kernel) ⟨Nat.le_of_ble_eq_true rfl, Nat.le_of_ble_eq_true rfl⟩ hl.1 rfl rfl (Nat.le_of_ble_eq_true rfl) dX8_init_78 ⟨Nat.le_of_ble_eq_true rfl, Nat.le_of_ble_eq_true rfl⟩ (fun u H locs hw hP hD hS => ?_)
  obtain ⟨q_23, rfl⟩ : ∃ z, z = u := ⟨_, rfl⟩
  have hP : va_P D vwCl [(h, .inr (8, [.ref q1, .int 0, .int 0, .int (-1), .int 0, .int 0, .int 0, .ref q2, .ref q9, .ref q16, .ref q18, .ref q20, .null])), (q1, .inl (cB, 600, .inl (fun _ => 0))), (q2, .inr (7, [.int 0, .ref q0_3, .ref q1_4, .int 0, .ref q2_5, .ref q3_6, .int 0, .ref q4_7, .ref q5_8, .int 0, .int 0, .int 0])), (q0_3, .inl (cI, 5, .inl (fun _ => 0))), (q1_4, .inl (cI, 5, .inl (fun _ => 0))), (q2_5, .inl (cI, 6, .inl (fun _ => 0))), (q3_6, .inl (cI, 6, .inl (fun _ => 0))), (q4_7, .inl (cI, 4, .inl (fun _ => 0))), (q5_8, .inl (cI, 4, .inl (fun _ => 0))), (q9, .inr (7, [.int 0, .ref q0_10, .ref q1_11, .int 0, .ref q2_12, .ref q3_13, .int 0, .ref q4_14, .ref q5_15, .int 0, .int 0, .int 0])), (q0_10, .inl (cI, 5, .inl (fun _ => 0))), (q1_11, .inl (cI, 5, .inl (fun _ => 0))), (q2_12, .inl (cI, 6, .inl (fun _ => 0))), (q3_13, .inl (cI, 6, .inl (fun _ => 0))), (q4_14, .inl (cI, 4, .inl (fun _ => 0))), (q5_15, .inl (cI, 4, .inl (fun _ => 0))), (q16, .inr (0, [.int 0, .ref q_17])), (q_17, .inl (cI, 120, .inl (fun _ => 0))), (q18, .inr (0, [.int 0, .ref q_19])), (q_19, .inl (cI, 120, .inl (fun _ => 0))), (q20, .inr (1, [.int 0, .ref q_21])), (q_21, .inl (cI, 6, .inl (fun _ => 0))), (q22, .inr (1, [.int 0, .ref q_23])), (q_23, .inl (cI, 6, .inl (fun _ => 0)))] H := hP
  have hD : va_D A [(h, .inr (8, [.ref q1, .int 0, .int 0, .int (-1), .int 0, .int 0, .int 0, .ref q2, .ref q9, .ref q16, .ref q18, .ref q20, .null])), (q1, .inl (cB, 600, .inl (fun _ => 0))), (q2, .inr (7, [.int 0, .ref q0_3, .ref q1_4, .int 0, .ref q2_5, .ref q3_6, .int 0, .ref q4_7, .ref q5_8, .int 0, .int 0, .int 0])), (q0_3, .inl (cI, 5, .inl (fun _ => 0))), (q1_4, .inl (cI, 5, .inl (fun _ => 0))), (q2_5, .inl (cI, 6, .inl (fun _ => 0))), (q3_6, .inl (cI, 6, .inl (fun _ => 0))), (q4_7, .inl (cI, 4, .inl (fun _ => 0))), (q5_8, .inl (cI, 4, .inl (fun _ => 0))), (q9, .inr (7, [.int 0, .ref q0_10, .ref q1_11, .int 0, .ref q2_12, .ref q3_13, .int 0, .ref q4_14, .ref q5_15, .int 0, .int 0, .int 0])), (q0_10, .inl (cI, 5, .inl (fun _ => 0))), (q1_11, .inl (cI, 5, .inl (fun _ => 0))), (q2_12, .inl (cI, 6, .inl (fun _ => 0))), (q3_13, .inl (cI, 6, .inl (fun _ => 0))), (q4_14, .inl (cI, 4, .inl (fun _ => 0))), (q5_15, .inl (cI, 4, .inl (fun _ => 0))), (q16, .inr (0, [.int 0, .ref q_17])), (q_17, .inl (cI, 120, .inl (fun _ => 0))), (q18, .inr (0, [.int 0, .ref q_19])), (q_19, .inl (cI, 120, .inl (fun _ => 0))), (q20, .inr (1, [.int 0, .ref q_21])), (q_21, .inl (cI, 6, .inl (fun _ => 0))), (q22, .inr (1, [.int 0, .ref q_23])), (q_23, .inl (cI, 6, .inl (fun _ => 0)))] := hD
  refine W.eq (g2 := F0 m 81 ls [.ref q22, .ref h]) rfl ?_
  refine va_putF (D := D) (ci := 8) (v := .ref q22) (ty := (.object "ClapBank$Dark")) (C := RX8) (T := TX8) (N := 13) hx hb hts (fun _ h => List.mem_cons_of_mem _ (List.mem_append_left _ (List.mem_append_left _ (List.mem_append_left _ (List.mem_append_right _ h))))) tyX8 tyX8_ok nmX8 hown hK.1 hP hD hS 0 rfl rfl 12 (by decide) (hts (.fieldLink RX8 46 "ClapBank$Told" "secondDark" "LClapBank$Dark;") (List.mem_of_getElem? (i := 21) rfl)) (fun _ h9 => h9) rfl hname rfl (by decide +kernel) rfl rfl (Nat.le_of_ble_eq_true rfl) dX8_init_81 (fun H locs hP hD hS => ?_)
  have hP : va_P D vwCl [(h, .inr (8, [.ref q1, .int 0, .int 0, .int (-1), .int 0, .int 0, .int 0, .ref q2, .ref q9, .ref q16, .ref q18, .ref q20, .ref q22])), (q1, .inl (cB, 600, .inl (fun _ => 0))), (q2, .inr (7, [.int 0, .ref q0_3, .ref q1_4, .int 0, .ref q2_5, .ref q3_6, .int 0, .ref q4_7, .ref q5_8, .int 0, .int 0, .int 0])), (q0_3, .inl (cI, 5, .inl (fun _ => 0))), (q1_4, .inl (cI, 5, .inl (fun _ => 0))), (q2_5, .inl (cI, 6, .inl (fun _ => 0))), (q3_6, .inl (cI, 6, .inl (fun _ => 0))), (q4_7, .inl (cI, 4, .inl (fun _ => 0))), (q5_8, .inl (cI, 4, .inl (fun _ => 0))), (q9, .inr (7, [.int 0, .ref q0_10, .ref q1_11, .int 0, .ref q2_12, .ref q3_13, .int 0, .ref q4_14, .ref q5_15, .int 0, .int 0, .int 0])), (q0_10, .inl (cI, 5, .inl (fun _ => 0))), (q1_11, .inl (cI, 5, .inl (fun _ => 0))), (q2_12, .inl (cI, 6, .inl (fun _ => 0))), (q3_13, .inl (cI, 6, .inl (fun _ => 0))), (q4_14, .inl (cI, 4, .inl (fun _ => 0))), (q5_15, .inl (cI, 4, .inl (fun _ => 0))), (q16, .inr (0, [.int 0, .ref q_17])), (q_17, .inl (cI, 120, .inl (fun _ => 0))), (q18, .inr (0, [.int 0, .ref q_19])), (q_19, .inl (cI, 120, .inl (fun _ => 0))), (q20, .inr (1, [.int 0, .ref q_21])), (q_21, .inl (cI, 6, .inl (fun _ => 0))), (q22, .inr (1, [.int 0, .ref q_23])), (q_23, .inl (cI, 6, .inl (fun _ => 0)))] H := hP
  have hD : va_D A [(h, .inr (8, [.ref q1, .int 0, .int 0, .int (-1), .int 0, .int 0, .int 0, .ref q2, .ref q9, .ref q16, .ref q18, .ref q20, .ref q22])), (q1, .inl (cB, 600, .inl (fun _ => 0))), (q2, .inr (7, [.int 0, .ref q0_3, .ref q1_4, .int 0, .ref q2_5, .ref q3_6, .int 0, .ref q4_7, .ref q5_8, .int 0, .int 0, .int 0])), (q0_3, .inl (cI, 5, .inl (fun _ => 0))), (q1_4, .inl (cI, 5, .inl (fun _ => 0))), (q2_5, .inl (cI, 6, .inl (fun _ => 0))), (q3_6, .inl (cI, 6, .inl (fun _ => 0))), (q4_7, .inl (cI, 4, .inl (fun _ => 0))), (q5_8, .inl (cI, 4, .inl (fun _ => 0))), (q9, .inr (7, [.int 0, .ref q0_10, .ref q1_11, .int 0, .ref q2_12, .ref q3_13, .int 0, .ref q4_14, .ref q5_15, .int 0, .int 0, .int 0])), (q0_10, .inl (cI, 5, .inl (fun _ => 0))), (q1_11, .inl (cI, 5, .inl (fun _ => 0))), (q2_12, .inl (cI, 6, .inl (fun _ => 0))), (q3_13, .inl (cI, 6, .inl (fun _ => 0))), (q4_14, .inl (cI, 4, .inl (fun _ => 0))), (q5_15, .inl (cI, 4, .inl (fun _ => 0))), (q16, .inr (0, [.int 0, .ref q_17])), (q_17, .inl (cI, 120, .inl (fun _ => 0))), (q18, .inr (0, [.int 0, .ref q_19])), (q_19, .inl (cI, 120, .inl (fun _ => 0))), (q20, .inr (1, [.int 0, .ref q_21])), (q_21, .inl (cI, 6, .inl (fun _ => 0))), (q22, .inr (1, [.int 0, .ref q_23])), (q_23, .inl (cI, 6, .inl (fun _ => 0)))] := hD
  refine W.widen (k := 23) (n := 944) (Nat.le_of_ble_eq_true rfl) (Nat.le_of_ble_eq_true rfl) ?_
  exact ro_v hx hb hr hlocks (q1, q2, q0_3, q1_4, q2_5, q3_6, q4_7, q5_8, q9, q0_10, q1_11, q2_12, q3_13, q4_14, q5_15, q16, q_17, q18, q_19, q20, q_21, q22, q_23) rfl trivial (hP.sub [0, 1, 2, 3, 4, 5, 6, 7, 8, 9, 10, 11, 12, 13, 14, 15, 16, 17, 18, 19, 20, 21, 22, 23] rfl) (hD.sub [0, 1, 2, 3, 4, 5, 6, 7, 8, 9, 10, 11, 12, 13, 14, 15, 16, 17, 18, 19, 20, 21, 22, 23] (by decide) rfl) hS dX8_init_84
set_option maxHeartbeats 400000 in
set_option maxRecDepth 100000 in
theorem c_Reader_init (l : Launch) (D : va_G) (cI cB cJ cZ cT : ClassId) (h : Nat) : Co l yX5_init wsX5_init ({ frames := 2, cells := 12, slots := 175, locals := 40 }) D (tyL cI cB cJ cZ cT) [.ref h] [(h, .inr (5, [.null, .null, .null, .null, .int 0, .int 0, .int 0, .int 0, .int 0, .int 0]))] (fun u : Nat × Nat × Nat × Nat × Nat × Nat × Nat × Nat × Nat × Nat × Nat × Nat => none) (fun u : Nat × Nat × Nat × Nat × Nat × Nat × Nat × Nat × Nat × Nat × Nat × Nat => True) (fun u : Nat × Nat × Nat × Nat × Nat × Nat × Nat × Nat × Nat × Nat × Nat × Nat => [(h, .inr (5, [.ref u.1, .ref u.2.2.2.2.2.2.2.1, .ref u.2.2.2.2.2.2.2.2.2.1, .ref u.2.2.2.2.2.2.2.2.2.2.2, .int 0, .int 0, .int 0, .int 0, .int 0, .int 0])), (u.1, .inr (7, [.int 0, .ref u.2.1, .ref u.2.2.1, .int 0, .ref u.2.2.2.1, .ref u.2.2.2.2.1, .int 0, .ref u.2.2.2.2.2.1, .ref u.2.2.2.2.2.2.1, .int 0, .int 0, .int 0])), (u.2.1, .inl (cI, 5, .inl (fun _ => 0))), (u.2.2.1, .inl (cI, 5, .inl (fun _ => 0))), (u.2.2.2.1, .inl (cI, 6, .inl (fun _ => 0))), (u.2.2.2.2.1, .inl (cI, 6, .inl (fun _ => 0))), (u.2.2.2.2.2.1, .inl (cI, 4, .inl (fun _ => 0))), (u.2.2.2.2.2.2.1, .inl (cI, 4, .inl (fun _ => 0))), (u.2.2.2.2.2.2.2.1, .inr (0, [.int 0, .ref u.2.2.2.2.2.2.2.2.1])), (u.2.2.2.2.2.2.2.2.1, .inl (cI, 120, .inl (fun _ => 0))), (u.2.2.2.2.2.2.2.2.2.1, .inr (1, [.int 0, .ref u.2.2.2.2.2.2.2.2.2.2.1])), (u.2.2.2.2.2.2.2.2.2.2.1, .inl (cI, 6, .inl (fun _ => 0))), (u.2.2.2.2.2.2.2.2.2.2.2, .inl (cI, 3, .inl (fun _ => 0)))]) 12 175 := by
  refine entry (cc := cX5_init) (maxL := 1) (ret := none) (by decide) rfl (Nat.le_of_ble_eq_true rfl) ?_
  intro p e s m below meth c A ls hx hb hr hml hts hown hlocks hname hK hP hD hS hA hl
  have hown : s.vm.findClass RX5 = some m.cls := hown
  have hl : lv_has ls 1 [(0, .ref h)] := hl
  refine lv_aload_n hx hb dX5_init_0 rfl (lv_at hl 0 rfl) ?_
  refine W.objInit hx hb hown (hts (.methodLink RX5 3 objectInit) (List.mem_of_getElem? (i := 1) rfl)) (hts (.instanceMethod objectInit) (List.mem_of_getElem? (i := 2) rfl)) (hts (.code objectInit ⟨#[0xb1]⟩ 1 none) (List.mem_of_getElem? (i := 3) rfl)) rfl (by rw [hml]; exact hl.1) rfl dX5_init_1 (Nat.le_of_ble_eq_true rfl) (Nat.le_of_ble_eq_true rfl) ?_
  refine W.eq (g2 := F0 m 4 ls []) rfl ?_
  refine lv_aload_n hx hb dX5_init_4 rfl (lv_at hl 0 rfl) ?_
  refine va_new (ci := 7) (fs := [.int 0, .null, .null, .int 0, .null, .null, .int 0, .null, .null, .int 0, .int 0, .int 0]) (C := RX7) (T := TX7) (N := 12) hx hb hts (fun _ h => List.mem_cons_of_mem _ (List.mem_append_left _ (List.mem_append_left _ (List.mem_append_left _ (List.mem_append_right _ h))))) tyX7 tyX7_ok hown (hts (.classLink RX5 9 RX7) (List.mem_of_getElem? (i := 4) rfl)) (hts (.instantiable RX7 12) (List.mem_of_getElem? (i := 5) rfl)) (hts (.initialized RX7) (List.mem_of_getElem? (i := 6) rfl)) hK.1 hP hD hS hA rfl dfX7 (Nat.le_of_ble_eq_true rfl) (Nat.le_of_ble_eq_true rfl) dX5_init_5 (fun q1 H hP hD hS => ?_)
  have hP : va_P D vwCl [(h, .inr (5, [.null, .null, .null, .null, .int 0, .int 0, .int 0, .int 0, .int 0, .int 0])), (q1, .inr (7, [.int 0, .null, .null, .int 0, .null, .null, .int 0, .null, .null, .int 0, .int 0, .int 0]))] H := hP
  have hD : va_D A [(h, .inr (5, [.null, .null, .null, .null, .int 0, .int 0, .int 0, .int 0, .int 0, .int 0])), (q1, .inr (7, [.int 0, .null, .null, .int 0, .null, .null, .int 0, .null, .null, .int 0, .int 0, .int 0]))] := hD
  refine lv_dup hx hb dX5_init_8 rfl ?_
  refine doN (As := []) (rest := [.ref q1, .ref h]) (wc := [(q1, .inr (7, [.int 0, .null, .null, .int 0, .null, .null, .int 0, .null, .null, .int 0, .int 0, .int 0]))]) (wr := [(h, .inr (5, [.null, .null, .null, .null, .int 0, .int 0, .int 0, .int 0, .int 0, .int 0]))]) hx hb hml hown hts hK hP hD hS hA [1] [0] rfl rfl rfl rfl (by decide) (c_Theatre_init l D cI cB cJ cZ cT (q1)) gX5_init_X7_init_n11 rfl rfl rfl (nz_at hK.2.1 57 (w := .methodLinkNest "ClapBank$Reader" 11 ⟨"ClapBank$Theatre", "<init>", "()V"⟩ "ClapBank") rfl) (hts (.initialized RX7) (List.mem_of_getElem? (i := 6) rfl)) (hts (.instanceMethod yX7_init) (List.mem_of_getElem? (i := 18) rfl)) rfl (by decide +kernel) ⟨Nat.le_of_ble_eq_true rfl, Nat.le_of_ble_eq_true rfl⟩ hl.1 rfl rfl (Nat.le_of_ble_eq_true rfl) dX5_init_9 ⟨Nat.le_of_ble_eq_true rfl, Nat.le_of_ble_eq_true rfl⟩ (fun u H locs hw hP hD hS => ?_)
  obtain ⟨q0_2, q1_3, q2_4, q3_5, q4_6, q5_7⟩ := u
  have hP : va_P D vwCl [(h, .inr (5, [.null, .null, .null, .null, .int 0, .int 0, .int 0, .int 0, .int 0, .int 0])), (q1, .inr (7, [.int 0, .ref q0_2, .ref q1_3, .int 0, .ref q2_4, .ref q3_5, .int 0, .ref q4_6, .ref q5_7, .int 0, .int 0, .int 0])), (q0_2, .inl (cI, 5, .inl (fun _ => 0))), (q1_3, .inl (cI, 5, .inl (fun _ => 0))), (q2_4, .inl (cI, 6, .inl (fun _ => 0))), (q3_5, .inl (cI, 6, .inl (fun _ => 0))), (q4_6, .inl (cI, 4, .inl (fun _ => 0))), (q5_7, .inl (cI, 4, .inl (fun _ => 0)))] H := hP
  have hD : va_D A [(h, .inr (5, [.null, .null, .null, .null, .int 0, .int 0, .int 0, .int 0, .int 0, .int 0])), (q1, .inr (7, [.int 0, .ref q0_2, .ref q1_3, .int 0, .ref q2_4, .ref q3_5, .int 0, .ref q4_6, .ref q5_7, .int 0, .int 0, .int 0])), (q0_2, .inl (cI, 5, .inl (fun _ => 0))), (q1_3, .inl (cI, 5, .inl (fun _ => 0))), (q2_4, .inl (cI, 6, .inl (fun _ => 0))), (q3_5, .inl (cI, 6, .inl (fun _ => 0))), (q4_6, .inl (cI, 4, .inl (fun _ => 0))), (q5_7, .inl (cI, 4, .inl (fun _ => 0)))] := hD
  refine W.eq (g2 := F0 m 12 ls [.ref q1, .ref h]) rfl ?_
  refine va_putF (D := D) (ci := 5) (v := .ref q1) (ty := (.object "ClapBank$Theatre")) (C := RX5) (T := TX5) (N := 10) hx hb hts (fun _ h => List.mem_cons_of_mem _ (List.mem_append_left _ (List.mem_append_left _ (List.mem_append_right _ h)))) tyX5 tyX5_ok nmX5 hown hK.1 hP hD hS 0 rfl rfl 0 (by decide) (hts (.fieldLink RX5 12 "ClapBank$Reader" "theatre" "LClapBank$Theatre;") (List.mem_of_getElem? (i := 7) rfl)) (fun _ h9 => h9) rfl hname rfl (by decide +kernel) rfl rfl (Nat.le_of_ble_eq_true rfl) dX5_init_12 (fun H locs hP hD hS => ?_)
  have hP : va_P D vwCl [(h, .inr (5, [.ref q1, .null, .null, .null, .int 0, .int 0, .int 0, .int 0, .int 0, .int 0])), (q1, .inr (7, [.int 0, .ref q0_2, .ref q1_3, .int 0, .ref q2_4, .ref q3_5, .int 0, .ref q4_6, .ref q5_7, .int 0, .int 0, .int 0])), (q0_2, .inl (cI, 5, .inl (fun _ => 0))), (q1_3, .inl (cI, 5, .inl (fun _ => 0))), (q2_4, .inl (cI, 6, .inl (fun _ => 0))), (q3_5, .inl (cI, 6, .inl (fun _ => 0))), (q4_6, .inl (cI, 4, .inl (fun _ => 0))), (q5_7, .inl (cI, 4, .inl (fun _ => 0)))] H := hP
  have hD : va_D A [(h, .inr (5, [.ref q1, .null, .null, .null, .int 0, .int 0, .int 0, .int 0, .int 0, .int 0])), (q1, .inr (7, [.int 0, .ref q0_2, .ref q1_3, .int 0, .ref q2_4, .ref q3_5, .int 0, .ref q4_6, .ref q5_7, .int 0, .int 0, .int 0])), (q0_2, .inl (cI, 5, .inl (fun _ => 0))), (q1_3, .inl (cI, 5, .inl (fun _ => 0))), (q2_4, .inl (cI, 6, .inl (fun _ => 0))), (q3_5, .inl (cI, 6, .inl (fun _ => 0))), (q4_6, .inl (cI, 4, .inl (fun _ => 0))), (q5_7, .inl (cI, 4, .inl (fun _ => 0)))] := hD
  refine lv_aload_n hx hb dX5_init_15 rfl (lv_at hl 0 rfl) ?_
  refine va_new (ci := 0) (fs := [.int 0, .null]) (C := RX0) (T := TX0) (N := 2) hx hb hts (fun _ h => List.mem_cons_of_mem _ (List.mem_append_left _ (List.mem_append_right _ h))) tyX0 tyX0_ok hown (hts (.classLink RX5 18 RX0) (List.mem_of_getElem? (i := 8) rfl)) (hts (.instantiable RX0 2) (List.mem_of_getElem? (i := 9) rfl)) (hts (.initialized RX0) (List.mem_of_getElem? (i := 10) rfl)) hK.1 hP hD hS hA rfl dfX0 (Nat.le_of_ble_eq_true rfl) (Nat.le_of_ble_eq_true rfl) dX5_init_16 (fun q8 H hP hD hS => ?_)
  have hP : va_P D vwCl [(h, .inr (5, [.ref q1, .null, .null, .null, .int 0, .int 0, .int 0, .int 0, .int 0, .int 0])), (q1, .inr (7, [.int 0, .ref q0_2, .ref q1_3, .int 0, .ref q2_4, .ref q3_5, .int 0, .ref q4_6, .ref q5_7, .int 0, .int 0, .int 0])), (q0_2, .inl (cI, 5, .inl (fun _ => 0))), (q1_3, .inl (cI, 5, .inl (fun _ => 0))), (q2_4, .inl (cI, 6, .inl (fun _ => 0))), (q3_5, .inl (cI, 6, .inl (fun _ => 0))), (q4_6, .inl (cI, 4, .inl (fun _ => 0))), (q5_7, .inl (cI, 4, .inl (fun _ => 0))), (q8, .inr (0, [.int 0, .null]))] H := hP
  have hD : va_D A [(h, .inr (5, [.ref q1, .null, .null, .null, .int 0, .int 0, .int 0, .int 0, .int 0, .int 0])), (q1, .inr (7, [.int 0, .ref q0_2, .ref q1_3, .int 0, .ref q2_4, .ref q3_5, .int 0, .ref q4_6, .ref q5_7, .int 0, .int 0, .int 0])), (q0_2, .inl (cI, 5, .inl (fun _ => 0))), (q1_3, .inl (cI, 5, .inl (fun _ => 0))), (q2_4, .inl (cI, 6, .inl (fun _ => 0))), (q3_5, .inl (cI, 6, .inl (fun _ => 0))), (q4_6, .inl (cI, 4, .inl (fun _ => 0))), (q5_7, .inl (cI, 4, .inl (fun _ => 0))), (q8, .inr (0, [.int 0, .null]))] := hD
  refine lv_dup hx hb dX5_init_19 rfl ?_
  refine doN (As := []) (rest := [.ref q8, .ref h]) (wc := [(q8, .inr (0, [.int 0, .null]))]) (wr := [(h, .inr (5, [.ref q1, .null, .null, .null, .int 0, .int 0, .int 0, .int 0, .int 0, .int 0])), (q1, .inr (7, [.int 0, .ref q0_2, .ref q1_3, .int 0, .ref q2_4, .ref q3_5, .int 0, .ref q4_6, .ref q5_7, .int 0, .int 0, .int 0])), (q0_2, .inl (cI, 5, .inl (fun _ => 0))), (q1_3, .inl (cI, 5, .inl (fun _ => 0))), (q2_4, .inl (cI, 6, .inl (fun _ => 0))), (q3_5, .inl (cI, 6, .inl (fun _ => 0))), (q4_6, .inl (cI, 4, .inl (fun _ => 0))), (q5_7, .inl (cI, 4, .inl (fun _ => 0)))]) hx hb hml hown hts hK hP hD hS hA [8] [0, 1, 2, 3, 4, 5, 6, 7] rfl rfl rfl rfl (by decide) (c_Book_init l D cI cB cJ cZ cT (q8)) gX5_init_X0_init_n20 rfl rfl rfl (nz_at hK.2.1 58 (w := .methodLinkNest "ClapBank$Reader" 20 ⟨"ClapBank$Book", "<init>", "()V"⟩ "ClapBank") rfl) (hts (.initialized RX0) (List.mem_of_getElem? (i := 10) rfl)) (hts (.instanceMethod yX0_init) (List.mem_of_getElem? (i := 27) rfl)) rfl (by decide +kernel) ⟨Nat.le_of_ble_eq_true rfl, Nat.le_of_ble_eq_true rfl⟩ hl.1 rfl rfl (Nat.le_of_ble_eq_true rfl) dX5_init_20 ⟨Nat.le_of_ble_eq_true rfl, Nat.le_of_ble_eq_true rfl⟩ (fun u H locs hw hP hD hS => ?_)
  obtain ⟨q_9, rfl⟩ : ∃ z, z = u := ⟨_, rfl⟩
  have hP : va_P D vwCl [(h, .inr (5, [.ref q1, .null, .null, .null, .int 0, .int 0, .int 0, .int 0, .int 0, .int 0])), (q1, .inr (7, [.int 0, .ref q0_2, .ref q1_3, .int 0, .ref q2_4, .ref q3_5, .int 0, .ref q4_6, .ref q5_7, .int 0, .int 0, .int 0])), (q0_2, .inl (cI, 5, .inl (fun _ => 0))), (q1_3, .inl (cI, 5, .inl (fun _ => 0))), (q2_4, .inl (cI, 6, .inl (fun _ => 0))), (q3_5, .inl (cI, 6, .inl (fun _ => 0))), (q4_6, .inl (cI, 4, .inl (fun _ => 0))), (q5_7, .inl (cI, 4, .inl (fun _ => 0))), (q8, .inr (0, [.int 0, .ref q_9])), (q_9, .inl (cI, 120, .inl (fun _ => 0)))] H := hP
  have hD : va_D A [(h, .inr (5, [.ref q1, .null, .null, .null, .int 0, .int 0, .int 0, .int 0, .int 0, .int 0])), (q1, .inr (7, [.int 0, .ref q0_2, .ref q1_3, .int 0, .ref q2_4, .ref q3_5, .int 0, .ref q4_6, .ref q5_7, .int 0, .int 0, .int 0])), (q0_2, .inl (cI, 5, .inl (fun _ => 0))), (q1_3, .inl (cI, 5, .inl (fun _ => 0))), (q2_4, .inl (cI, 6, .inl (fun _ => 0))), (q3_5, .inl (cI, 6, .inl (fun _ => 0))), (q4_6, .inl (cI, 4, .inl (fun _ => 0))), (q5_7, .inl (cI, 4, .inl (fun _ => 0))), (q8, .inr (0, [.int 0, .ref q_9])), (q_9, .inl (cI, 120, .inl (fun _ => 0)))] := hD
  refine W.eq (g2 := F0 m 23 ls [.ref q8, .ref h]) rfl ?_
  refine va_putF (D := D) (ci := 5) (v := .ref q8) (ty := (.object "ClapBank$Book")) (C := RX5) (T := TX5) (N := 10) hx hb hts (fun _ h => List.mem_cons_of_mem _ (List.mem_append_left _ (List.mem_append_left _ (List.mem_append_right _ h)))) tyX5 tyX5_ok nmX5 hown hK.1 hP hD hS 0 rfl rfl 1 (by decide) (hts (.fieldLink RX5 21 "ClapBank$Reader" "book" "LClapBank$Book;") (List.mem_of_getElem? (i := 11) rfl)) (fun _ h9 => h9) rfl hname rfl (by decide +kernel) rfl rfl (Nat.le_of_ble_eq_true rfl) dX5_init_23 (fun H locs hP hD hS => ?_)
  have hP : va_P D vwCl [(h, .inr (5, [.ref q1, .ref q8, .null, .null, .int 0, .int 0, .int 0, .int 0, .int 0, .int 0])), (q1, .inr (7, [.int 0, .ref q0_2, .ref q1_3, .int 0, .ref q2_4, .ref q3_5, .int 0, .ref q4_6, .ref q5_7, .int 0, .int 0, .int 0])), (q0_2, .inl (cI, 5, .inl (fun _ => 0))), (q1_3, .inl (cI, 5, .inl (fun _ => 0))), (q2_4, .inl (cI, 6, .inl (fun _ => 0))), (q3_5, .inl (cI, 6, .inl (fun _ => 0))), (q4_6, .inl (cI, 4, .inl (fun _ => 0))), (q5_7, .inl (cI, 4, .inl (fun _ => 0))), (q8, .inr (0, [.int 0, .ref q_9])), (q_9, .inl (cI, 120, .inl (fun _ => 0)))] H := hP
  have hD : va_D A [(h, .inr (5, [.ref q1, .ref q8, .null, .null, .int 0, .int 0, .int 0, .int 0, .int 0, .int 0])), (q1, .inr (7, [.int 0, .ref q0_2, .ref q1_3, .int 0, .ref q2_4, .ref q3_5, .int 0, .ref q4_6, .ref q5_7, .int 0, .int 0, .int 0])), (q0_2, .inl (cI, 5, .inl (fun _ => 0))), (q1_3, .inl (cI, 5, .inl (fun _ => 0))), (q2_4, .inl (cI, 6, .inl (fun _ => 0))), (q3_5, .inl (cI, 6, .inl (fun _ => 0))), (q4_6, .inl (cI, 4, .inl (fun _ => 0))), (q5_7, .inl (cI, 4, .inl (fun _ => 0))), (q8, .inr (0, [.int 0, .ref q_9])), (q_9, .inl (cI, 120, .inl (fun _ => 0)))] := hD
  refine lv_aload_n hx hb dX5_init_26 rfl (lv_at hl 0 rfl) ?_
  refine va_new (ci := 1) (fs := [.int 0, .null]) (C := RX1) (T := TX1) (N := 2) hx hb hts (fun _ h => List.mem_cons_of_mem _ (List.mem_append_right _ h)) tyX1 tyX1_ok hown (hts (.classLink RX5 25 RX1) (List.mem_of_getElem? (i := 12) rfl)) (hts (.instantiable RX1 2) (List.mem_of_getElem? (i := 13) rfl)) (hts (.initialized RX1) (List.mem_of_getElem? (i := 14) rfl)) hK.1 hP hD hS hA rfl dfX1 (Nat.le_of_ble_eq_true rfl) (Nat.le_of_ble_eq_true rfl) dX5_init_27 (fun q10 H hP hD hS => ?_)
  have hP : va_P D vwCl [(h, .inr (5, [.ref q1, .ref q8, .null, .null, .int 0, .int 0, .int 0, .int 0, .int 0, .int 0])), (q1, .inr (7, [.int 0, .ref q0_2, .ref q1_3, .int 0, .ref q2_4, .ref q3_5, .int 0, .ref q4_6, .ref q5_7, .int 0, .int 0, .int 0])), (q0_2, .inl (cI, 5, .inl (fun _ => 0))), (q1_3, .inl (cI, 5, .inl (fun _ => 0))), (q2_4, .inl (cI, 6, .inl (fun _ => 0))), (q3_5, .inl (cI, 6, .inl (fun _ => 0))), (q4_6, .inl (cI, 4, .inl (fun _ => 0))), (q5_7, .inl (cI, 4, .inl (fun _ => 0))), (q8, .inr (0, [.int 0, .ref q_9])), (q_9, .inl (cI, 120, .inl (fun _ => 0))), (q10, .inr (1, [.int 0, .null]))] H := hP
  have hD : va_D A [(h, .inr (5, [.ref q1, .ref q8, .null, .null, .int 0, .int 0, .int 0, .int 0, .int 0, .int 0])), (q1, .inr (7, [.int 0, .ref q0_2, .ref q1_3, .int 0, .ref q2_4, .ref q3_5, .int 0, .ref q4_6, .ref q5_7, .int 0, .int 0, .int 0])), (q0_2, .inl (cI, 5, .inl (fun _ => 0))), (q1_3, .inl (cI, 5, .inl (fun _ => 0))), (q2_4, .inl (cI, 6, .inl (fun _ => 0))), (q3_5, .inl (cI, 6, .inl (fun _ => 0))), (q4_6, .inl (cI, 4, .inl (fun _ => 0))), (q5_7, .inl (cI, 4, .inl (fun _ => 0))), (q8, .inr (0, [.int 0, .ref q_9])), (q_9, .inl (cI, 120, .inl (fun _ => 0))), (q10, .inr (1, [.int 0, .null]))] := hD
  refine lv_dup hx hb dX5_init_30 rfl ?_
  refine doN (As := []) (rest := [.ref q10, .ref h]) (wc := [(q10, .inr (1, [.int 0, .null]))]) (wr := [(h, .inr (5, [.ref q1, .ref q8, .null, .null, .int 0, .int 0, .int 0, .int 0, .int 0, .int 0])), (q1, .inr (7, [.int 0, .ref q0_2, .ref q1_3, .int 0, .ref q2_4, .ref q3_5, .int 0, .ref q4_6, .ref q5_7, .int 0, .int 0, .int 0])), (q0_2, .inl (cI, 5, .inl (fun _ => 0))), (q1_3, .inl (cI, 5, .inl (fun _ => 0))), (q2_4, .inl (cI, 6, .inl (fun _ => 0))), (q3_5, .inl (cI, 6, .inl (fun _ => 0))), (q4_6, .inl (cI, 4, .inl (fun _ => 0))), (q5_7, .inl (cI, 4, .inl (fun _ => 0))), (q8, .inr (0, [.int 0, .ref q_9])), (q_9, .inl (cI, 120, .inl (fun _ => 0)))]) hx hb hml hown hts hK hP hD hS hA [10] [0, 1, 2, 3, 4, 5, 6, 7, 8, 9] rfl rfl rfl rfl (by decide) (c_Dark_init l D cI cB cJ cZ cT (q10)) gX5_init_X1_init_n27 rfl rfl rfl (nz_at hK.2.1 59 (w := .methodLinkNest "ClapBank$Reader" 27 ⟨"ClapBank$Dark", "<init>", "()V"⟩ "ClapBank") rfl) (hts (.initialized RX1) (List.mem_of_getElem? (i := 14) rfl)) (hts (.instanceMethod yX1_init) (List.mem_of_getElem? (i := 31) rfl)) rfl (by decide +kernel) ⟨Nat.le_of_ble_eq_true rfl, Nat.le_of_ble_eq_true rfl⟩ hl.1 rfl rfl (Nat.le_of_ble_eq_true rfl) dX5_init_31 ⟨Nat.le_of_ble_eq_true rfl, Nat.le_of_ble_eq_true rfl⟩ (fun u H locs hw hP hD hS => ?_)
  obtain ⟨q_11, rfl⟩ : ∃ z, z = u := ⟨_, rfl⟩
  have hP : va_P D vwCl [(h, .inr (5, [.ref q1, .ref q8, .null, .null, .int 0, .int 0, .int 0, .int 0, .int 0, .int 0])), (q1, .inr (7, [.int 0, .ref q0_2, .ref q1_3, .int 0, .ref q2_4, .ref q3_5, .int 0, .ref q4_6, .ref q5_7, .int 0, .int 0, .int 0])), (q0_2, .inl (cI, 5, .inl (fun _ => 0))), (q1_3, .inl (cI, 5, .inl (fun _ => 0))), (q2_4, .inl (cI, 6, .inl (fun _ => 0))), (q3_5, .inl (cI, 6, .inl (fun _ => 0))), (q4_6, .inl (cI, 4, .inl (fun _ => 0))), (q5_7, .inl (cI, 4, .inl (fun _ => 0))), (q8, .inr (0, [.int 0, .ref q_9])), (q_9, .inl (cI, 120, .inl (fun _ => 0))), (q10, .inr (1, [.int 0, .ref q_11])), (q_11, .inl (cI, 6, .inl (fun _ => 0)))] H := hP
  have hD : va_D A [(h, .inr (5, [.ref q1, .ref q8, .null, .null, .int 0, .int 0, .int 0, .int 0, .int 0, .int 0])), (q1, .inr (7, [.int 0, .ref q0_2, .ref q1_3, .int 0, .ref q2_4, .ref q3_5, .int 0, .ref q4_6, .ref q5_7, .int 0, .int 0, .int 0])), (q0_2, .inl (cI, 5, .inl (fun _ => 0))), (q1_3, .inl (cI, 5, .inl (fun _ => 0))), (q2_4, .inl (cI, 6, .inl (fun _ => 0))), (q3_5, .inl (cI, 6, .inl (fun _ => 0))), (q4_6, .inl (cI, 4, .inl (fun _ => 0))), (q5_7, .inl (cI, 4, .inl (fun _ => 0))), (q8, .inr (0, [.int 0, .ref q_9])), (q_9, .inl (cI, 120, .inl (fun _ => 0))), (q10, .inr (1, [.int 0, .ref q_11])), (q_11, .inl (cI, 6, .inl (fun _ => 0)))] := hD
  refine W.eq (g2 := F0 m 34 ls [.ref q10, .ref h]) rfl ?_
  refine va_putF (D := D) (ci := 5) (v := .ref q10) (ty := (.object "ClapBank$Dark")) (C := RX5) (T := TX5) (N := 10) hx hb hts (fun _ h => List.mem_cons_of_mem _ (List.mem_append_left _ (List.mem_append_left _ (List.mem_append_right _ h)))) tyX5 tyX5_ok nmX5 hown hK.1 hP hD hS 0 rfl rfl 2 (by decide) (hts (.fieldLink RX5 28 "ClapBank$Reader" "dark" "LClapBank$Dark;") (List.mem_of_getElem? (i := 15) rfl)) (fun _ h9 => h9) rfl hname rfl (by decide +kernel) rfl rfl (Nat.le_of_ble_eq_true rfl) dX5_init_34 (fun H locs hP hD hS => ?_)
  have hP : va_P D vwCl [(h, .inr (5, [.ref q1, .ref q8, .ref q10, .null, .int 0, .int 0, .int 0, .int 0, .int 0, .int 0])), (q1, .inr (7, [.int 0, .ref q0_2, .ref q1_3, .int 0, .ref q2_4, .ref q3_5, .int 0, .ref q4_6, .ref q5_7, .int 0, .int 0, .int 0])), (q0_2, .inl (cI, 5, .inl (fun _ => 0))), (q1_3, .inl (cI, 5, .inl (fun _ => 0))), (q2_4, .inl (cI, 6, .inl (fun _ => 0))), (q3_5, .inl (cI, 6, .inl (fun _ => 0))), (q4_6, .inl (cI, 4, .inl (fun _ => 0))), (q5_7, .inl (cI, 4, .inl (fun _ => 0))), (q8, .inr (0, [.int 0, .ref q_9])), (q_9, .inl (cI, 120, .inl (fun _ => 0))), (q10, .inr (1, [.int 0, .ref q_11])), (q_11, .inl (cI, 6, .inl (fun _ => 0)))] H := hP
  have hD : va_D A [(h, .inr (5, [.ref q1, .ref q8, .ref q10, .null, .int 0, .int 0, .int 0, .int 0, .int 0, .int 0])), (q1, .inr (7, [.int 0, .ref q0_2, .ref q1_3, .int 0, .ref q2_4, .ref q3_5, .int 0, .ref q4_6, .ref q5_7, .int 0, .int 0, .int 0])), (q0_2, .inl (cI, 5, .inl (fun _ => 0))), (q1_3, .inl (cI, 5, .inl (fun _ => 0))), (q2_4, .inl (cI, 6, .inl (fun _ => 0))), (q3_5, .inl (cI, 6, .inl (fun _ => 0))), (q4_6, .inl (cI, 4, .inl (fun _ => 0))), (q5_7, .inl (cI, 4, .inl (fun _ => 0))), (q8, .inr (0, [.int 0, .ref q_9])), (q_9, .inl (cI, 120, .inl (fun _ => 0))), (q10, .inr (1, [.int 0, .ref q_11])), (q_11, .inl (cI, 6, .inl (fun _ => 0)))] := hD
  refine lv_aload_n hx hb dX5_init_37 rfl (lv_at hl 0 rfl) ?_
  refine lv_iconst (v := 3) hx hb dX5_init_38 (by decide) ?_
  refine va_newa (atype := .int) (a0 := (3, .inl (fun _ => 0))) (N' := 3) (ty := .int) hx hb (hts (.arrayClass .int) (List.mem_of_getElem? (i := 16) rfl)) rfl hK.1 hP hD hS hA (fun _ => rfl) (by decide) (by decide) (Nat.le_of_ble_eq_true rfl) (Nat.le_of_ble_eq_true rfl) (Nat.le_of_ble_eq_true rfl) dX5_init_39 (fun q12 cA H hK9 hP hD hS => ?_)
  have ec := kk_i hK9; subst ec; clear hK9
  have hP : va_P D vwCl [(h, .inr (5, [.ref q1, .ref q8, .ref q10, .null, .int 0, .int 0, .int 0, .int 0, .int 0, .int 0])), (q1, .inr (7, [.int 0, .ref q0_2, .ref q1_3, .int 0, .ref q2_4, .ref q3_5, .int 0, .ref q4_6, .ref q5_7, .int 0, .int 0, .int 0])), (q0_2, .inl (cI, 5, .inl (fun _ => 0))), (q1_3, .inl (cI, 5, .inl (fun _ => 0))), (q2_4, .inl (cI, 6, .inl (fun _ => 0))), (q3_5, .inl (cI, 6, .inl (fun _ => 0))), (q4_6, .inl (cI, 4, .inl (fun _ => 0))), (q5_7, .inl (cI, 4, .inl (fun _ => 0))), (q8, .inr (0, [.int 0, .ref q_9])), (q_9, .inl (cI, 120, .inl (fun _ => 0))), (q10, .inr (1, [.int 0, .ref q_11])), (q_11, .inl (cI, 6, .inl (fun _ => 0))), (q12, .inl (cI, 3, .inl (fun _ => 0)))] H := hP
  have hD : va_D A [(h, .inr (5, [.ref q1, .ref q8, .ref q10, .null, .int 0, .int 0, .int 0, .int 0, .int 0, .int 0])), (q1, .inr (7, [.int 0, .ref q0_2, .ref q1_3, .int 0, .ref q2_4, .ref q3_5, .int 0, .ref q4_6, .ref q5_7, .int 0, .int 0, .int 0])), (q0_2, .inl (cI, 5, .inl (fun _ => 0))), (q1_3, .inl (cI, 5, .inl (fun _ => 0))), (q2_4, .inl (cI, 6, .inl (fun _ => 0))), (q3_5, .inl (cI, 6, .inl (fun _ => 0))), (q4_6, .inl (cI, 4, .inl (fun _ => 0))), (q5_7, .inl (cI, 4, .inl (fun _ => 0))), (q8, .inr (0, [.int 0, .ref q_9])), (q_9, .inl (cI, 120, .inl (fun _ => 0))), (q10, .inr (1, [.int 0, .ref q_11])), (q_11, .inl (cI, 6, .inl (fun _ => 0))), (q12, .inl (cI, 3, .inl (fun _ => 0)))] := hD
  refine va_putF (D := D) (ci := 5) (v := .ref q12) (ty := (.array .int)) (C := RX5) (T := TX5) (N := 10) hx hb hts (fun _ h => List.mem_cons_of_mem _ (List.mem_append_left _ (List.mem_append_left _ (List.mem_append_right _ h)))) tyX5 tyX5_ok nmX5 hown hK.1 hP hD hS 0 rfl rfl 3 (by decide) (hts (.fieldLink RX5 32 "ClapBank$Reader" "numbers" "[I") (List.mem_of_getElem? (i := 17) rfl)) (fun _ h9 => h9) rfl hname rfl (by decide +kernel) rfl rfl (Nat.le_of_ble_eq_true rfl) dX5_init_41 (fun H locs hP hD hS => ?_)
  have hP : va_P D vwCl [(h, .inr (5, [.ref q1, .ref q8, .ref q10, .ref q12, .int 0, .int 0, .int 0, .int 0, .int 0, .int 0])), (q1, .inr (7, [.int 0, .ref q0_2, .ref q1_3, .int 0, .ref q2_4, .ref q3_5, .int 0, .ref q4_6, .ref q5_7, .int 0, .int 0, .int 0])), (q0_2, .inl (cI, 5, .inl (fun _ => 0))), (q1_3, .inl (cI, 5, .inl (fun _ => 0))), (q2_4, .inl (cI, 6, .inl (fun _ => 0))), (q3_5, .inl (cI, 6, .inl (fun _ => 0))), (q4_6, .inl (cI, 4, .inl (fun _ => 0))), (q5_7, .inl (cI, 4, .inl (fun _ => 0))), (q8, .inr (0, [.int 0, .ref q_9])), (q_9, .inl (cI, 120, .inl (fun _ => 0))), (q10, .inr (1, [.int 0, .ref q_11])), (q_11, .inl (cI, 6, .inl (fun _ => 0))), (q12, .inl (cI, 3, .inl (fun _ => 0)))] H := hP
  have hD : va_D A [(h, .inr (5, [.ref q1, .ref q8, .ref q10, .ref q12, .int 0, .int 0, .int 0, .int 0, .int 0, .int 0])), (q1, .inr (7, [.int 0, .ref q0_2, .ref q1_3, .int 0, .ref q2_4, .ref q3_5, .int 0, .ref q4_6, .ref q5_7, .int 0, .int 0, .int 0])), (q0_2, .inl (cI, 5, .inl (fun _ => 0))), (q1_3, .inl (cI, 5, .inl (fun _ => 0))), (q2_4, .inl (cI, 6, .inl (fun _ => 0))), (q3_5, .inl (cI, 6, .inl (fun _ => 0))), (q4_6, .inl (cI, 4, .inl (fun _ => 0))), (q5_7, .inl (cI, 4, .inl (fun _ => 0))), (q8, .inr (0, [.int 0, .ref q_9])), (q_9, .inl (cI, 120, .inl (fun _ => 0))), (q10, .inr (1, [.int 0, .ref q_11])), (q_11, .inl (cI, 6, .inl (fun _ => 0))), (q12, .inl (cI, 3, .inl (fun _ => 0)))] := hD
  refine W.widen (k := 12) (n := 175) (Nat.le_of_ble_eq_true rfl) (Nat.le_of_ble_eq_true rfl) ?_
  exact ro_v hx hb hr hlocks (q1, q0_2, q1_3, q2_4, q3_5, q4_6, q5_7, q8, q_9, q10, q_11, q12) rfl trivial (hP.sub [0, 1, 2, 3, 4, 5, 6, 7, 8, 9, 10, 11, 12] rfl) (hD.sub [0, 1, 2, 3, 4, 5, 6, 7, 8, 9, 10, 11, 12] (by decide) rfl) hS dX5_init_44
set_option maxHeartbeats 400000 in
set_option maxRecDepth 100000 in
theorem c_Evening_init (l : Launch) (D : va_G) (cI cB cJ cZ cT : ClassId) (h : Nat) : Co l yX2_init wsX2_init ({ frames := 2, cells := 14, slots := 126, locals := 40 }) D (tyL cI cB cJ cZ cT) [.ref h] [(h, .inr (2, [.null, .null, .null, .null, .null, .null, .null, .null, .int 0, .int 0, .int 0, .int 0, .int 0, .int 0]))] (fun u : Unit => none) (fun u : Unit => True) (fun u : Unit => ([] : va_W)) 14 126 := by
  refine entry (cc := cX2_init) (maxL := 1) (ret := none) (by decide) rfl (Nat.le_of_ble_eq_true rfl) ?_
  intro p e s m below meth c A ls hx hb hr hml hts hown hlocks hname hK hP hD hS hA hl
  have hown : s.vm.findClass RX2 = some m.cls := hown
  have hl : lv_has ls 1 [(0, .ref h)] := hl
  refine lv_aload_n hx hb dX2_init_0 rfl (lv_at hl 0 rfl) ?_
  refine W.objInit hx hb hown (hts (.methodLink RX2 3 objectInit) (List.mem_of_getElem? (i := 1) rfl)) (hts (.instanceMethod objectInit) (List.mem_of_getElem? (i := 2) rfl)) (hts (.code objectInit ⟨#[0xb1]⟩ 1 none) (List.mem_of_getElem? (i := 3) rfl)) rfl (by rw [hml]; exact hl.1) rfl dX2_init_1 (Nat.le_of_ble_eq_true rfl) (Nat.le_of_ble_eq_true rfl) ?_
  refine W.eq (g2 := F0 m 4 ls []) rfl ?_
  refine lv_aload_n hx hb dX2_init_4 rfl (lv_at hl 0 rfl) ?_
  refine va_new (ci := 7) (fs := [.int 0, .null, .null, .int 0, .null, .null, .int 0, .null, .null, .int 0, .int 0, .int 0]) (C := RX7) (T := TX7) (N := 12) hx hb hts (fun _ h => List.mem_cons_of_mem _ (List.mem_append_left _ (List.mem_append_right _ h))) tyX7 tyX7_ok hown (hts (.classLink RX2 9 RX7) (List.mem_of_getElem? (i := 4) rfl)) (hts (.instantiable RX7 12) (List.mem_of_getElem? (i := 5) rfl)) (hts (.initialized RX7) (List.mem_of_getElem? (i := 6) rfl)) hK.1 hP hD hS hA rfl dfX7 (Nat.le_of_ble_eq_true rfl) (Nat.le_of_ble_eq_true rfl) dX2_init_5 (fun q1 H hP hD hS => ?_)
  have hP : va_P D vwCl [(h, .inr (2, [.null, .null, .null, .null, .null, .null, .null, .null, .int 0, .int 0, .int 0, .int 0, .int 0, .int 0])), (q1, .inr (7, [.int 0, .null, .null, .int 0, .null, .null, .int 0, .null, .null, .int 0, .int 0, .int 0]))] H := hP
  have hD : va_D A [(h, .inr (2, [.null, .null, .null, .null, .null, .null, .null, .null, .int 0, .int 0, .int 0, .int 0, .int 0, .int 0])), (q1, .inr (7, [.int 0, .null, .null, .int 0, .null, .null, .int 0, .null, .null, .int 0, .int 0, .int 0]))] := hD
  refine lv_dup hx hb dX2_init_8 rfl ?_
  refine doN (As := []) (rest := [.ref q1, .ref h]) (wc := [(q1, .inr (7, [.int 0, .null, .null, .int 0, .null, .null, .int 0, .null, .null, .int 0, .int 0, .int 0]))]) (wr := [(h, .inr (2, [.null, .null, .null, .null, .null, .null, .null, .null, .int 0, .int 0, .int 0, .int 0, .int 0, .int 0]))]) hx hb hml hown hts hK hP hD hS hA [1] [0] rfl rfl rfl rfl (by decide) (c_Theatre_init l D cI cB cJ cZ cT (q1)) gX2_init_X7_init_n11 rfl rfl rfl (nz_at hK.2.1 61 (w := .methodLinkNest "ClapBank$Evening" 11 ⟨"ClapBank$Theatre", "<init>", "()V"⟩ "ClapBank") rfl) (hts (.initialized RX7) (List.mem_of_getElem? (i := 6) rfl)) (hts (.instanceMethod yX7_init) (List.mem_of_getElem? (i := 16) rfl)) rfl (by decide +kernel) ⟨Nat.le_of_ble_eq_true rfl, Nat.le_of_ble_eq_true rfl⟩ hl.1 rfl rfl (Nat.le_of_ble_eq_true rfl) dX2_init_9 ⟨Nat.le_of_ble_eq_true rfl, Nat.le_of_ble_eq_true rfl⟩ (fun u H locs hw hP hD hS => ?_)
  obtain ⟨q0_2, q1_3, q2_4, q3_5, q4_6, q5_7⟩ := u
  have hP : va_P D vwCl [(h, .inr (2, [.null, .null, .null, .null, .null, .null, .null, .null, .int 0, .int 0, .int 0, .int 0, .int 0, .int 0])), (q1, .inr (7, [.int 0, .ref q0_2, .ref q1_3, .int 0, .ref q2_4, .ref q3_5, .int 0, .ref q4_6, .ref q5_7, .int 0, .int 0, .int 0])), (q0_2, .inl (cI, 5, .inl (fun _ => 0))), (q1_3, .inl (cI, 5, .inl (fun _ => 0))), (q2_4, .inl (cI, 6, .inl (fun _ => 0))), (q3_5, .inl (cI, 6, .inl (fun _ => 0))), (q4_6, .inl (cI, 4, .inl (fun _ => 0))), (q5_7, .inl (cI, 4, .inl (fun _ => 0)))] H := hP
  have hD : va_D A [(h, .inr (2, [.null, .null, .null, .null, .null, .null, .null, .null, .int 0, .int 0, .int 0, .int 0, .int 0, .int 0])), (q1, .inr (7, [.int 0, .ref q0_2, .ref q1_3, .int 0, .ref q2_4, .ref q3_5, .int 0, .ref q4_6, .ref q5_7, .int 0, .int 0, .int 0])), (q0_2, .inl (cI, 5, .inl (fun _ => 0))), (q1_3, .inl (cI, 5, .inl (fun _ => 0))), (q2_4, .inl (cI, 6, .inl (fun _ => 0))), (q3_5, .inl (cI, 6, .inl (fun _ => 0))), (q4_6, .inl (cI, 4, .inl (fun _ => 0))), (q5_7, .inl (cI, 4, .inl (fun _ => 0)))] := hD
  refine W.eq (g2 := F0 m 12 ls [.ref q1, .ref h]) rfl ?_
  refine va_put (D := D) (ci := 2) (v := .ref q1) (ty := (.object "ClapBank$Theatre")) (C := RX2) (T := TX2) (N := 14) hx hb hts (fun _ h => List.mem_cons_of_mem _ (List.mem_append_right _ h)) tyX2 tyX2_ok nmX2 hown hK.1 hP hD hS 0 rfl rfl 0 (by decide) (hts (.fieldLink RX2 12 "ClapBank$Evening" "house" "LClapBank$Theatre;") (List.mem_of_getElem? (i := 7) rfl)) (fun _ h9 => h9) rfl (by decide +kernel) rfl rfl (Nat.le_of_ble_eq_true rfl) dX2_init_12 (fun H locs hP hD hS => ?_)
  have hP : va_P D vwCl [(h, .inr (2, [.ref q1, .null, .null, .null, .null, .null, .null, .null, .int 0, .int 0, .int 0, .int 0, .int 0, .int 0])), (q1, .inr (7, [.int 0, .ref q0_2, .ref q1_3, .int 0, .ref q2_4, .ref q3_5, .int 0, .ref q4_6, .ref q5_7, .int 0, .int 0, .int 0])), (q0_2, .inl (cI, 5, .inl (fun _ => 0))), (q1_3, .inl (cI, 5, .inl (fun _ => 0))), (q2_4, .inl (cI, 6, .inl (fun _ => 0))), (q3_5, .inl (cI, 6, .inl (fun _ => 0))), (q4_6, .inl (cI, 4, .inl (fun _ => 0))), (q5_7, .inl (cI, 4, .inl (fun _ => 0)))] H := hP
  have hD : va_D A [(h, .inr (2, [.ref q1, .null, .null, .null, .null, .null, .null, .null, .int 0, .int 0, .int 0, .int 0, .int 0, .int 0])), (q1, .inr (7, [.int 0, .ref q0_2, .ref q1_3, .int 0, .ref q2_4, .ref q3_5, .int 0, .ref q4_6, .ref q5_7, .int 0, .int 0, .int 0])), (q0_2, .inl (cI, 5, .inl (fun _ => 0))), (q1_3, .inl (cI, 5, .inl (fun _ => 0))), (q2_4, .inl (cI, 6, .inl (fun _ => 0))), (q3_5, .inl (cI, 6, .inl (fun _ => 0))), (q4_6, .inl (cI, 4, .inl (fun _ => 0))), (q5_7, .inl (cI, 4, .inl (fun _ => 0)))] := hD
  refine lv_aload_n hx hb dX2_init_15 rfl (lv_at hl 0 rfl) ?_
  refine lv_iconst (v := 5) hx hb dX2_init_16 (by decide) ?_
  refine va_newa (atype := .int) (a0 := (5, .inl (fun _ => 0))) (N' := 5) (ty := .int) hx hb (hts (.arrayClass .int) (List.mem_of_getElem? (i := 8) rfl)) rfl hK.1 hP hD hS hA (fun _ => rfl) (by decide) (by decide) (Nat.le_of_ble_eq_true rfl) (Nat.le_of_ble_eq_true rfl) (Nat.le_of_ble_eq_true rfl) dX2_init_17 (fun q8 cA H hK9 hP hD hS => ?_)
  have ec := kk_i hK9; subst ec; clear hK9
  have hP : va_P D vwCl [(h, .inr (2, [.ref q1, .null, .null, .null, .null, .null, .null, .null, .int 0, .int 0, .int 0, .int 0, .int 0, .int 0])), (q1, .inr (7, [.int 0, .ref q0_2, .ref q1_3, .int 0, .ref q2_4, .ref q3_5, .int 0, .ref q4_6, .ref q5_7, .int 0, .int 0, .int 0])), (q0_2, .inl (cI, 5, .inl (fun _ => 0))), (q1_3, .inl (cI, 5, .inl (fun _ => 0))), (q2_4, .inl (cI, 6, .inl (fun _ => 0))), (q3_5, .inl (cI, 6, .inl (fun _ => 0))), (q4_6, .inl (cI, 4, .inl (fun _ => 0))), (q5_7, .inl (cI, 4, .inl (fun _ => 0))), (q8, .inl (cI, 5, .inl (fun _ => 0)))] H := hP
  have hD : va_D A [(h, .inr (2, [.ref q1, .null, .null, .null, .null, .null, .null, .null, .int 0, .int 0, .int 0, .int 0, .int 0, .int 0])), (q1, .inr (7, [.int 0, .ref q0_2, .ref q1_3, .int 0, .ref q2_4, .ref q3_5, .int 0, .ref q4_6, .ref q5_7, .int 0, .int 0, .int 0])), (q0_2, .inl (cI, 5, .inl (fun _ => 0))), (q1_3, .inl (cI, 5, .inl (fun _ => 0))), (q2_4, .inl (cI, 6, .inl (fun _ => 0))), (q3_5, .inl (cI, 6, .inl (fun _ => 0))), (q4_6, .inl (cI, 4, .inl (fun _ => 0))), (q5_7, .inl (cI, 4, .inl (fun _ => 0))), (q8, .inl (cI, 5, .inl (fun _ => 0)))] := hD
  refine va_putF (D := D) (ci := 2) (v := .ref q8) (ty := (.array .int)) (C := RX2) (T := TX2) (N := 14) hx hb hts (fun _ h => List.mem_cons_of_mem _ (List.mem_append_right _ h)) tyX2 tyX2_ok nmX2 hown hK.1 hP hD hS 0 rfl rfl 1 (by decide) (hts (.fieldLink RX2 18 "ClapBank$Evening" "left" "[I") (List.mem_of_getElem? (i := 9) rfl)) (fun _ h9 => h9) rfl hname rfl (by decide +kernel) rfl rfl (Nat.le_of_ble_eq_true rfl) dX2_init_19 (fun H locs hP hD hS => ?_)
  have hP : va_P D vwCl [(h, .inr (2, [.ref q1, .ref q8, .null, .null, .null, .null, .null, .null, .int 0, .int 0, .int 0, .int 0, .int 0, .int 0])), (q1, .inr (7, [.int 0, .ref q0_2, .ref q1_3, .int 0, .ref q2_4, .ref q3_5, .int 0, .ref q4_6, .ref q5_7, .int 0, .int 0, .int 0])), (q0_2, .inl (cI, 5, .inl (fun _ => 0))), (q1_3, .inl (cI, 5, .inl (fun _ => 0))), (q2_4, .inl (cI, 6, .inl (fun _ => 0))), (q3_5, .inl (cI, 6, .inl (fun _ => 0))), (q4_6, .inl (cI, 4, .inl (fun _ => 0))), (q5_7, .inl (cI, 4, .inl (fun _ => 0))), (q8, .inl (cI, 5, .inl (fun _ => 0)))] H := hP
  have hD : va_D A [(h, .inr (2, [.ref q1, .ref q8, .null, .null, .null, .null, .null, .null, .int 0, .int 0, .int 0, .int 0, .int 0, .int 0])), (q1, .inr (7, [.int 0, .ref q0_2, .ref q1_3, .int 0, .ref q2_4, .ref q3_5, .int 0, .ref q4_6, .ref q5_7, .int 0, .int 0, .int 0])), (q0_2, .inl (cI, 5, .inl (fun _ => 0))), (q1_3, .inl (cI, 5, .inl (fun _ => 0))), (q2_4, .inl (cI, 6, .inl (fun _ => 0))), (q3_5, .inl (cI, 6, .inl (fun _ => 0))), (q4_6, .inl (cI, 4, .inl (fun _ => 0))), (q5_7, .inl (cI, 4, .inl (fun _ => 0))), (q8, .inl (cI, 5, .inl (fun _ => 0)))] := hD
  refine lv_aload_n hx hb dX2_init_22 rfl (lv_at hl 0 rfl) ?_
  refine lv_bipush (v := 25) hx hb dX2_init_23 (by decide) ?_
  refine va_newa (atype := .int) (a0 := (25, .inl (fun _ => 0))) (N' := 25) (ty := .int) hx hb (hts (.arrayClass .int) (List.mem_of_getElem? (i := 8) rfl)) rfl hK.1 hP hD hS hA (fun _ => rfl) (by decide) (by decide) (Nat.le_of_ble_eq_true rfl) (Nat.le_of_ble_eq_true rfl) (Nat.le_of_ble_eq_true rfl) dX2_init_25 (fun q9 cA H hK9 hP hD hS => ?_)
  have ec := kk_i hK9; subst ec; clear hK9
  have hP : va_P D vwCl [(h, .inr (2, [.ref q1, .ref q8, .null, .null, .null, .null, .null, .null, .int 0, .int 0, .int 0, .int 0, .int 0, .int 0])), (q1, .inr (7, [.int 0, .ref q0_2, .ref q1_3, .int 0, .ref q2_4, .ref q3_5, .int 0, .ref q4_6, .ref q5_7, .int 0, .int 0, .int 0])), (q0_2, .inl (cI, 5, .inl (fun _ => 0))), (q1_3, .inl (cI, 5, .inl (fun _ => 0))), (q2_4, .inl (cI, 6, .inl (fun _ => 0))), (q3_5, .inl (cI, 6, .inl (fun _ => 0))), (q4_6, .inl (cI, 4, .inl (fun _ => 0))), (q5_7, .inl (cI, 4, .inl (fun _ => 0))), (q8, .inl (cI, 5, .inl (fun _ => 0))), (q9, .inl (cI, 25, .inl (fun _ => 0)))] H := hP
  have hD : va_D A [(h, .inr (2, [.ref q1, .ref q8, .null, .null, .null, .null, .null, .null, .int 0, .int 0, .int 0, .int 0, .int 0, .int 0])), (q1, .inr (7, [.int 0, .ref q0_2, .ref q1_3, .int 0, .ref q2_4, .ref q3_5, .int 0, .ref q4_6, .ref q5_7, .int 0, .int 0, .int 0])), (q0_2, .inl (cI, 5, .inl (fun _ => 0))), (q1_3, .inl (cI, 5, .inl (fun _ => 0))), (q2_4, .inl (cI, 6, .inl (fun _ => 0))), (q3_5, .inl (cI, 6, .inl (fun _ => 0))), (q4_6, .inl (cI, 4, .inl (fun _ => 0))), (q5_7, .inl (cI, 4, .inl (fun _ => 0))), (q8, .inl (cI, 5, .inl (fun _ => 0))), (q9, .inl (cI, 25, .inl (fun _ => 0)))] := hD
  refine va_putF (D := D) (ci := 2) (v := .ref q9) (ty := (.array .int)) (C := RX2) (T := TX2) (N := 14) hx hb hts (fun _ h => List.mem_cons_of_mem _ (List.mem_append_right _ h)) tyX2 tyX2_ok nmX2 hown hK.1 hP hD hS 0 rfl rfl 2 (by decide) (hts (.fieldLink RX2 22 "ClapBank$Evening" "owes" "[I") (List.mem_of_getElem? (i := 10) rfl)) (fun _ h9 => h9) rfl hname rfl (by decide +kernel) rfl rfl (Nat.le_of_ble_eq_true rfl) dX2_init_27 (fun H locs hP hD hS => ?_)
  have hP : va_P D vwCl [(h, .inr (2, [.ref q1, .ref q8, .ref q9, .null, .null, .null, .null, .null, .int 0, .int 0, .int 0, .int 0, .int 0, .int 0])), (q1, .inr (7, [.int 0, .ref q0_2, .ref q1_3, .int 0, .ref q2_4, .ref q3_5, .int 0, .ref q4_6, .ref q5_7, .int 0, .int 0, .int 0])), (q0_2, .inl (cI, 5, .inl (fun _ => 0))), (q1_3, .inl (cI, 5, .inl (fun _ => 0))), (q2_4, .inl (cI, 6, .inl (fun _ => 0))), (q3_5, .inl (cI, 6, .inl (fun _ => 0))), (q4_6, .inl (cI, 4, .inl (fun _ => 0))), (q5_7, .inl (cI, 4, .inl (fun _ => 0))), (q8, .inl (cI, 5, .inl (fun _ => 0))), (q9, .inl (cI, 25, .inl (fun _ => 0)))] H := hP
  have hD : va_D A [(h, .inr (2, [.ref q1, .ref q8, .ref q9, .null, .null, .null, .null, .null, .int 0, .int 0, .int 0, .int 0, .int 0, .int 0])), (q1, .inr (7, [.int 0, .ref q0_2, .ref q1_3, .int 0, .ref q2_4, .ref q3_5, .int 0, .ref q4_6, .ref q5_7, .int 0, .int 0, .int 0])), (q0_2, .inl (cI, 5, .inl (fun _ => 0))), (q1_3, .inl (cI, 5, .inl (fun _ => 0))), (q2_4, .inl (cI, 6, .inl (fun _ => 0))), (q3_5, .inl (cI, 6, .inl (fun _ => 0))), (q4_6, .inl (cI, 4, .inl (fun _ => 0))), (q5_7, .inl (cI, 4, .inl (fun _ => 0))), (q8, .inl (cI, 5, .inl (fun _ => 0))), (q9, .inl (cI, 25, .inl (fun _ => 0)))] := hD
  refine lv_aload_n hx hb dX2_init_30 rfl (lv_at hl 0 rfl) ?_
  refine lv_bipush (v := 30) hx hb dX2_init_31 (by decide) ?_
  refine va_newa (atype := .int) (a0 := (30, .inl (fun _ => 0))) (N' := 30) (ty := .int) hx hb (hts (.arrayClass .int) (List.mem_of_getElem? (i := 8) rfl)) rfl hK.1 hP hD hS hA (fun _ => rfl) (by decide) (by decide) (Nat.le_of_ble_eq_true rfl) (Nat.le_of_ble_eq_true rfl) (Nat.le_of_ble_eq_true rfl) dX2_init_33 (fun q10 cA H hK9 hP hD hS => ?_)
  have ec := kk_i hK9; subst ec; clear hK9
  have hP : va_P D vwCl [(h, .inr (2, [.ref q1, .ref q8, .ref q9, .null, .null, .null, .null, .null, .int 0, .int 0, .int 0, .int 0, .int 0, .int 0])), (q1, .inr (7, [.int 0, .ref q0_2, .ref q1_3, .int 0, .ref q2_4, .ref q3_5, .int 0, .ref q4_6, .ref q5_7, .int 0, .int 0, .int 0])), (q0_2, .inl (cI, 5, .inl (fun _ => 0))), (q1_3, .inl (cI, 5, .inl (fun _ => 0))), (q2_4, .inl (cI, 6, .inl (fun _ => 0))), (q3_5, .inl (cI, 6, .inl (fun _ => 0))), (q4_6, .inl (cI, 4, .inl (fun _ => 0))), (q5_7, .inl (cI, 4, .inl (fun _ => 0))), (q8, .inl (cI, 5, .inl (fun _ => 0))), (q9, .inl (cI, 25, .inl (fun _ => 0))), (q10, .inl (cI, 30, .inl (fun _ => 0)))] H := hP
  have hD : va_D A [(h, .inr (2, [.ref q1, .ref q8, .ref q9, .null, .null, .null, .null, .null, .int 0, .int 0, .int 0, .int 0, .int 0, .int 0])), (q1, .inr (7, [.int 0, .ref q0_2, .ref q1_3, .int 0, .ref q2_4, .ref q3_5, .int 0, .ref q4_6, .ref q5_7, .int 0, .int 0, .int 0])), (q0_2, .inl (cI, 5, .inl (fun _ => 0))), (q1_3, .inl (cI, 5, .inl (fun _ => 0))), (q2_4, .inl (cI, 6, .inl (fun _ => 0))), (q3_5, .inl (cI, 6, .inl (fun _ => 0))), (q4_6, .inl (cI, 4, .inl (fun _ => 0))), (q5_7, .inl (cI, 4, .inl (fun _ => 0))), (q8, .inl (cI, 5, .inl (fun _ => 0))), (q9, .inl (cI, 25, .inl (fun _ => 0))), (q10, .inl (cI, 30, .inl (fun _ => 0)))] := hD
  refine va_putF (D := D) (ci := 2) (v := .ref q10) (ty := (.array .int)) (C := RX2) (T := TX2) (N := 14) hx hb hts (fun _ h => List.mem_cons_of_mem _ (List.mem_append_right _ h)) tyX2 tyX2_ok nmX2 hown hK.1 hP hD hS 0 rfl rfl 3 (by decide) (hts (.fieldLink RX2 25 "ClapBank$Evening" "got" "[I") (List.mem_of_getElem? (i := 11) rfl)) (fun _ h9 => h9) rfl hname rfl (by decide +kernel) rfl rfl (Nat.le_of_ble_eq_true rfl) dX2_init_35 (fun H locs hP hD hS => ?_)
  have hP : va_P D vwCl [(h, .inr (2, [.ref q1, .ref q8, .ref q9, .ref q10, .null, .null, .null, .null, .int 0, .int 0, .int 0, .int 0, .int 0, .int 0])), (q1, .inr (7, [.int 0, .ref q0_2, .ref q1_3, .int 0, .ref q2_4, .ref q3_5, .int 0, .ref q4_6, .ref q5_7, .int 0, .int 0, .int 0])), (q0_2, .inl (cI, 5, .inl (fun _ => 0))), (q1_3, .inl (cI, 5, .inl (fun _ => 0))), (q2_4, .inl (cI, 6, .inl (fun _ => 0))), (q3_5, .inl (cI, 6, .inl (fun _ => 0))), (q4_6, .inl (cI, 4, .inl (fun _ => 0))), (q5_7, .inl (cI, 4, .inl (fun _ => 0))), (q8, .inl (cI, 5, .inl (fun _ => 0))), (q9, .inl (cI, 25, .inl (fun _ => 0))), (q10, .inl (cI, 30, .inl (fun _ => 0)))] H := hP
  have hD : va_D A [(h, .inr (2, [.ref q1, .ref q8, .ref q9, .ref q10, .null, .null, .null, .null, .int 0, .int 0, .int 0, .int 0, .int 0, .int 0])), (q1, .inr (7, [.int 0, .ref q0_2, .ref q1_3, .int 0, .ref q2_4, .ref q3_5, .int 0, .ref q4_6, .ref q5_7, .int 0, .int 0, .int 0])), (q0_2, .inl (cI, 5, .inl (fun _ => 0))), (q1_3, .inl (cI, 5, .inl (fun _ => 0))), (q2_4, .inl (cI, 6, .inl (fun _ => 0))), (q3_5, .inl (cI, 6, .inl (fun _ => 0))), (q4_6, .inl (cI, 4, .inl (fun _ => 0))), (q5_7, .inl (cI, 4, .inl (fun _ => 0))), (q8, .inl (cI, 5, .inl (fun _ => 0))), (q9, .inl (cI, 25, .inl (fun _ => 0))), (q10, .inl (cI, 30, .inl (fun _ => 0)))] := hD
  refine lv_aload_n hx hb dX2_init_38 rfl (lv_at hl 0 rfl) ?_
  refine lv_bipush (v := 6) hx hb dX2_init_39 (by decide) ?_
  refine va_newa (atype := .int) (a0 := (6, .inl (fun _ => 0))) (N' := 6) (ty := .int) hx hb (hts (.arrayClass .int) (List.mem_of_getElem? (i := 8) rfl)) rfl hK.1 hP hD hS hA (fun _ => rfl) (by decide) (by decide) (Nat.le_of_ble_eq_true rfl) (Nat.le_of_ble_eq_true rfl) (Nat.le_of_ble_eq_true rfl) dX2_init_41 (fun q11 cA H hK9 hP hD hS => ?_)
  have ec := kk_i hK9; subst ec; clear hK9
  have hP : va_P D vwCl [(h, .inr (2, [.ref q1, .ref q8, .ref q9, .ref q10, .null, .null, .null, .null, .int 0, .int 0, .int 0, .int 0, .int 0, .int 0])), (q1, .inr (7, [.int 0, .ref q0_2, .ref q1_3, .int 0, .ref q2_4, .ref q3_5, .int 0, .ref q4_6, .ref q5_7, .int 0, .int 0, .int 0])), (q0_2, .inl (cI, 5, .inl (fun _ => 0))), (q1_3, .inl (cI, 5, .inl (fun _ => 0))), (q2_4, .inl (cI, 6, .inl (fun _ => 0))), (q3_5, .inl (cI, 6, .inl (fun _ => 0))), (q4_6, .inl (cI, 4, .inl (fun _ => 0))), (q5_7, .inl (cI, 4, .inl (fun _ => 0))), (q8, .inl (cI, 5, .inl (fun _ => 0))), (q9, .inl (cI, 25, .inl (fun _ => 0))), (q10, .inl (cI, 30, .inl (fun _ => 0))), (q11, .inl (cI, 6, .inl (fun _ => 0)))] H := hP
  have hD : va_D A [(h, .inr (2, [.ref q1, .ref q8, .ref q9, .ref q10, .null, .null, .null, .null, .int 0, .int 0, .int 0, .int 0, .int 0, .int 0])), (q1, .inr (7, [.int 0, .ref q0_2, .ref q1_3, .int 0, .ref q2_4, .ref q3_5, .int 0, .ref q4_6, .ref q5_7, .int 0, .int 0, .int 0])), (q0_2, .inl (cI, 5, .inl (fun _ => 0))), (q1_3, .inl (cI, 5, .inl (fun _ => 0))), (q2_4, .inl (cI, 6, .inl (fun _ => 0))), (q3_5, .inl (cI, 6, .inl (fun _ => 0))), (q4_6, .inl (cI, 4, .inl (fun _ => 0))), (q5_7, .inl (cI, 4, .inl (fun _ => 0))), (q8, .inl (cI, 5, .inl (fun _ => 0))), (q9, .inl (cI, 25, .inl (fun _ => 0))), (q10, .inl (cI, 30, .inl (fun _ => 0))), (q11, .inl (cI, 6, .inl (fun _ => 0)))] := hD
  refine va_putF (D := D) (ci := 2) (v := .ref q11) (ty := (.array .int)) (C := RX2) (T := TX2) (N := 14) hx hb hts (fun _ h => List.mem_cons_of_mem _ (List.mem_append_right _ h)) tyX2 tyX2_ok nmX2 hown hK.1 hP hD hS 0 rfl rfl 4 (by decide) (hts (.fieldLink RX2 28 "ClapBank$Evening" "saved" "[I") (List.mem_of_getElem? (i := 12) rfl)) (fun _ h9 => h9) rfl hname rfl (by decide +kernel) rfl rfl (Nat.le_of_ble_eq_true rfl) dX2_init_43 (fun H locs hP hD hS => ?_)
  have hP : va_P D vwCl [(h, .inr (2, [.ref q1, .ref q8, .ref q9, .ref q10, .ref q11, .null, .null, .null, .int 0, .int 0, .int 0, .int 0, .int 0, .int 0])), (q1, .inr (7, [.int 0, .ref q0_2, .ref q1_3, .int 0, .ref q2_4, .ref q3_5, .int 0, .ref q4_6, .ref q5_7, .int 0, .int 0, .int 0])), (q0_2, .inl (cI, 5, .inl (fun _ => 0))), (q1_3, .inl (cI, 5, .inl (fun _ => 0))), (q2_4, .inl (cI, 6, .inl (fun _ => 0))), (q3_5, .inl (cI, 6, .inl (fun _ => 0))), (q4_6, .inl (cI, 4, .inl (fun _ => 0))), (q5_7, .inl (cI, 4, .inl (fun _ => 0))), (q8, .inl (cI, 5, .inl (fun _ => 0))), (q9, .inl (cI, 25, .inl (fun _ => 0))), (q10, .inl (cI, 30, .inl (fun _ => 0))), (q11, .inl (cI, 6, .inl (fun _ => 0)))] H := hP
  have hD : va_D A [(h, .inr (2, [.ref q1, .ref q8, .ref q9, .ref q10, .ref q11, .null, .null, .null, .int 0, .int 0, .int 0, .int 0, .int 0, .int 0])), (q1, .inr (7, [.int 0, .ref q0_2, .ref q1_3, .int 0, .ref q2_4, .ref q3_5, .int 0, .ref q4_6, .ref q5_7, .int 0, .int 0, .int 0])), (q0_2, .inl (cI, 5, .inl (fun _ => 0))), (q1_3, .inl (cI, 5, .inl (fun _ => 0))), (q2_4, .inl (cI, 6, .inl (fun _ => 0))), (q3_5, .inl (cI, 6, .inl (fun _ => 0))), (q4_6, .inl (cI, 4, .inl (fun _ => 0))), (q5_7, .inl (cI, 4, .inl (fun _ => 0))), (q8, .inl (cI, 5, .inl (fun _ => 0))), (q9, .inl (cI, 25, .inl (fun _ => 0))), (q10, .inl (cI, 30, .inl (fun _ => 0))), (q11, .inl (cI, 6, .inl (fun _ => 0)))] := hD
  refine lv_aload_n hx hb dX2_init_46 rfl (lv_at hl 0 rfl) ?_
  refine lv_bipush (v := 6) hx hb dX2_init_47 (by decide) ?_
  refine va_newa (atype := .int) (a0 := (6, .inl (fun _ => 0))) (N' := 6) (ty := .int) hx hb (hts (.arrayClass .int) (List.mem_of_getElem? (i := 8) rfl)) rfl hK.1 hP hD hS hA (fun _ => rfl) (by decide) (by decide) (Nat.le_of_ble_eq_true rfl) (Nat.le_of_ble_eq_true rfl) (Nat.le_of_ble_eq_true rfl) dX2_init_49 (fun q12 cA H hK9 hP hD hS => ?_)
  have ec := kk_i hK9; subst ec; clear hK9
  have hP : va_P D vwCl [(h, .inr (2, [.ref q1, .ref q8, .ref q9, .ref q10, .ref q11, .null, .null, .null, .int 0, .int 0, .int 0, .int 0, .int 0, .int 0])), (q1, .inr (7, [.int 0, .ref q0_2, .ref q1_3, .int 0, .ref q2_4, .ref q3_5, .int 0, .ref q4_6, .ref q5_7, .int 0, .int 0, .int 0])), (q0_2, .inl (cI, 5, .inl (fun _ => 0))), (q1_3, .inl (cI, 5, .inl (fun _ => 0))), (q2_4, .inl (cI, 6, .inl (fun _ => 0))), (q3_5, .inl (cI, 6, .inl (fun _ => 0))), (q4_6, .inl (cI, 4, .inl (fun _ => 0))), (q5_7, .inl (cI, 4, .inl (fun _ => 0))), (q8, .inl (cI, 5, .inl (fun _ => 0))), (q9, .inl (cI, 25, .inl (fun _ => 0))), (q10, .inl (cI, 30, .inl (fun _ => 0))), (q11, .inl (cI, 6, .inl (fun _ => 0))), (q12, .inl (cI, 6, .inl (fun _ => 0)))] H := hP
  have hD : va_D A [(h, .inr (2, [.ref q1, .ref q8, .ref q9, .ref q10, .ref q11, .null, .null, .null, .int 0, .int 0, .int 0, .int 0, .int 0, .int 0])), (q1, .inr (7, [.int 0, .ref q0_2, .ref q1_3, .int 0, .ref q2_4, .ref q3_5, .int 0, .ref q4_6, .ref q5_7, .int 0, .int 0, .int 0])), (q0_2, .inl (cI, 5, .inl (fun _ => 0))), (q1_3, .inl (cI, 5, .inl (fun _ => 0))), (q2_4, .inl (cI, 6, .inl (fun _ => 0))), (q3_5, .inl (cI, 6, .inl (fun _ => 0))), (q4_6, .inl (cI, 4, .inl (fun _ => 0))), (q5_7, .inl (cI, 4, .inl (fun _ => 0))), (q8, .inl (cI, 5, .inl (fun _ => 0))), (q9, .inl (cI, 25, .inl (fun _ => 0))), (q10, .inl (cI, 30, .inl (fun _ => 0))), (q11, .inl (cI, 6, .inl (fun _ => 0))), (q12, .inl (cI, 6, .inl (fun _ => 0)))] := hD
  refine va_putF (D := D) (ci := 2) (v := .ref q12) (ty := (.array .int)) (C := RX2) (T := TX2) (N := 14) hx hb hts (fun _ h => List.mem_cons_of_mem _ (List.mem_append_right _ h)) tyX2 tyX2_ok nmX2 hown hK.1 hP hD hS 0 rfl rfl 5 (by decide) (hts (.fieldLink RX2 31 "ClapBank$Evening" "starved" "[I") (List.mem_of_getElem? (i := 13) rfl)) (fun _ h9 => h9) rfl hname rfl (by decide +kernel) rfl rfl (Nat.le_of_ble_eq_true rfl) dX2_init_51 (fun H locs hP hD hS => ?_)
  have hP : va_P D vwCl [(h, .inr (2, [.ref q1, .ref q8, .ref q9, .ref q10, .ref q11, .ref q12, .null, .null, .int 0, .int 0, .int 0, .int 0, .int 0, .int 0])), (q1, .inr (7, [.int 0, .ref q0_2, .ref q1_3, .int 0, .ref q2_4, .ref q3_5, .int 0, .ref q4_6, .ref q5_7, .int 0, .int 0, .int 0])), (q0_2, .inl (cI, 5, .inl (fun _ => 0))), (q1_3, .inl (cI, 5, .inl (fun _ => 0))), (q2_4, .inl (cI, 6, .inl (fun _ => 0))), (q3_5, .inl (cI, 6, .inl (fun _ => 0))), (q4_6, .inl (cI, 4, .inl (fun _ => 0))), (q5_7, .inl (cI, 4, .inl (fun _ => 0))), (q8, .inl (cI, 5, .inl (fun _ => 0))), (q9, .inl (cI, 25, .inl (fun _ => 0))), (q10, .inl (cI, 30, .inl (fun _ => 0))), (q11, .inl (cI, 6, .inl (fun _ => 0))), (q12, .inl (cI, 6, .inl (fun _ => 0)))] H := hP
  have hD : va_D A [(h, .inr (2, [.ref q1, .ref q8, .ref q9, .ref q10, .ref q11, .ref q12, .null, .null, .int 0, .int 0, .int 0, .int 0, .int 0, .int 0])), (q1, .inr (7, [.int 0, .ref q0_2, .ref q1_3, .int 0, .ref q2_4, .ref q3_5, .int 0, .ref q4_6, .ref q5_7, .int 0, .int 0, .int 0])), (q0_2, .inl (cI, 5, .inl (fun _ => 0))), (q1_3, .inl (cI, 5, .inl (fun _ => 0))), (q2_4, .inl (cI, 6, .inl (fun _ => 0))), (q3_5, .inl (cI, 6, .inl (fun _ => 0))), (q4_6, .inl (cI, 4, .inl (fun _ => 0))), (q5_7, .inl (cI, 4, .inl (fun _ => 0))), (q8, .inl (cI, 5, .inl (fun _ => 0))), (q9, .inl (cI, 25, .inl (fun _ => 0))), (q10, .inl (cI, 30, .inl (fun _ => 0))), (q11, .inl (cI, 6, .inl (fun _ => 0))), (q12, .inl (cI, 6, .inl (fun _ => 0)))] := hD
  refine lv_aload_n hx hb dX2_init_54 rfl (lv_at hl 0 rfl) ?_
  refine lv_bipush (v := 6) hx hb dX2_init_55 (by decide) ?_
  refine va_newa (atype := .int) (a0 := (6, .inl (fun _ => 0))) (N' := 6) (ty := .int) hx hb (hts (.arrayClass .int) (List.mem_of_getElem? (i := 8) rfl)) rfl hK.1 hP hD hS hA (fun _ => rfl) (by decide) (by decide) (Nat.le_of_ble_eq_true rfl) (Nat.le_of_ble_eq_true rfl) (Nat.le_of_ble_eq_true rfl) dX2_init_57 (fun q13 cA H hK9 hP hD hS => ?_)
  have ec := kk_i hK9; subst ec; clear hK9
  have hP : va_P D vwCl [(h, .inr (2, [.ref q1, .ref q8, .ref q9, .ref q10, .ref q11, .ref q12, .null, .null, .int 0, .int 0, .int 0, .int 0, .int 0, .int 0])), (q1, .inr (7, [.int 0, .ref q0_2, .ref q1_3, .int 0, .ref q2_4, .ref q3_5, .int 0, .ref q4_6, .ref q5_7, .int 0, .int 0, .int 0])), (q0_2, .inl (cI, 5, .inl (fun _ => 0))), (q1_3, .inl (cI, 5, .inl (fun _ => 0))), (q2_4, .inl (cI, 6, .inl (fun _ => 0))), (q3_5, .inl (cI, 6, .inl (fun _ => 0))), (q4_6, .inl (cI, 4, .inl (fun _ => 0))), (q5_7, .inl (cI, 4, .inl (fun _ => 0))), (q8, .inl (cI, 5, .inl (fun _ => 0))), (q9, .inl (cI, 25, .inl (fun _ => 0))), (q10, .inl (cI, 30, .inl (fun _ => 0))), (q11, .inl (cI, 6, .inl (fun _ => 0))), (q12, .inl (cI, 6, .inl (fun _ => 0))), (q13, .inl (cI, 6, .inl (fun _ => 0)))] H := hP
  have hD : va_D A [(h, .inr (2, [.ref q1, .ref q8, .ref q9, .ref q10, .ref q11, .ref q12, .null, .null, .int 0, .int 0, .int 0, .int 0, .int 0, .int 0])), (q1, .inr (7, [.int 0, .ref q0_2, .ref q1_3, .int 0, .ref q2_4, .ref q3_5, .int 0, .ref q4_6, .ref q5_7, .int 0, .int 0, .int 0])), (q0_2, .inl (cI, 5, .inl (fun _ => 0))), (q1_3, .inl (cI, 5, .inl (fun _ => 0))), (q2_4, .inl (cI, 6, .inl (fun _ => 0))), (q3_5, .inl (cI, 6, .inl (fun _ => 0))), (q4_6, .inl (cI, 4, .inl (fun _ => 0))), (q5_7, .inl (cI, 4, .inl (fun _ => 0))), (q8, .inl (cI, 5, .inl (fun _ => 0))), (q9, .inl (cI, 25, .inl (fun _ => 0))), (q10, .inl (cI, 30, .inl (fun _ => 0))), (q11, .inl (cI, 6, .inl (fun _ => 0))), (q12, .inl (cI, 6, .inl (fun _ => 0))), (q13, .inl (cI, 6, .inl (fun _ => 0)))] := hD
  refine va_putF (D := D) (ci := 2) (v := .ref q13) (ty := (.array .int)) (C := RX2) (T := TX2) (N := 14) hx hb hts (fun _ h => List.mem_cons_of_mem _ (List.mem_append_right _ h)) tyX2 tyX2_ok nmX2 hown hK.1 hP hD hS 0 rfl rfl 6 (by decide) (hts (.fieldLink RX2 34 "ClapBank$Evening" "storms" "[I") (List.mem_of_getElem? (i := 14) rfl)) (fun _ h9 => h9) rfl hname rfl (by decide +kernel) rfl rfl (Nat.le_of_ble_eq_true rfl) dX2_init_59 (fun H locs hP hD hS => ?_)
  have hP : va_P D vwCl [(h, .inr (2, [.ref q1, .ref q8, .ref q9, .ref q10, .ref q11, .ref q12, .ref q13, .null, .int 0, .int 0, .int 0, .int 0, .int 0, .int 0])), (q1, .inr (7, [.int 0, .ref q0_2, .ref q1_3, .int 0, .ref q2_4, .ref q3_5, .int 0, .ref q4_6, .ref q5_7, .int 0, .int 0, .int 0])), (q0_2, .inl (cI, 5, .inl (fun _ => 0))), (q1_3, .inl (cI, 5, .inl (fun _ => 0))), (q2_4, .inl (cI, 6, .inl (fun _ => 0))), (q3_5, .inl (cI, 6, .inl (fun _ => 0))), (q4_6, .inl (cI, 4, .inl (fun _ => 0))), (q5_7, .inl (cI, 4, .inl (fun _ => 0))), (q8, .inl (cI, 5, .inl (fun _ => 0))), (q9, .inl (cI, 25, .inl (fun _ => 0))), (q10, .inl (cI, 30, .inl (fun _ => 0))), (q11, .inl (cI, 6, .inl (fun _ => 0))), (q12, .inl (cI, 6, .inl (fun _ => 0))), (q13, .inl (cI, 6, .inl (fun _ => 0)))] H := hP
  have hD : va_D A [(h, .inr (2, [.ref q1, .ref q8, .ref q9, .ref q10, .ref q11, .ref q12, .ref q13, .null, .int 0, .int 0, .int 0, .int 0, .int 0, .int 0])), (q1, .inr (7, [.int 0, .ref q0_2, .ref q1_3, .int 0, .ref q2_4, .ref q3_5, .int 0, .ref q4_6, .ref q5_7, .int 0, .int 0, .int 0])), (q0_2, .inl (cI, 5, .inl (fun _ => 0))), (q1_3, .inl (cI, 5, .inl (fun _ => 0))), (q2_4, .inl (cI, 6, .inl (fun _ => 0))), (q3_5, .inl (cI, 6, .inl (fun _ => 0))), (q4_6, .inl (cI, 4, .inl (fun _ => 0))), (q5_7, .inl (cI, 4, .inl (fun _ => 0))), (q8, .inl (cI, 5, .inl (fun _ => 0))), (q9, .inl (cI, 25, .inl (fun _ => 0))), (q10, .inl (cI, 30, .inl (fun _ => 0))), (q11, .inl (cI, 6, .inl (fun _ => 0))), (q12, .inl (cI, 6, .inl (fun _ => 0))), (q13, .inl (cI, 6, .inl (fun _ => 0)))] := hD
  refine lv_aload_n hx hb dX2_init_62 rfl (lv_at hl 0 rfl) ?_
  refine lv_bipush (v := 6) hx hb dX2_init_63 (by decide) ?_
  refine va_newa (atype := .int) (a0 := (6, .inl (fun _ => 0))) (N' := 6) (ty := .int) hx hb (hts (.arrayClass .int) (List.mem_of_getElem? (i := 8) rfl)) rfl hK.1 hP hD hS hA (fun _ => rfl) (by decide) (by decide) (Nat.le_of_ble_eq_true rfl) (Nat.le_of_ble_eq_true rfl) (Nat.le_of_ble_eq_true rfl) dX2_init_65 (fun q14 cA H hK9 hP hD hS => ?_)
  have ec := kk_i hK9; subst ec; clear hK9
  have hP : va_P D vwCl [(h, .inr (2, [.ref q1, .ref q8, .ref q9, .ref q10, .ref q11, .ref q12, .ref q13, .null, .int 0, .int 0, .int 0, .int 0, .int 0, .int 0])), (q1, .inr (7, [.int 0, .ref q0_2, .ref q1_3, .int 0, .ref q2_4, .ref q3_5, .int 0, .ref q4_6, .ref q5_7, .int 0, .int 0, .int 0])), (q0_2, .inl (cI, 5, .inl (fun _ => 0))), (q1_3, .inl (cI, 5, .inl (fun _ => 0))), (q2_4, .inl (cI, 6, .inl (fun _ => 0))), (q3_5, .inl (cI, 6, .inl (fun _ => 0))), (q4_6, .inl (cI, 4, .inl (fun _ => 0))), (q5_7, .inl (cI, 4, .inl (fun _ => 0))), (q8, .inl (cI, 5, .inl (fun _ => 0))), (q9, .inl (cI, 25, .inl (fun _ => 0))), (q10, .inl (cI, 30, .inl (fun _ => 0))), (q11, .inl (cI, 6, .inl (fun _ => 0))), (q12, .inl (cI, 6, .inl (fun _ => 0))), (q13, .inl (cI, 6, .inl (fun _ => 0))), (q14, .inl (cI, 6, .inl (fun _ => 0)))] H := hP
  have hD : va_D A [(h, .inr (2, [.ref q1, .ref q8, .ref q9, .ref q10, .ref q11, .ref q12, .ref q13, .null, .int 0, .int 0, .int 0, .int 0, .int 0, .int 0])), (q1, .inr (7, [.int 0, .ref q0_2, .ref q1_3, .int 0, .ref q2_4, .ref q3_5, .int 0, .ref q4_6, .ref q5_7, .int 0, .int 0, .int 0])), (q0_2, .inl (cI, 5, .inl (fun _ => 0))), (q1_3, .inl (cI, 5, .inl (fun _ => 0))), (q2_4, .inl (cI, 6, .inl (fun _ => 0))), (q3_5, .inl (cI, 6, .inl (fun _ => 0))), (q4_6, .inl (cI, 4, .inl (fun _ => 0))), (q5_7, .inl (cI, 4, .inl (fun _ => 0))), (q8, .inl (cI, 5, .inl (fun _ => 0))), (q9, .inl (cI, 25, .inl (fun _ => 0))), (q10, .inl (cI, 30, .inl (fun _ => 0))), (q11, .inl (cI, 6, .inl (fun _ => 0))), (q12, .inl (cI, 6, .inl (fun _ => 0))), (q13, .inl (cI, 6, .inl (fun _ => 0))), (q14, .inl (cI, 6, .inl (fun _ => 0)))] := hD
  refine va_putF (D := D) (ci := 2) (v := .ref q14) (ty := (.array .int)) (C := RX2) (T := TX2) (N := 14) hx hb hts (fun _ h => List.mem_cons_of_mem _ (List.mem_append_right _ h)) tyX2 tyX2_ok nmX2 hown hK.1 hP hD hS 0 rfl rfl 7 (by decide) (hts (.fieldLink RX2 37 "ClapBank$Evening" "drawnFrom" "[I") (List.mem_of_getElem? (i := 15) rfl)) (fun _ h9 => h9) rfl hname rfl (by decide +kernel) rfl rfl (Nat.le_of_ble_eq_true rfl) dX2_init_67 (fun H locs hP hD hS => ?_)
  have hP : va_P D vwCl [(h, .inr (2, [.ref q1, .ref q8, .ref q9, .ref q10, .ref q11, .ref q12, .ref q13, .ref q14, .int 0, .int 0, .int 0, .int 0, .int 0, .int 0])), (q1, .inr (7, [.int 0, .ref q0_2, .ref q1_3, .int 0, .ref q2_4, .ref q3_5, .int 0, .ref q4_6, .ref q5_7, .int 0, .int 0, .int 0])), (q0_2, .inl (cI, 5, .inl (fun _ => 0))), (q1_3, .inl (cI, 5, .inl (fun _ => 0))), (q2_4, .inl (cI, 6, .inl (fun _ => 0))), (q3_5, .inl (cI, 6, .inl (fun _ => 0))), (q4_6, .inl (cI, 4, .inl (fun _ => 0))), (q5_7, .inl (cI, 4, .inl (fun _ => 0))), (q8, .inl (cI, 5, .inl (fun _ => 0))), (q9, .inl (cI, 25, .inl (fun _ => 0))), (q10, .inl (cI, 30, .inl (fun _ => 0))), (q11, .inl (cI, 6, .inl (fun _ => 0))), (q12, .inl (cI, 6, .inl (fun _ => 0))), (q13, .inl (cI, 6, .inl (fun _ => 0))), (q14, .inl (cI, 6, .inl (fun _ => 0)))] H := hP
  have hD : va_D A [(h, .inr (2, [.ref q1, .ref q8, .ref q9, .ref q10, .ref q11, .ref q12, .ref q13, .ref q14, .int 0, .int 0, .int 0, .int 0, .int 0, .int 0])), (q1, .inr (7, [.int 0, .ref q0_2, .ref q1_3, .int 0, .ref q2_4, .ref q3_5, .int 0, .ref q4_6, .ref q5_7, .int 0, .int 0, .int 0])), (q0_2, .inl (cI, 5, .inl (fun _ => 0))), (q1_3, .inl (cI, 5, .inl (fun _ => 0))), (q2_4, .inl (cI, 6, .inl (fun _ => 0))), (q3_5, .inl (cI, 6, .inl (fun _ => 0))), (q4_6, .inl (cI, 4, .inl (fun _ => 0))), (q5_7, .inl (cI, 4, .inl (fun _ => 0))), (q8, .inl (cI, 5, .inl (fun _ => 0))), (q9, .inl (cI, 25, .inl (fun _ => 0))), (q10, .inl (cI, 30, .inl (fun _ => 0))), (q11, .inl (cI, 6, .inl (fun _ => 0))), (q12, .inl (cI, 6, .inl (fun _ => 0))), (q13, .inl (cI, 6, .inl (fun _ => 0))), (q14, .inl (cI, 6, .inl (fun _ => 0)))] := hD
  refine W.widen (k := 14) (n := 126) (Nat.le_of_ble_eq_true rfl) (Nat.le_of_ble_eq_true rfl) ?_
  exact ro_v hx hb hr hlocks () rfl trivial (hP.sub [] rfl) (hD.sub [] (by decide) rfl) hS dX2_init_70
set_option maxHeartbeats 400000 in
set_option maxRecDepth 100000 in
theorem c_Feast_init (l : Launch) (D : va_G) (cI cB cJ cZ cT : ClassId) (h : Nat) : Co l yX3_init wsX3_init ({ frames := 1, cells := 0, slots := 0, locals := 20 }) D (tyL cI cB cJ cZ cT) [.ref h] [(h, .inr (3, [.int 0, .int 0, .int 0]))] (fun u : Unit => none) (fun u : Unit => True) (fun u : Unit => ([] : va_W)) 0 0 := by
  refine entry (cc := cX3_init) (maxL := 1) (ret := none) (by decide) rfl (Nat.le_of_ble_eq_true rfl) ?_
  intro p e s m below meth c A ls hx hb hr hml hts hown hlocks hname hK hP hD hS hA hl
  have hown : s.vm.findClass RX3 = some m.cls := hown
  have hl : lv_has ls 1 [(0, .ref h)] := hl
  refine lv_aload_n hx hb dX3_init_0 rfl (lv_at hl 0 rfl) ?_
  refine W.objInit hx hb hown (hts (.methodLink RX3 3 objectInit) (List.mem_of_getElem? (i := 1) rfl)) (hts (.instanceMethod objectInit) (List.mem_of_getElem? (i := 2) rfl)) (hts (.code objectInit ⟨#[0xb1]⟩ 1 none) (List.mem_of_getElem? (i := 3) rfl)) rfl (by rw [hml]; exact hl.1) rfl dX3_init_1 (Nat.le_of_ble_eq_true rfl) (Nat.le_of_ble_eq_true rfl) ?_
  refine W.eq (g2 := F0 m 4 ls []) rfl ?_
  refine W.widen (k := 0) (n := 0) (Nat.le_of_ble_eq_true rfl) (Nat.le_of_ble_eq_true rfl) ?_
  exact ro_v hx hb hr hlocks () rfl trivial (hP.sub [] rfl) (hD.sub [] (by decide) rfl) hS dX3_init_4
set_option maxHeartbeats 400000 in
set_option maxRecDepth 100000 in
theorem c_Rounds_init (l : Launch) (D : va_G) (cI cB cJ cZ cT : ClassId) (h : Nat) : Co l yX6_init wsX6_init ({ frames := 1, cells := 4, slots := 213, locals := 20 }) D (tyL cI cB cJ cZ cT) [.ref h] [(h, .inr (6, [.int 0, .int 0, .int 0, .null, .null, .null, .null]))] (fun u : Unit => none) (fun u : Unit => True) (fun u : Unit => ([] : va_W)) 4 213 := by
  refine entry (cc := cX6_init) (maxL := 1) (ret := none) (by decide) rfl (Nat.le_of_ble_eq_true rfl) ?_
  intro p e s m below meth c A ls hx hb hr hml hts hown hlocks hname hK hP hD hS hA hl
  have hown : s.vm.findClass RX6 = some m.cls := hown
  have hl : lv_has ls 1 [(0, .ref h)] := hl
  refine lv_aload_n hx hb dX6_init_0 rfl (lv_at hl 0 rfl) ?_
  refine W.objInit hx hb hown (hts (.methodLink RX6 3 objectInit) (List.mem_of_getElem? (i := 1) rfl)) (hts (.instanceMethod objectInit) (List.mem_of_getElem? (i := 2) rfl)) (hts (.code objectInit ⟨#[0xb1]⟩ 1 none) (List.mem_of_getElem? (i := 3) rfl)) rfl (by rw [hml]; exact hl.1) rfl dX6_init_1 (Nat.le_of_ble_eq_true rfl) (Nat.le_of_ble_eq_true rfl) ?_
  refine W.eq (g2 := F0 m 4 ls []) rfl ?_
  refine lv_aload_n hx hb dX6_init_4 rfl (lv_at hl 0 rfl) ?_
  refine lv_iconst (v := 4) hx hb dX6_init_5 (by decide) ?_
  refine va_newa (atype := .int) (a0 := (4, .inl (fun _ => 0))) (N' := 4) (ty := .int) hx hb (hts (.arrayClass .int) (List.mem_of_getElem? (i := 4) rfl)) rfl hK.1 hP hD hS hA (fun _ => rfl) (by decide) (by decide) (Nat.le_of_ble_eq_true rfl) (Nat.le_of_ble_eq_true rfl) (Nat.le_of_ble_eq_true rfl) dX6_init_6 (fun q1 cA H hK9 hP hD hS => ?_)
  have ec := kk_i hK9; subst ec; clear hK9
  have hP : va_P D vwCl [(h, .inr (6, [.int 0, .int 0, .int 0, .null, .null, .null, .null])), (q1, .inl (cI, 4, .inl (fun _ => 0)))] H := hP
  have hD : va_D A [(h, .inr (6, [.int 0, .int 0, .int 0, .null, .null, .null, .null])), (q1, .inl (cI, 4, .inl (fun _ => 0)))] := hD
  refine va_putF (D := D) (ci := 6) (v := .ref q1) (ty := (.array .int)) (C := RX6) (T := TX6) (N := 7) hx hb hts (fun _ h => List.mem_cons_of_mem _ (List.mem_append_right _ h)) tyX6 tyX6_ok nmX6 hown hK.1 hP hD hS 0 rfl rfl 3 (by decide) (hts (.fieldLink RX6 9 "ClapBank$Rounds" "asks" "[I") (List.mem_of_getElem? (i := 5) rfl)) (fun _ h9 => h9) rfl hname rfl (by decide +kernel) rfl rfl (Nat.le_of_ble_eq_true rfl) dX6_init_8 (fun H locs hP hD hS => ?_)
  have hP : va_P D vwCl [(h, .inr (6, [.int 0, .int 0, .int 0, .ref q1, .null, .null, .null])), (q1, .inl (cI, 4, .inl (fun _ => 0)))] H := hP
  have hD : va_D A [(h, .inr (6, [.int 0, .int 0, .int 0, .ref q1, .null, .null, .null])), (q1, .inl (cI, 4, .inl (fun _ => 0)))] := hD
  refine lv_aload_n hx hb dX6_init_11 rfl (lv_at hl 0 rfl) ?_
  refine lv_iconst (v := 4) hx hb dX6_init_12 (by decide) ?_
  refine va_newa (atype := .int) (a0 := (4, .inl (fun _ => 0))) (N' := 4) (ty := .int) hx hb (hts (.arrayClass .int) (List.mem_of_getElem? (i := 4) rfl)) rfl hK.1 hP hD hS hA (fun _ => rfl) (by decide) (by decide) (Nat.le_of_ble_eq_true rfl) (Nat.le_of_ble_eq_true rfl) (Nat.le_of_ble_eq_true rfl) dX6_init_13 (fun q2 cA H hK9 hP hD hS => ?_)
  have ec := kk_i hK9; subst ec; clear hK9
  have hP : va_P D vwCl [(h, .inr (6, [.int 0, .int 0, .int 0, .ref q1, .null, .null, .null])), (q1, .inl (cI, 4, .inl (fun _ => 0))), (q2, .inl (cI, 4, .inl (fun _ => 0)))] H := hP
  have hD : va_D A [(h, .inr (6, [.int 0, .int 0, .int 0, .ref q1, .null, .null, .null])), (q1, .inl (cI, 4, .inl (fun _ => 0))), (q2, .inl (cI, 4, .inl (fun _ => 0)))] := hD
  refine va_putF (D := D) (ci := 6) (v := .ref q2) (ty := (.array .int)) (C := RX6) (T := TX6) (N := 7) hx hb hts (fun _ h => List.mem_cons_of_mem _ (List.mem_append_right _ h)) tyX6 tyX6_ok nmX6 hown hK.1 hP hD hS 0 rfl rfl 4 (by decide) (hts (.fieldLink RX6 15 "ClapBank$Rounds" "floors" "[I") (List.mem_of_getElem? (i := 6) rfl)) (fun _ h9 => h9) rfl hname rfl (by decide +kernel) rfl rfl (Nat.le_of_ble_eq_true rfl) dX6_init_15 (fun H locs hP hD hS => ?_)
  have hP : va_P D vwCl [(h, .inr (6, [.int 0, .int 0, .int 0, .ref q1, .ref q2, .null, .null])), (q1, .inl (cI, 4, .inl (fun _ => 0))), (q2, .inl (cI, 4, .inl (fun _ => 0)))] H := hP
  have hD : va_D A [(h, .inr (6, [.int 0, .int 0, .int 0, .ref q1, .ref q2, .null, .null])), (q1, .inl (cI, 4, .inl (fun _ => 0))), (q2, .inl (cI, 4, .inl (fun _ => 0)))] := hD
  refine lv_aload_n hx hb dX6_init_18 rfl (lv_at hl 0 rfl) ?_
  refine lv_iconst (v := 4) hx hb dX6_init_19 (by decide) ?_
  refine va_newa (atype := .int) (a0 := (4, .inl (fun _ => 0))) (N' := 4) (ty := .int) hx hb (hts (.arrayClass .int) (List.mem_of_getElem? (i := 4) rfl)) rfl hK.1 hP hD hS hA (fun _ => rfl) (by decide) (by decide) (Nat.le_of_ble_eq_true rfl) (Nat.le_of_ble_eq_true rfl) (Nat.le_of_ble_eq_true rfl) dX6_init_20 (fun q3 cA H hK9 hP hD hS => ?_)
  have ec := kk_i hK9; subst ec; clear hK9
  have hP : va_P D vwCl [(h, .inr (6, [.int 0, .int 0, .int 0, .ref q1, .ref q2, .null, .null])), (q1, .inl (cI, 4, .inl (fun _ => 0))), (q2, .inl (cI, 4, .inl (fun _ => 0))), (q3, .inl (cI, 4, .inl (fun _ => 0)))] H := hP
  have hD : va_D A [(h, .inr (6, [.int 0, .int 0, .int 0, .ref q1, .ref q2, .null, .null])), (q1, .inl (cI, 4, .inl (fun _ => 0))), (q2, .inl (cI, 4, .inl (fun _ => 0))), (q3, .inl (cI, 4, .inl (fun _ => 0)))] := hD
  refine va_putF (D := D) (ci := 6) (v := .ref q3) (ty := (.array .int)) (C := RX6) (T := TX6) (N := 7) hx hb hts (fun _ h => List.mem_cons_of_mem _ (List.mem_append_right _ h)) tyX6 tyX6_ok nmX6 hown hK.1 hP hD hS 0 rfl rfl 5 (by decide) (hts (.fieldLink RX6 18 "ClapBank$Rounds" "gains" "[I") (List.mem_of_getElem? (i := 7) rfl)) (fun _ h9 => h9) rfl hname rfl (by decide +kernel) rfl rfl (Nat.le_of_ble_eq_true rfl) dX6_init_22 (fun H locs hP hD hS => ?_)
  have hP : va_P D vwCl [(h, .inr (6, [.int 0, .int 0, .int 0, .ref q1, .ref q2, .ref q3, .null])), (q1, .inl (cI, 4, .inl (fun _ => 0))), (q2, .inl (cI, 4, .inl (fun _ => 0))), (q3, .inl (cI, 4, .inl (fun _ => 0)))] H := hP
  have hD : va_D A [(h, .inr (6, [.int 0, .int 0, .int 0, .ref q1, .ref q2, .ref q3, .null])), (q1, .inl (cI, 4, .inl (fun _ => 0))), (q2, .inl (cI, 4, .inl (fun _ => 0))), (q3, .inl (cI, 4, .inl (fun _ => 0)))] := hD
  refine lv_aload_n hx hb dX6_init_25 rfl (lv_at hl 0 rfl) ?_
  refine lv_sipush (v := 201) hx hb dX6_init_26 (by decide) ?_
  refine va_newa (atype := .int) (a0 := (201, .inl (fun _ => 0))) (N' := 201) (ty := .int) hx hb (hts (.arrayClass .int) (List.mem_of_getElem? (i := 4) rfl)) rfl hK.1 hP hD hS hA (fun _ => rfl) (by decide) (by decide) (Nat.le_of_ble_eq_true rfl) (Nat.le_of_ble_eq_true rfl) (Nat.le_of_ble_eq_true rfl) dX6_init_29 (fun q4 cA H hK9 hP hD hS => ?_)
  have ec := kk_i hK9; subst ec; clear hK9
  have hP : va_P D vwCl [(h, .inr (6, [.int 0, .int 0, .int 0, .ref q1, .ref q2, .ref q3, .null])), (q1, .inl (cI, 4, .inl (fun _ => 0))), (q2, .inl (cI, 4, .inl (fun _ => 0))), (q3, .inl (cI, 4, .inl (fun _ => 0))), (q4, .inl (cI, 201, .inl (fun _ => 0)))] H := hP
  have hD : va_D A [(h, .inr (6, [.int 0, .int 0, .int 0, .ref q1, .ref q2, .ref q3, .null])), (q1, .inl (cI, 4, .inl (fun _ => 0))), (q2, .inl (cI, 4, .inl (fun _ => 0))), (q3, .inl (cI, 4, .inl (fun _ => 0))), (q4, .inl (cI, 201, .inl (fun _ => 0)))] := hD
  refine va_putF (D := D) (ci := 6) (v := .ref q4) (ty := (.array .int)) (C := RX6) (T := TX6) (N := 7) hx hb hts (fun _ h => List.mem_cons_of_mem _ (List.mem_append_right _ h)) tyX6 tyX6_ok nmX6 hown hK.1 hP hD hS 0 rfl rfl 6 (by decide) (hts (.fieldLink RX6 21 "ClapBank$Rounds" "seen" "[I") (List.mem_of_getElem? (i := 8) rfl)) (fun _ h9 => h9) rfl hname rfl (by decide +kernel) rfl rfl (Nat.le_of_ble_eq_true rfl) dX6_init_31 (fun H locs hP hD hS => ?_)
  have hP : va_P D vwCl [(h, .inr (6, [.int 0, .int 0, .int 0, .ref q1, .ref q2, .ref q3, .ref q4])), (q1, .inl (cI, 4, .inl (fun _ => 0))), (q2, .inl (cI, 4, .inl (fun _ => 0))), (q3, .inl (cI, 4, .inl (fun _ => 0))), (q4, .inl (cI, 201, .inl (fun _ => 0)))] H := hP
  have hD : va_D A [(h, .inr (6, [.int 0, .int 0, .int 0, .ref q1, .ref q2, .ref q3, .ref q4])), (q1, .inl (cI, 4, .inl (fun _ => 0))), (q2, .inl (cI, 4, .inl (fun _ => 0))), (q3, .inl (cI, 4, .inl (fun _ => 0))), (q4, .inl (cI, 201, .inl (fun _ => 0)))] := hD
  refine W.widen (k := 4) (n := 213) (Nat.le_of_ble_eq_true rfl) (Nat.le_of_ble_eq_true rfl) ?_
  exact ro_v hx hb hr hlocks () rfl trivial (hP.sub [] rfl) (hD.sub [] (by decide) rfl) hS dX6_init_34
set_option maxHeartbeats 400000 in
set_option maxRecDepth 100000 in
theorem c_Hearing_init (l : Launch) (D : va_G) (cI cB cJ cZ cT : ClassId) (h : Nat) : Co l yX4_init wsX4_init ({ frames := 2, cells := 13, slots := 2162, locals := 40 }) D (tyL cI cB cJ cZ cT) [.ref h] [(h, .inr (4, [.null, .null, .null, .null, .null, .null, .int 0, .int 0, .int 0]))] (fun u : Unit => none) (fun u : Unit => True) (fun u : Unit => ([] : va_W)) 13 2162 := by
  refine entry (cc := cX4_init) (maxL := 1) (ret := none) (by decide) rfl (Nat.le_of_ble_eq_true rfl) ?_
  intro p e s m below meth c A ls hx hb hr hml hts hown hlocks hname hK hP hD hS hA hl
  have hown : s.vm.findClass RX4 = some m.cls := hown
  have hl : lv_has ls 1 [(0, .ref h)] := hl
  refine lv_aload_n hx hb dX4_init_0 rfl (lv_at hl 0 rfl) ?_
  refine W.objInit hx hb hown (hts (.methodLink RX4 3 objectInit) (List.mem_of_getElem? (i := 1) rfl)) (hts (.instanceMethod objectInit) (List.mem_of_getElem? (i := 2) rfl)) (hts (.code objectInit ⟨#[0xb1]⟩ 1 none) (List.mem_of_getElem? (i := 3) rfl)) rfl (by rw [hml]; exact hl.1) rfl dX4_init_1 (Nat.le_of_ble_eq_true rfl) (Nat.le_of_ble_eq_true rfl) ?_
  refine W.eq (g2 := F0 m 4 ls []) rfl ?_
  refine lv_aload_n hx hb dX4_init_4 rfl (lv_at hl 0 rfl) ?_
  refine va_new (ci := 7) (fs := [.int 0, .null, .null, .int 0, .null, .null, .int 0, .null, .null, .int 0, .int 0, .int 0]) (C := RX7) (T := TX7) (N := 12) hx hb hts (fun _ h => List.mem_cons_of_mem _ (List.mem_append_left _ (List.mem_append_left _ (List.mem_append_right _ h)))) tyX7 tyX7_ok hown (hts (.classLink RX4 9 RX7) (List.mem_of_getElem? (i := 4) rfl)) (hts (.instantiable RX7 12) (List.mem_of_getElem? (i := 5) rfl)) (hts (.initialized RX7) (List.mem_of_getElem? (i := 6) rfl)) hK.1 hP hD hS hA rfl dfX7 (Nat.le_of_ble_eq_true rfl) (Nat.le_of_ble_eq_true rfl) dX4_init_5 (fun q1 H hP hD hS => ?_)
  have hP : va_P D vwCl [(h, .inr (4, [.null, .null, .null, .null, .null, .null, .int 0, .int 0, .int 0])), (q1, .inr (7, [.int 0, .null, .null, .int 0, .null, .null, .int 0, .null, .null, .int 0, .int 0, .int 0]))] H := hP
  have hD : va_D A [(h, .inr (4, [.null, .null, .null, .null, .null, .null, .int 0, .int 0, .int 0])), (q1, .inr (7, [.int 0, .null, .null, .int 0, .null, .null, .int 0, .null, .null, .int 0, .int 0, .int 0]))] := hD
  refine lv_dup hx hb dX4_init_8 rfl ?_
  refine doN (As := []) (rest := [.ref q1, .ref h]) (wc := [(q1, .inr (7, [.int 0, .null, .null, .int 0, .null, .null, .int 0, .null, .null, .int 0, .int 0, .int 0]))]) (wr := [(h, .inr (4, [.null, .null, .null, .null, .null, .null, .int 0, .int 0, .int 0]))]) hx hb hml hown hts hK hP hD hS hA [1] [0] rfl rfl rfl rfl (by decide) (c_Theatre_init l D cI cB cJ cZ cT (q1)) gX4_init_X7_init_n11 rfl rfl rfl (nz_at hK.2.1 65 (w := .methodLinkNest "ClapBank$Hearing" 11 ⟨"ClapBank$Theatre", "<init>", "()V"⟩ "ClapBank") rfl) (hts (.initialized RX7) (List.mem_of_getElem? (i := 6) rfl)) (hts (.instanceMethod yX7_init) (List.mem_of_getElem? (i := 17) rfl)) rfl (by decide +kernel) ⟨Nat.le_of_ble_eq_true rfl, Nat.le_of_ble_eq_true rfl⟩ hl.1 rfl rfl (Nat.le_of_ble_eq_true rfl) dX4_init_9 ⟨Nat.le_of_ble_eq_true rfl, Nat.le_of_ble_eq_true rfl⟩ (fun u H locs hw hP hD hS => ?_)
  obtain ⟨q0_2, q1_3, q2_4, q3_5, q4_6, q5_7⟩ := u
  have hP : va_P D vwCl [(h, .inr (4, [.null, .null, .null, .null, .null, .null, .int 0, .int 0, .int 0])), (q1, .inr (7, [.int 0, .ref q0_2, .ref q1_3, .int 0, .ref q2_4, .ref q3_5, .int 0, .ref q4_6, .ref q5_7, .int 0, .int 0, .int 0])), (q0_2, .inl (cI, 5, .inl (fun _ => 0))), (q1_3, .inl (cI, 5, .inl (fun _ => 0))), (q2_4, .inl (cI, 6, .inl (fun _ => 0))), (q3_5, .inl (cI, 6, .inl (fun _ => 0))), (q4_6, .inl (cI, 4, .inl (fun _ => 0))), (q5_7, .inl (cI, 4, .inl (fun _ => 0)))] H := hP
  have hD : va_D A [(h, .inr (4, [.null, .null, .null, .null, .null, .null, .int 0, .int 0, .int 0])), (q1, .inr (7, [.int 0, .ref q0_2, .ref q1_3, .int 0, .ref q2_4, .ref q3_5, .int 0, .ref q4_6, .ref q5_7, .int 0, .int 0, .int 0])), (q0_2, .inl (cI, 5, .inl (fun _ => 0))), (q1_3, .inl (cI, 5, .inl (fun _ => 0))), (q2_4, .inl (cI, 6, .inl (fun _ => 0))), (q3_5, .inl (cI, 6, .inl (fun _ => 0))), (q4_6, .inl (cI, 4, .inl (fun _ => 0))), (q5_7, .inl (cI, 4, .inl (fun _ => 0)))] := hD
  refine W.eq (g2 := F0 m 12 ls [.ref q1, .ref h]) rfl ?_
  refine va_put (D := D) (ci := 4) (v := .ref q1) (ty := (.object "ClapBank$Theatre")) (C := RX4) (T := TX4) (N := 9) hx hb hts (fun _ h => List.mem_cons_of_mem _ (List.mem_append_left _ (List.mem_append_right _ h))) tyX4 tyX4_ok nmX4 hown hK.1 hP hD hS 0 rfl rfl 0 (by decide) (hts (.fieldLink RX4 12 "ClapBank$Hearing" "house" "LClapBank$Theatre;") (List.mem_of_getElem? (i := 7) rfl)) (fun _ h9 => h9) rfl (by decide +kernel) rfl rfl (Nat.le_of_ble_eq_true rfl) dX4_init_12 (fun H locs hP hD hS => ?_)
  have hP : va_P D vwCl [(h, .inr (4, [.ref q1, .null, .null, .null, .null, .null, .int 0, .int 0, .int 0])), (q1, .inr (7, [.int 0, .ref q0_2, .ref q1_3, .int 0, .ref q2_4, .ref q3_5, .int 0, .ref q4_6, .ref q5_7, .int 0, .int 0, .int 0])), (q0_2, .inl (cI, 5, .inl (fun _ => 0))), (q1_3, .inl (cI, 5, .inl (fun _ => 0))), (q2_4, .inl (cI, 6, .inl (fun _ => 0))), (q3_5, .inl (cI, 6, .inl (fun _ => 0))), (q4_6, .inl (cI, 4, .inl (fun _ => 0))), (q5_7, .inl (cI, 4, .inl (fun _ => 0)))] H := hP
  have hD : va_D A [(h, .inr (4, [.ref q1, .null, .null, .null, .null, .null, .int 0, .int 0, .int 0])), (q1, .inr (7, [.int 0, .ref q0_2, .ref q1_3, .int 0, .ref q2_4, .ref q3_5, .int 0, .ref q4_6, .ref q5_7, .int 0, .int 0, .int 0])), (q0_2, .inl (cI, 5, .inl (fun _ => 0))), (q1_3, .inl (cI, 5, .inl (fun _ => 0))), (q2_4, .inl (cI, 6, .inl (fun _ => 0))), (q3_5, .inl (cI, 6, .inl (fun _ => 0))), (q4_6, .inl (cI, 4, .inl (fun _ => 0))), (q5_7, .inl (cI, 4, .inl (fun _ => 0)))] := hD
  refine lv_aload_n hx hb dX4_init_15 rfl (lv_at hl 0 rfl) ?_
  refine va_new (ci := 1) (fs := [.int 0, .null]) (C := RX1) (T := TX1) (N := 2) hx hb hts (fun _ h => List.mem_cons_of_mem _ (List.mem_append_right _ h)) tyX1 tyX1_ok hown (hts (.classLink RX4 18 RX1) (List.mem_of_getElem? (i := 8) rfl)) (hts (.instantiable RX1 2) (List.mem_of_getElem? (i := 9) rfl)) (hts (.initialized RX1) (List.mem_of_getElem? (i := 10) rfl)) hK.1 hP hD hS hA rfl dfX1 (Nat.le_of_ble_eq_true rfl) (Nat.le_of_ble_eq_true rfl) dX4_init_16 (fun q8 H hP hD hS => ?_)
  have hP : va_P D vwCl [(h, .inr (4, [.ref q1, .null, .null, .null, .null, .null, .int 0, .int 0, .int 0])), (q1, .inr (7, [.int 0, .ref q0_2, .ref q1_3, .int 0, .ref q2_4, .ref q3_5, .int 0, .ref q4_6, .ref q5_7, .int 0, .int 0, .int 0])), (q0_2, .inl (cI, 5, .inl (fun _ => 0))), (q1_3, .inl (cI, 5, .inl (fun _ => 0))), (q2_4, .inl (cI, 6, .inl (fun _ => 0))), (q3_5, .inl (cI, 6, .inl (fun _ => 0))), (q4_6, .inl (cI, 4, .inl (fun _ => 0))), (q5_7, .inl (cI, 4, .inl (fun _ => 0))), (q8, .inr (1, [.int 0, .null]))] H := hP
  have hD : va_D A [(h, .inr (4, [.ref q1, .null, .null, .null, .null, .null, .int 0, .int 0, .int 0])), (q1, .inr (7, [.int 0, .ref q0_2, .ref q1_3, .int 0, .ref q2_4, .ref q3_5, .int 0, .ref q4_6, .ref q5_7, .int 0, .int 0, .int 0])), (q0_2, .inl (cI, 5, .inl (fun _ => 0))), (q1_3, .inl (cI, 5, .inl (fun _ => 0))), (q2_4, .inl (cI, 6, .inl (fun _ => 0))), (q3_5, .inl (cI, 6, .inl (fun _ => 0))), (q4_6, .inl (cI, 4, .inl (fun _ => 0))), (q5_7, .inl (cI, 4, .inl (fun _ => 0))), (q8, .inr (1, [.int 0, .null]))] := hD
  refine lv_dup hx hb dX4_init_19 rfl ?_
  refine doN (As := []) (rest := [.ref q8, .ref h]) (wc := [(q8, .inr (1, [.int 0, .null]))]) (wr := [(h, .inr (4, [.ref q1, .null, .null, .null, .null, .null, .int 0, .int 0, .int 0])), (q1, .inr (7, [.int 0, .ref q0_2, .ref q1_3, .int 0, .ref q2_4, .ref q3_5, .int 0, .ref q4_6, .ref q5_7, .int 0, .int 0, .int 0])), (q0_2, .inl (cI, 5, .inl (fun _ => 0))), (q1_3, .inl (cI, 5, .inl (fun _ => 0))), (q2_4, .inl (cI, 6, .inl (fun _ => 0))), (q3_5, .inl (cI, 6, .inl (fun _ => 0))), (q4_6, .inl (cI, 4, .inl (fun _ => 0))), (q5_7, .inl (cI, 4, .inl (fun _ => 0)))]) hx hb hml hown hts hK hP hD hS hA [8] [0, 1, 2, 3, 4, 5, 6, 7] rfl rfl rfl rfl (by decide) (c_Dark_init l D cI cB cJ cZ cT (q8)) gX4_init_X1_init_n20 rfl rfl rfl (nz_at hK.2.1 66 (w := .methodLinkNest "ClapBank$Hearing" 20 ⟨"ClapBank$Dark", "<init>", "()V"⟩ "ClapBank") rfl) (hts (.initialized RX1) (List.mem_of_getElem? (i := 10) rfl)) (hts (.instanceMethod yX1_init) (List.mem_of_getElem? (i := 26) rfl)) rfl (by decide +kernel) ⟨Nat.le_of_ble_eq_true rfl, Nat.le_of_ble_eq_true rfl⟩ hl.1 rfl rfl (Nat.le_of_ble_eq_true rfl) dX4_init_20 ⟨Nat.le_of_ble_eq_true rfl, Nat.le_of_ble_eq_true rfl⟩ (fun u H locs hw hP hD hS => ?_)
  obtain ⟨q_9, rfl⟩ : ∃ z, z = u := ⟨_, rfl⟩
  have hP : va_P D vwCl [(h, .inr (4, [.ref q1, .null, .null, .null, .null, .null, .int 0, .int 0, .int 0])), (q1, .inr (7, [.int 0, .ref q0_2, .ref q1_3, .int 0, .ref q2_4, .ref q3_5, .int 0, .ref q4_6, .ref q5_7, .int 0, .int 0, .int 0])), (q0_2, .inl (cI, 5, .inl (fun _ => 0))), (q1_3, .inl (cI, 5, .inl (fun _ => 0))), (q2_4, .inl (cI, 6, .inl (fun _ => 0))), (q3_5, .inl (cI, 6, .inl (fun _ => 0))), (q4_6, .inl (cI, 4, .inl (fun _ => 0))), (q5_7, .inl (cI, 4, .inl (fun _ => 0))), (q8, .inr (1, [.int 0, .ref q_9])), (q_9, .inl (cI, 6, .inl (fun _ => 0)))] H := hP
  have hD : va_D A [(h, .inr (4, [.ref q1, .null, .null, .null, .null, .null, .int 0, .int 0, .int 0])), (q1, .inr (7, [.int 0, .ref q0_2, .ref q1_3, .int 0, .ref q2_4, .ref q3_5, .int 0, .ref q4_6, .ref q5_7, .int 0, .int 0, .int 0])), (q0_2, .inl (cI, 5, .inl (fun _ => 0))), (q1_3, .inl (cI, 5, .inl (fun _ => 0))), (q2_4, .inl (cI, 6, .inl (fun _ => 0))), (q3_5, .inl (cI, 6, .inl (fun _ => 0))), (q4_6, .inl (cI, 4, .inl (fun _ => 0))), (q5_7, .inl (cI, 4, .inl (fun _ => 0))), (q8, .inr (1, [.int 0, .ref q_9])), (q_9, .inl (cI, 6, .inl (fun _ => 0)))] := hD
  refine W.eq (g2 := F0 m 23 ls [.ref q8, .ref h]) rfl ?_
  refine va_put (D := D) (ci := 4) (v := .ref q8) (ty := (.object "ClapBank$Dark")) (C := RX4) (T := TX4) (N := 9) hx hb hts (fun _ h => List.mem_cons_of_mem _ (List.mem_append_left _ (List.mem_append_right _ h))) tyX4 tyX4_ok nmX4 hown hK.1 hP hD hS 0 rfl rfl 1 (by decide) (hts (.fieldLink RX4 21 "ClapBank$Hearing" "dark" "LClapBank$Dark;") (List.mem_of_getElem? (i := 11) rfl)) (fun _ h9 => h9) rfl (by decide +kernel) rfl rfl (Nat.le_of_ble_eq_true rfl) dX4_init_23 (fun H locs hP hD hS => ?_)
  have hP : va_P D vwCl [(h, .inr (4, [.ref q1, .ref q8, .null, .null, .null, .null, .int 0, .int 0, .int 0])), (q1, .inr (7, [.int 0, .ref q0_2, .ref q1_3, .int 0, .ref q2_4, .ref q3_5, .int 0, .ref q4_6, .ref q5_7, .int 0, .int 0, .int 0])), (q0_2, .inl (cI, 5, .inl (fun _ => 0))), (q1_3, .inl (cI, 5, .inl (fun _ => 0))), (q2_4, .inl (cI, 6, .inl (fun _ => 0))), (q3_5, .inl (cI, 6, .inl (fun _ => 0))), (q4_6, .inl (cI, 4, .inl (fun _ => 0))), (q5_7, .inl (cI, 4, .inl (fun _ => 0))), (q8, .inr (1, [.int 0, .ref q_9])), (q_9, .inl (cI, 6, .inl (fun _ => 0)))] H := hP
  have hD : va_D A [(h, .inr (4, [.ref q1, .ref q8, .null, .null, .null, .null, .int 0, .int 0, .int 0])), (q1, .inr (7, [.int 0, .ref q0_2, .ref q1_3, .int 0, .ref q2_4, .ref q3_5, .int 0, .ref q4_6, .ref q5_7, .int 0, .int 0, .int 0])), (q0_2, .inl (cI, 5, .inl (fun _ => 0))), (q1_3, .inl (cI, 5, .inl (fun _ => 0))), (q2_4, .inl (cI, 6, .inl (fun _ => 0))), (q3_5, .inl (cI, 6, .inl (fun _ => 0))), (q4_6, .inl (cI, 4, .inl (fun _ => 0))), (q5_7, .inl (cI, 4, .inl (fun _ => 0))), (q8, .inr (1, [.int 0, .ref q_9])), (q_9, .inl (cI, 6, .inl (fun _ => 0)))] := hD
  refine lv_aload_n hx hb dX4_init_26 rfl (lv_at hl 0 rfl) ?_
  refine lv_sipush (v := 1024) hx hb dX4_init_27 (by decide) ?_
  refine va_newa (atype := .int) (a0 := (1024, .inl (fun _ => 0))) (N' := 1024) (ty := .int) hx hb (hts (.arrayClass .int) (List.mem_of_getElem? (i := 12) rfl)) rfl hK.1 hP hD hS hA (fun _ => rfl) (by decide) (by decide) (Nat.le_of_ble_eq_true rfl) (Nat.le_of_ble_eq_true rfl) (Nat.le_of_ble_eq_true rfl) dX4_init_30 (fun q10 cA H hK9 hP hD hS => ?_)
  have ec := kk_i hK9; subst ec; clear hK9
  have hP : va_P D vwCl [(h, .inr (4, [.ref q1, .ref q8, .null, .null, .null, .null, .int 0, .int 0, .int 0])), (q1, .inr (7, [.int 0, .ref q0_2, .ref q1_3, .int 0, .ref q2_4, .ref q3_5, .int 0, .ref q4_6, .ref q5_7, .int 0, .int 0, .int 0])), (q0_2, .inl (cI, 5, .inl (fun _ => 0))), (q1_3, .inl (cI, 5, .inl (fun _ => 0))), (q2_4, .inl (cI, 6, .inl (fun _ => 0))), (q3_5, .inl (cI, 6, .inl (fun _ => 0))), (q4_6, .inl (cI, 4, .inl (fun _ => 0))), (q5_7, .inl (cI, 4, .inl (fun _ => 0))), (q8, .inr (1, [.int 0, .ref q_9])), (q_9, .inl (cI, 6, .inl (fun _ => 0))), (q10, .inl (cI, 1024, .inl (fun _ => 0)))] H := hP
  have hD : va_D A [(h, .inr (4, [.ref q1, .ref q8, .null, .null, .null, .null, .int 0, .int 0, .int 0])), (q1, .inr (7, [.int 0, .ref q0_2, .ref q1_3, .int 0, .ref q2_4, .ref q3_5, .int 0, .ref q4_6, .ref q5_7, .int 0, .int 0, .int 0])), (q0_2, .inl (cI, 5, .inl (fun _ => 0))), (q1_3, .inl (cI, 5, .inl (fun _ => 0))), (q2_4, .inl (cI, 6, .inl (fun _ => 0))), (q3_5, .inl (cI, 6, .inl (fun _ => 0))), (q4_6, .inl (cI, 4, .inl (fun _ => 0))), (q5_7, .inl (cI, 4, .inl (fun _ => 0))), (q8, .inr (1, [.int 0, .ref q_9])), (q_9, .inl (cI, 6, .inl (fun _ => 0))), (q10, .inl (cI, 1024, .inl (fun _ => 0)))] := hD
  refine va_putF (D := D) (ci := 4) (v := .ref q10) (ty := (.array .int)) (C := RX4) (T := TX4) (N := 9) hx hb hts (fun _ h => List.mem_cons_of_mem _ (List.mem_append_left _ (List.mem_append_right _ h))) tyX4 tyX4_ok nmX4 hown hK.1 hP hD hS 0 rfl rfl 2 (by decide) (hts (.fieldLink RX4 25 "ClapBank$Hearing" "early" "[I") (List.mem_of_getElem? (i := 13) rfl)) (fun _ h9 => h9) rfl hname rfl (by decide +kernel) rfl rfl (Nat.le_of_ble_eq_true rfl) dX4_init_32 (fun H locs hP hD hS => ?_)
  have hP : va_P D vwCl [(h, .inr (4, [.ref q1, .ref q8, .ref q10, .null, .null, .null, .int 0, .int 0, .int 0])), (q1, .inr (7, [.int 0, .ref q0_2, .ref q1_3, .int 0, .ref q2_4, .ref q3_5, .int 0, .ref q4_6, .ref q5_7, .int 0, .int 0, .int 0])), (q0_2, .inl (cI, 5, .inl (fun _ => 0))), (q1_3, .inl (cI, 5, .inl (fun _ => 0))), (q2_4, .inl (cI, 6, .inl (fun _ => 0))), (q3_5, .inl (cI, 6, .inl (fun _ => 0))), (q4_6, .inl (cI, 4, .inl (fun _ => 0))), (q5_7, .inl (cI, 4, .inl (fun _ => 0))), (q8, .inr (1, [.int 0, .ref q_9])), (q_9, .inl (cI, 6, .inl (fun _ => 0))), (q10, .inl (cI, 1024, .inl (fun _ => 0)))] H := hP
  have hD : va_D A [(h, .inr (4, [.ref q1, .ref q8, .ref q10, .null, .null, .null, .int 0, .int 0, .int 0])), (q1, .inr (7, [.int 0, .ref q0_2, .ref q1_3, .int 0, .ref q2_4, .ref q3_5, .int 0, .ref q4_6, .ref q5_7, .int 0, .int 0, .int 0])), (q0_2, .inl (cI, 5, .inl (fun _ => 0))), (q1_3, .inl (cI, 5, .inl (fun _ => 0))), (q2_4, .inl (cI, 6, .inl (fun _ => 0))), (q3_5, .inl (cI, 6, .inl (fun _ => 0))), (q4_6, .inl (cI, 4, .inl (fun _ => 0))), (q5_7, .inl (cI, 4, .inl (fun _ => 0))), (q8, .inr (1, [.int 0, .ref q_9])), (q_9, .inl (cI, 6, .inl (fun _ => 0))), (q10, .inl (cI, 1024, .inl (fun _ => 0)))] := hD
  refine lv_aload_n hx hb dX4_init_35 rfl (lv_at hl 0 rfl) ?_
  refine lv_sipush (v := 1024) hx hb dX4_init_36 (by decide) ?_
  refine va_newa (atype := .int) (a0 := (1024, .inl (fun _ => 0))) (N' := 1024) (ty := .int) hx hb (hts (.arrayClass .int) (List.mem_of_getElem? (i := 12) rfl)) rfl hK.1 hP hD hS hA (fun _ => rfl) (by decide) (by decide) (Nat.le_of_ble_eq_true rfl) (Nat.le_of_ble_eq_true rfl) (Nat.le_of_ble_eq_true rfl) dX4_init_39 (fun q11 cA H hK9 hP hD hS => ?_)
  have ec := kk_i hK9; subst ec; clear hK9
  have hP : va_P D vwCl [(h, .inr (4, [.ref q1, .ref q8, .ref q10, .null, .null, .null, .int 0, .int 0, .int 0])), (q1, .inr (7, [.int 0, .ref q0_2, .ref q1_3, .int 0, .ref q2_4, .ref q3_5, .int 0, .ref q4_6, .ref q5_7, .int 0, .int 0, .int 0])), (q0_2, .inl (cI, 5, .inl (fun _ => 0))), (q1_3, .inl (cI, 5, .inl (fun _ => 0))), (q2_4, .inl (cI, 6, .inl (fun _ => 0))), (q3_5, .inl (cI, 6, .inl (fun _ => 0))), (q4_6, .inl (cI, 4, .inl (fun _ => 0))), (q5_7, .inl (cI, 4, .inl (fun _ => 0))), (q8, .inr (1, [.int 0, .ref q_9])), (q_9, .inl (cI, 6, .inl (fun _ => 0))), (q10, .inl (cI, 1024, .inl (fun _ => 0))), (q11, .inl (cI, 1024, .inl (fun _ => 0)))] H := hP
  have hD : va_D A [(h, .inr (4, [.ref q1, .ref q8, .ref q10, .null, .null, .null, .int 0, .int 0, .int 0])), (q1, .inr (7, [.int 0, .ref q0_2, .ref q1_3, .int 0, .ref q2_4, .ref q3_5, .int 0, .ref q4_6, .ref q5_7, .int 0, .int 0, .int 0])), (q0_2, .inl (cI, 5, .inl (fun _ => 0))), (q1_3, .inl (cI, 5, .inl (fun _ => 0))), (q2_4, .inl (cI, 6, .inl (fun _ => 0))), (q3_5, .inl (cI, 6, .inl (fun _ => 0))), (q4_6, .inl (cI, 4, .inl (fun _ => 0))), (q5_7, .inl (cI, 4, .inl (fun _ => 0))), (q8, .inr (1, [.int 0, .ref q_9])), (q_9, .inl (cI, 6, .inl (fun _ => 0))), (q10, .inl (cI, 1024, .inl (fun _ => 0))), (q11, .inl (cI, 1024, .inl (fun _ => 0)))] := hD
  refine va_putF (D := D) (ci := 4) (v := .ref q11) (ty := (.array .int)) (C := RX4) (T := TX4) (N := 9) hx hb hts (fun _ h => List.mem_cons_of_mem _ (List.mem_append_left _ (List.mem_append_right _ h))) tyX4 tyX4_ok nmX4 hown hK.1 hP hD hS 0 rfl rfl 3 (by decide) (hts (.fieldLink RX4 29 "ClapBank$Hearing" "late" "[I") (List.mem_of_getElem? (i := 14) rfl)) (fun _ h9 => h9) rfl hname rfl (by decide +kernel) rfl rfl (Nat.le_of_ble_eq_true rfl) dX4_init_41 (fun H locs hP hD hS => ?_)
  have hP : va_P D vwCl [(h, .inr (4, [.ref q1, .ref q8, .ref q10, .ref q11, .null, .null, .int 0, .int 0, .int 0])), (q1, .inr (7, [.int 0, .ref q0_2, .ref q1_3, .int 0, .ref q2_4, .ref q3_5, .int 0, .ref q4_6, .ref q5_7, .int 0, .int 0, .int 0])), (q0_2, .inl (cI, 5, .inl (fun _ => 0))), (q1_3, .inl (cI, 5, .inl (fun _ => 0))), (q2_4, .inl (cI, 6, .inl (fun _ => 0))), (q3_5, .inl (cI, 6, .inl (fun _ => 0))), (q4_6, .inl (cI, 4, .inl (fun _ => 0))), (q5_7, .inl (cI, 4, .inl (fun _ => 0))), (q8, .inr (1, [.int 0, .ref q_9])), (q_9, .inl (cI, 6, .inl (fun _ => 0))), (q10, .inl (cI, 1024, .inl (fun _ => 0))), (q11, .inl (cI, 1024, .inl (fun _ => 0)))] H := hP
  have hD : va_D A [(h, .inr (4, [.ref q1, .ref q8, .ref q10, .ref q11, .null, .null, .int 0, .int 0, .int 0])), (q1, .inr (7, [.int 0, .ref q0_2, .ref q1_3, .int 0, .ref q2_4, .ref q3_5, .int 0, .ref q4_6, .ref q5_7, .int 0, .int 0, .int 0])), (q0_2, .inl (cI, 5, .inl (fun _ => 0))), (q1_3, .inl (cI, 5, .inl (fun _ => 0))), (q2_4, .inl (cI, 6, .inl (fun _ => 0))), (q3_5, .inl (cI, 6, .inl (fun _ => 0))), (q4_6, .inl (cI, 4, .inl (fun _ => 0))), (q5_7, .inl (cI, 4, .inl (fun _ => 0))), (q8, .inr (1, [.int 0, .ref q_9])), (q_9, .inl (cI, 6, .inl (fun _ => 0))), (q10, .inl (cI, 1024, .inl (fun _ => 0))), (q11, .inl (cI, 1024, .inl (fun _ => 0)))] := hD
  refine lv_aload_n hx hb dX4_init_44 rfl (lv_at hl 0 rfl) ?_
  refine lv_bipush (v := 32) hx hb dX4_init_45 (by decide) ?_
  refine va_newa (atype := .int) (a0 := (32, .inl (fun _ => 0))) (N' := 32) (ty := .int) hx hb (hts (.arrayClass .int) (List.mem_of_getElem? (i := 12) rfl)) rfl hK.1 hP hD hS hA (fun _ => rfl) (by decide) (by decide) (Nat.le_of_ble_eq_true rfl) (Nat.le_of_ble_eq_true rfl) (Nat.le_of_ble_eq_true rfl) dX4_init_47 (fun q12 cA H hK9 hP hD hS => ?_)
  have ec := kk_i hK9; subst ec; clear hK9
  have hP : va_P D vwCl [(h, .inr (4, [.ref q1, .ref q8, .ref q10, .ref q11, .null, .null, .int 0, .int 0, .int 0])), (q1, .inr (7, [.int 0, .ref q0_2, .ref q1_3, .int 0, .ref q2_4, .ref q3_5, .int 0, .ref q4_6, .ref q5_7, .int 0, .int 0, .int 0])), (q0_2, .inl (cI, 5, .inl (fun _ => 0))), (q1_3, .inl (cI, 5, .inl (fun _ => 0))), (q2_4, .inl (cI, 6, .inl (fun _ => 0))), (q3_5, .inl (cI, 6, .inl (fun _ => 0))), (q4_6, .inl (cI, 4, .inl (fun _ => 0))), (q5_7, .inl (cI, 4, .inl (fun _ => 0))), (q8, .inr (1, [.int 0, .ref q_9])), (q_9, .inl (cI, 6, .inl (fun _ => 0))), (q10, .inl (cI, 1024, .inl (fun _ => 0))), (q11, .inl (cI, 1024, .inl (fun _ => 0))), (q12, .inl (cI, 32, .inl (fun _ => 0)))] H := hP
  have hD : va_D A [(h, .inr (4, [.ref q1, .ref q8, .ref q10, .ref q11, .null, .null, .int 0, .int 0, .int 0])), (q1, .inr (7, [.int 0, .ref q0_2, .ref q1_3, .int 0, .ref q2_4, .ref q3_5, .int 0, .ref q4_6, .ref q5_7, .int 0, .int 0, .int 0])), (q0_2, .inl (cI, 5, .inl (fun _ => 0))), (q1_3, .inl (cI, 5, .inl (fun _ => 0))), (q2_4, .inl (cI, 6, .inl (fun _ => 0))), (q3_5, .inl (cI, 6, .inl (fun _ => 0))), (q4_6, .inl (cI, 4, .inl (fun _ => 0))), (q5_7, .inl (cI, 4, .inl (fun _ => 0))), (q8, .inr (1, [.int 0, .ref q_9])), (q_9, .inl (cI, 6, .inl (fun _ => 0))), (q10, .inl (cI, 1024, .inl (fun _ => 0))), (q11, .inl (cI, 1024, .inl (fun _ => 0))), (q12, .inl (cI, 32, .inl (fun _ => 0)))] := hD
  refine va_putF (D := D) (ci := 4) (v := .ref q12) (ty := (.array .int)) (C := RX4) (T := TX4) (N := 9) hx hb hts (fun _ h => List.mem_cons_of_mem _ (List.mem_append_left _ (List.mem_append_right _ h))) tyX4 tyX4_ok nmX4 hown hK.1 hP hD hS 0 rfl rfl 4 (by decide) (hts (.fieldLink RX4 32 "ClapBank$Hearing" "halvesOf" "[I") (List.mem_of_getElem? (i := 15) rfl)) (fun _ h9 => h9) rfl hname rfl (by decide +kernel) rfl rfl (Nat.le_of_ble_eq_true rfl) dX4_init_49 (fun H locs hP hD hS => ?_)
  have hP : va_P D vwCl [(h, .inr (4, [.ref q1, .ref q8, .ref q10, .ref q11, .ref q12, .null, .int 0, .int 0, .int 0])), (q1, .inr (7, [.int 0, .ref q0_2, .ref q1_3, .int 0, .ref q2_4, .ref q3_5, .int 0, .ref q4_6, .ref q5_7, .int 0, .int 0, .int 0])), (q0_2, .inl (cI, 5, .inl (fun _ => 0))), (q1_3, .inl (cI, 5, .inl (fun _ => 0))), (q2_4, .inl (cI, 6, .inl (fun _ => 0))), (q3_5, .inl (cI, 6, .inl (fun _ => 0))), (q4_6, .inl (cI, 4, .inl (fun _ => 0))), (q5_7, .inl (cI, 4, .inl (fun _ => 0))), (q8, .inr (1, [.int 0, .ref q_9])), (q_9, .inl (cI, 6, .inl (fun _ => 0))), (q10, .inl (cI, 1024, .inl (fun _ => 0))), (q11, .inl (cI, 1024, .inl (fun _ => 0))), (q12, .inl (cI, 32, .inl (fun _ => 0)))] H := hP
  have hD : va_D A [(h, .inr (4, [.ref q1, .ref q8, .ref q10, .ref q11, .ref q12, .null, .int 0, .int 0, .int 0])), (q1, .inr (7, [.int 0, .ref q0_2, .ref q1_3, .int 0, .ref q2_4, .ref q3_5, .int 0, .ref q4_6, .ref q5_7, .int 0, .int 0, .int 0])), (q0_2, .inl (cI, 5, .inl (fun _ => 0))), (q1_3, .inl (cI, 5, .inl (fun _ => 0))), (q2_4, .inl (cI, 6, .inl (fun _ => 0))), (q3_5, .inl (cI, 6, .inl (fun _ => 0))), (q4_6, .inl (cI, 4, .inl (fun _ => 0))), (q5_7, .inl (cI, 4, .inl (fun _ => 0))), (q8, .inr (1, [.int 0, .ref q_9])), (q_9, .inl (cI, 6, .inl (fun _ => 0))), (q10, .inl (cI, 1024, .inl (fun _ => 0))), (q11, .inl (cI, 1024, .inl (fun _ => 0))), (q12, .inl (cI, 32, .inl (fun _ => 0)))] := hD
  refine lv_aload_n hx hb dX4_init_52 rfl (lv_at hl 0 rfl) ?_
  refine lv_bipush (v := 32) hx hb dX4_init_53 (by decide) ?_
  refine va_newa (atype := .int) (a0 := (32, .inl (fun _ => 0))) (N' := 32) (ty := .int) hx hb (hts (.arrayClass .int) (List.mem_of_getElem? (i := 12) rfl)) rfl hK.1 hP hD hS hA (fun _ => rfl) (by decide) (by decide) (Nat.le_of_ble_eq_true rfl) (Nat.le_of_ble_eq_true rfl) (Nat.le_of_ble_eq_true rfl) dX4_init_55 (fun q13 cA H hK9 hP hD hS => ?_)
  have ec := kk_i hK9; subst ec; clear hK9
  have hP : va_P D vwCl [(h, .inr (4, [.ref q1, .ref q8, .ref q10, .ref q11, .ref q12, .null, .int 0, .int 0, .int 0])), (q1, .inr (7, [.int 0, .ref q0_2, .ref q1_3, .int 0, .ref q2_4, .ref q3_5, .int 0, .ref q4_6, .ref q5_7, .int 0, .int 0, .int 0])), (q0_2, .inl (cI, 5, .inl (fun _ => 0))), (q1_3, .inl (cI, 5, .inl (fun _ => 0))), (q2_4, .inl (cI, 6, .inl (fun _ => 0))), (q3_5, .inl (cI, 6, .inl (fun _ => 0))), (q4_6, .inl (cI, 4, .inl (fun _ => 0))), (q5_7, .inl (cI, 4, .inl (fun _ => 0))), (q8, .inr (1, [.int 0, .ref q_9])), (q_9, .inl (cI, 6, .inl (fun _ => 0))), (q10, .inl (cI, 1024, .inl (fun _ => 0))), (q11, .inl (cI, 1024, .inl (fun _ => 0))), (q12, .inl (cI, 32, .inl (fun _ => 0))), (q13, .inl (cI, 32, .inl (fun _ => 0)))] H := hP
  have hD : va_D A [(h, .inr (4, [.ref q1, .ref q8, .ref q10, .ref q11, .ref q12, .null, .int 0, .int 0, .int 0])), (q1, .inr (7, [.int 0, .ref q0_2, .ref q1_3, .int 0, .ref q2_4, .ref q3_5, .int 0, .ref q4_6, .ref q5_7, .int 0, .int 0, .int 0])), (q0_2, .inl (cI, 5, .inl (fun _ => 0))), (q1_3, .inl (cI, 5, .inl (fun _ => 0))), (q2_4, .inl (cI, 6, .inl (fun _ => 0))), (q3_5, .inl (cI, 6, .inl (fun _ => 0))), (q4_6, .inl (cI, 4, .inl (fun _ => 0))), (q5_7, .inl (cI, 4, .inl (fun _ => 0))), (q8, .inr (1, [.int 0, .ref q_9])), (q_9, .inl (cI, 6, .inl (fun _ => 0))), (q10, .inl (cI, 1024, .inl (fun _ => 0))), (q11, .inl (cI, 1024, .inl (fun _ => 0))), (q12, .inl (cI, 32, .inl (fun _ => 0))), (q13, .inl (cI, 32, .inl (fun _ => 0)))] := hD
  refine va_putF (D := D) (ci := 4) (v := .ref q13) (ty := (.array .int)) (C := RX4) (T := TX4) (N := 9) hx hb hts (fun _ h => List.mem_cons_of_mem _ (List.mem_append_left _ (List.mem_append_right _ h))) tyX4 tyX4_ok nmX4 hown hK.1 hP hD hS 0 rfl rfl 5 (by decide) (hts (.fieldLink RX4 35 "ClapBank$Hearing" "onceOf" "[I") (List.mem_of_getElem? (i := 16) rfl)) (fun _ h9 => h9) rfl hname rfl (by decide +kernel) rfl rfl (Nat.le_of_ble_eq_true rfl) dX4_init_57 (fun H locs hP hD hS => ?_)
  have hP : va_P D vwCl [(h, .inr (4, [.ref q1, .ref q8, .ref q10, .ref q11, .ref q12, .ref q13, .int 0, .int 0, .int 0])), (q1, .inr (7, [.int 0, .ref q0_2, .ref q1_3, .int 0, .ref q2_4, .ref q3_5, .int 0, .ref q4_6, .ref q5_7, .int 0, .int 0, .int 0])), (q0_2, .inl (cI, 5, .inl (fun _ => 0))), (q1_3, .inl (cI, 5, .inl (fun _ => 0))), (q2_4, .inl (cI, 6, .inl (fun _ => 0))), (q3_5, .inl (cI, 6, .inl (fun _ => 0))), (q4_6, .inl (cI, 4, .inl (fun _ => 0))), (q5_7, .inl (cI, 4, .inl (fun _ => 0))), (q8, .inr (1, [.int 0, .ref q_9])), (q_9, .inl (cI, 6, .inl (fun _ => 0))), (q10, .inl (cI, 1024, .inl (fun _ => 0))), (q11, .inl (cI, 1024, .inl (fun _ => 0))), (q12, .inl (cI, 32, .inl (fun _ => 0))), (q13, .inl (cI, 32, .inl (fun _ => 0)))] H := hP
  have hD : va_D A [(h, .inr (4, [.ref q1, .ref q8, .ref q10, .ref q11, .ref q12, .ref q13, .int 0, .int 0, .int 0])), (q1, .inr (7, [.int 0, .ref q0_2, .ref q1_3, .int 0, .ref q2_4, .ref q3_5, .int 0, .ref q4_6, .ref q5_7, .int 0, .int 0, .int 0])), (q0_2, .inl (cI, 5, .inl (fun _ => 0))), (q1_3, .inl (cI, 5, .inl (fun _ => 0))), (q2_4, .inl (cI, 6, .inl (fun _ => 0))), (q3_5, .inl (cI, 6, .inl (fun _ => 0))), (q4_6, .inl (cI, 4, .inl (fun _ => 0))), (q5_7, .inl (cI, 4, .inl (fun _ => 0))), (q8, .inr (1, [.int 0, .ref q_9])), (q_9, .inl (cI, 6, .inl (fun _ => 0))), (q10, .inl (cI, 1024, .inl (fun _ => 0))), (q11, .inl (cI, 1024, .inl (fun _ => 0))), (q12, .inl (cI, 32, .inl (fun _ => 0))), (q13, .inl (cI, 32, .inl (fun _ => 0)))] := hD
  refine W.widen (k := 13) (n := 2162) (Nat.le_of_ble_eq_true rfl) (Nat.le_of_ble_eq_true rfl) ?_
  exact ro_v hx hb hr hlocks () rfl trivial (hP.sub [] rfl) (hD.sub [] (by decide) rfl) hS dX4_init_60
end
