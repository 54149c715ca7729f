section
-- ===== PART A: goes FIRST, ahead of the names: the tables' words, and 'selects' of the private methods out of them =====
/-- a private method of a class that the tables say can be made, by its rows of tables_1 -/
def lw_okq (q : MethodName × Nat) : Prop := (q.1.cls ≠ "java/lang/invoke/MethodHandle" ∧ q.1.cls ≠ "java/lang/invoke/VarHandle") ∧ Cond.instantiable q.1.cls q.2 ∈ tables_1 ∧ Cond.privateMethod q.1 ∈ tables_1 ∧ Cond.instanceMethod q.1 ∈ tables_1
theorem lw_p0 : lw_okq (⟨"OwnBirthdays$LandReader", "skipBlanks", "()V"⟩, 8) := ⟨⟨by decide +kernel, by decide +kernel⟩, List.mem_of_getElem? (i := 28) (by decide +kernel), List.mem_of_getElem? (i := 347) (by decide +kernel), List.mem_of_getElem? (i := 348) (by decide +kernel)⟩
theorem lw_p1 : lw_okq (⟨"OwnBirthdays$LandReader", "readClause", "()V"⟩, 8) := ⟨⟨by decide +kernel, by decide +kernel⟩, List.mem_of_getElem? (i := 28) (by decide +kernel), List.mem_of_getElem? (i := 351) (by decide +kernel), List.mem_of_getElem? (i := 352) (by decide +kernel)⟩
theorem lw_p2 : lw_okq (⟨"OwnBirthdays$LandReader", "skipLetters", "()V"⟩, 8) := ⟨⟨by decide +kernel, by decide +kernel⟩, List.mem_of_getElem? (i := 28) (by decide +kernel), List.mem_of_getElem? (i := 355) (by decide +kernel), List.mem_of_getElem? (i := 356) (by decide +kernel)⟩
theorem lw_p3 : lw_okq (⟨"OwnBirthdays$LandReader", "isWord", "(ILjava/lang/String;)Z"⟩, 8) := ⟨⟨by decide +kernel, by decide +kernel⟩, List.mem_of_getElem? (i := 28) (by decide +kernel), List.mem_of_getElem? (i := 360) (by decide +kernel), List.mem_of_getElem? (i := 361) (by decide +kernel)⟩
theorem lw_p4 : lw_okq (⟨"OwnBirthdays$LandReader", "readYear", "(I)V"⟩, 8) := ⟨⟨by decide +kernel, by decide +kernel⟩, List.mem_of_getElem? (i := 28) (by decide +kernel), List.mem_of_getElem? (i := 412) (by decide +kernel), List.mem_of_getElem? (i := 413) (by decide +kernel)⟩
theorem lw_p5 : lw_okq (⟨"OwnBirthdays$LandReader", "setFault", "(II)V"⟩, 8) := ⟨⟨by decide +kernel, by decide +kernel⟩, List.mem_of_getElem? (i := 28) (by decide +kernel), List.mem_of_getElem? (i := 420) (by decide +kernel), List.mem_of_getElem? (i := 421) (by decide +kernel)⟩
theorem lw_p6 : lw_okq (⟨"OwnBirthdays$LandReader", "readNumber", "(II)I"⟩, 8) := ⟨⟨by decide +kernel, by decide +kernel⟩, List.mem_of_getElem? (i := 28) (by decide +kernel), List.mem_of_getElem? (i := 424) (by decide +kernel), List.mem_of_getElem? (i := 425) (by decide +kernel)⟩
theorem lw_p7 : lw_okq (⟨"OwnBirthdays$LandReader", "readEnd", "()V"⟩, 8) := ⟨⟨by decide +kernel, by decide +kernel⟩, List.mem_of_getElem? (i := 28) (by decide +kernel), List.mem_of_getElem? (i := 432) (by decide +kernel), List.mem_of_getElem? (i := 433) (by decide +kernel)⟩
theorem lw_p8 : lw_okq (⟨"OwnBirthdays$LandReader", "readPerson", "(I)V"⟩, 8) := ⟨⟨by decide +kernel, by decide +kernel⟩, List.mem_of_getElem? (i := 28) (by decide +kernel), List.mem_of_getElem? (i := 437) (by decide +kernel), List.mem_of_getElem? (i := 438) (by decide +kernel)⟩
theorem lw_p9 : lw_okq (⟨"OwnBirthdays$LandReader", "readBirthday", "(I)V"⟩, 8) := ⟨⟨by decide +kernel, by decide +kernel⟩, List.mem_of_getElem? (i := 28) (by decide +kernel), List.mem_of_getElem? (i := 446) (by decide +kernel), List.mem_of_getElem? (i := 447) (by decide +kernel)⟩
theorem lw_p10 : lw_okq (⟨"OwnBirthdays$LandReader", "readGood", "(I)V"⟩, 8) := ⟨⟨by decide +kernel, by decide +kernel⟩, List.mem_of_getElem? (i := 28) (by decide +kernel), List.mem_of_getElem? (i := 455) (by decide +kernel), List.mem_of_getElem? (i := 456) (by decide +kernel)⟩
theorem lw_p11 : lw_okq (⟨"OwnBirthdays$State", "growOlder", "(II)V"⟩, 9) := ⟨⟨by decide +kernel, by decide +kernel⟩, List.mem_of_getElem? (i := 133) (by decide +kernel), List.mem_of_getElem? (i := 568) (by decide +kernel), List.mem_of_getElem? (i := 569) (by decide +kernel)⟩
theorem lw_p12 : lw_okq (⟨"OwnBirthdays$State", "endLoan", "(I)V"⟩, 9) := ⟨⟨by decide +kernel, by decide +kernel⟩, List.mem_of_getElem? (i := 133) (by decide +kernel), List.mem_of_getElem? (i := 572) (by decide +kernel), List.mem_of_getElem? (i := 573) (by decide +kernel)⟩
theorem lw_p13 : lw_okq (⟨"OwnBirthdays$State", "payOwner", "(III)V"⟩, 9) := ⟨⟨by decide +kernel, by decide +kernel⟩, List.mem_of_getElem? (i := 133) (by decide +kernel), List.mem_of_getElem? (i := 590) (by decide +kernel), List.mem_of_getElem? (i := 591) (by decide +kernel)⟩
theorem lw_p14 : lw_okq (⟨"OwnBirthdays$State", "youngestAlive", "()I"⟩, 9) := ⟨⟨by decide +kernel, by decide +kernel⟩, List.mem_of_getElem? (i := 133) (by decide +kernel), List.mem_of_getElem? (i := 610) (by decide +kernel), List.mem_of_getElem? (i := 611) (by decide +kernel)⟩
theorem lw_p15 : lw_okq (⟨"OwnBirthdays$CoinSearch", "freeFor", "(LOwnBirthdays$State;II)I"⟩, 4) := ⟨⟨by decide +kernel, by decide +kernel⟩, List.mem_of_getElem? (i := 203) (by decide +kernel), List.mem_of_getElem? (i := 644) (by decide +kernel), List.mem_of_getElem? (i := 645) (by decide +kernel)⟩
def lw_privs_1 : List (MethodName × Nat) := [(⟨"OwnBirthdays$LandReader", "skipBlanks", "()V"⟩, 8), (⟨"OwnBirthdays$LandReader", "readClause", "()V"⟩, 8), (⟨"OwnBirthdays$LandReader", "skipLetters", "()V"⟩, 8), (⟨"OwnBirthdays$LandReader", "isWord", "(ILjava/lang/String;)Z"⟩, 8), (⟨"OwnBirthdays$LandReader", "readYear", "(I)V"⟩, 8), (⟨"OwnBirthdays$LandReader", "setFault", "(II)V"⟩, 8), (⟨"OwnBirthdays$LandReader", "readNumber", "(II)I"⟩, 8), (⟨"OwnBirthdays$LandReader", "readEnd", "()V"⟩, 8), (⟨"OwnBirthdays$LandReader", "readPerson", "(I)V"⟩, 8), (⟨"OwnBirthdays$LandReader", "readBirthday", "(I)V"⟩, 8), (⟨"OwnBirthdays$LandReader", "readGood", "(I)V"⟩, 8), (⟨"OwnBirthdays$State", "growOlder", "(II)V"⟩, 9), (⟨"OwnBirthdays$State", "endLoan", "(I)V"⟩, 9), (⟨"OwnBirthdays$State", "payOwner", "(III)V"⟩, 9), (⟨"OwnBirthdays$State", "youngestAlive", "()I"⟩, 9), (⟨"OwnBirthdays$CoinSearch", "freeFor", "(LOwnBirthdays$State;II)I"⟩, 4)]
theorem lw_r1 : ∀ q ∈ lw_privs_1, lw_okq q := List.forall_mem_cons.mpr ⟨lw_p0, List.forall_mem_cons.mpr ⟨lw_p1, List.forall_mem_cons.mpr ⟨lw_p2, List.forall_mem_cons.mpr ⟨lw_p3, List.forall_mem_cons.mpr ⟨lw_p4, List.forall_mem_cons.mpr ⟨lw_p5, List.forall_mem_cons.mpr ⟨lw_p6, List.forall_mem_cons.mpr ⟨lw_p7, List.forall_mem_cons.mpr ⟨lw_p8, List.forall_mem_cons.mpr ⟨lw_p9, List.forall_mem_cons.mpr ⟨lw_p10, List.forall_mem_cons.mpr ⟨lw_p11, List.forall_mem_cons.mpr ⟨lw_p12, List.forall_mem_cons.mpr ⟨lw_p13, List.forall_mem_cons.mpr ⟨lw_p14, List.forall_mem_cons.mpr ⟨lw_p15, fun _ h => absurd h List.not_mem_nil⟩⟩⟩⟩⟩⟩⟩⟩⟩⟩⟩⟩⟩⟩⟩⟩
theorem lw_p16 : lw_okq (⟨"OwnBirthdays$Giving", "addUpYears", "(LOwnBirthdays$State;I)V"⟩, 7) := ⟨⟨by decide +kernel, by decide +kernel⟩, List.mem_of_getElem? (i := 238) (by decide +kernel), List.mem_of_getElem? (i := 709) (by decide +kernel), List.mem_of_getElem? (i := 710) (by decide +kernel)⟩
theorem lw_p17 : lw_okq (⟨"OwnBirthdays$Giving", "addUpRanks", "(LOwnBirthdays$State;I)V"⟩, 7) := ⟨⟨by decide +kernel, by decide +kernel⟩, List.mem_of_getElem? (i := 238) (by decide +kernel), List.mem_of_getElem? (i := 718) (by decide +kernel), List.mem_of_getElem? (i := 719) (by decide +kernel)⟩
theorem lw_p18 : lw_okq (⟨"OwnBirthdays$Giving", "findEnough", "(I)V"⟩, 7) := ⟨⟨by decide +kernel, by decide +kernel⟩, List.mem_of_getElem? (i := 238) (by decide +kernel), List.mem_of_getElem? (i := 722) (by decide +kernel), List.mem_of_getElem? (i := 723) (by decide +kernel)⟩
theorem lw_p19 : lw_okq (⟨"OwnBirthdays$Giving", "isJustEnough", "(II)Z"⟩, 7) := ⟨⟨by decide +kernel, by decide +kernel⟩, List.mem_of_getElem? (i := 238) (by decide +kernel), List.mem_of_getElem? (i := 726) (by decide +kernel), List.mem_of_getElem? (i := 727) (by decide +kernel)⟩
theorem lw_p20 : lw_okq (⟨"OwnBirthdays$Giving", "tryPerson", "(I)V"⟩, 7) := ⟨⟨by decide +kernel, by decide +kernel⟩, List.mem_of_getElem? (i := 238) (by decide +kernel), List.mem_of_getElem? (i := 730) (by decide +kernel), List.mem_of_getElem? (i := 731) (by decide +kernel)⟩
theorem lw_p21 : lw_okq (⟨"OwnBirthdays$Giving", "tryEnough", "(IIJ)V"⟩, 7) := ⟨⟨by decide +kernel, by decide +kernel⟩, List.mem_of_getElem? (i := 238) (by decide +kernel), List.mem_of_getElem? (i := 735) (by decide +kernel), List.mem_of_getElem? (i := 736) (by decide +kernel)⟩
theorem lw_p22 : lw_okq (⟨"OwnBirthdays$Giving", "leastOf", "(I)J"⟩, 7) := ⟨⟨by decide +kernel, by decide +kernel⟩, List.mem_of_getElem? (i := 238) (by decide +kernel), List.mem_of_getElem? (i := 742) (by decide +kernel), List.mem_of_getElem? (i := 743) (by decide +kernel)⟩
theorem lw_p23 : lw_okq (⟨"OwnBirthdays$Resting", "moveFirst", "(LOwnBirthdays$State;)Z"⟩, 3) := ⟨⟨by decide +kernel, by decide +kernel⟩, List.mem_of_getElem? (i := 266) (by decide +kernel), List.mem_of_getElem? (i := 771) (by decide +kernel), List.mem_of_getElem? (i := 772) (by decide +kernel)⟩
theorem lw_p24 : lw_okq (⟨"OwnBirthdays$Resting", "gainer", "(LOwnBirthdays$State;I)I"⟩, 3) := ⟨⟨by decide +kernel, by decide +kernel⟩, List.mem_of_getElem? (i := 266) (by decide +kernel), List.mem_of_getElem? (i := 775) (by decide +kernel), List.mem_of_getElem? (i := 776) (by decide +kernel)⟩
theorem lw_p25 : lw_okq (⟨"OwnBirthdays$State", "draw", "(I)I"⟩, 9) := ⟨⟨by decide +kernel, by decide +kernel⟩, List.mem_of_getElem? (i := 133) (by decide +kernel), List.mem_of_getElem? (i := 818) (by decide +kernel), List.mem_of_getElem? (i := 819) (by decide +kernel)⟩
theorem lw_p26 : lw_okq (⟨"OwnBirthdays$State", "sellByDraws", "()V"⟩, 9) := ⟨⟨by decide +kernel, by decide +kernel⟩, List.mem_of_getElem? (i := 133) (by decide +kernel), List.mem_of_getElem? (i := 827) (by decide +kernel), List.mem_of_getElem? (i := 828) (by decide +kernel)⟩
theorem lw_p27 : lw_okq (⟨"OwnBirthdays", "imageOf", "(I)LOwnBirthdays$State;"⟩, 12) := ⟨⟨by decide +kernel, by decide +kernel⟩, List.mem_of_getElem? (i := 20) (by decide +kernel), List.mem_of_getElem? (i := 842) (by decide +kernel), List.mem_of_getElem? (i := 843) (by decide +kernel)⟩
theorem lw_p28 : lw_okq (⟨"OwnBirthdaysModel", "here", "()I"⟩, 48) := ⟨⟨by decide +kernel, by decide +kernel⟩, List.mem_of_getElem? (i := 854) (by decide +kernel), List.mem_of_getElem? (i := 1025) (by decide +kernel), List.mem_of_getElem? (i := 1026) (by decide +kernel)⟩
theorem lw_p29 : lw_okq (⟨"OwnBirthdaysModel", "takeClause", "()I"⟩, 48) := ⟨⟨by decide +kernel, by decide +kernel⟩, List.mem_of_getElem? (i := 854) (by decide +kernel), List.mem_of_getElem? (i := 1029) (by decide +kernel), List.mem_of_getElem? (i := 1030) (by decide +kernel)⟩
theorem lw_p30 : lw_okq (⟨"OwnBirthdaysModel", "readWord", "()V"⟩, 48) := ⟨⟨by decide +kernel, by decide +kernel⟩, List.mem_of_getElem? (i := 854) (by decide +kernel), List.mem_of_getElem? (i := 1033) (by decide +kernel), List.mem_of_getElem? (i := 1034) (by decide +kernel)⟩
theorem lw_p31 : lw_okq (⟨"OwnBirthdaysModel", "fails", "(II)I"⟩, 48) := ⟨⟨by decide +kernel, by decide +kernel⟩, List.mem_of_getElem? (i := 854) (by decide +kernel), List.mem_of_getElem? (i := 1051) (by decide +kernel), List.mem_of_getElem? (i := 1052) (by decide +kernel)⟩
def lw_privs_2 : List (MethodName × Nat) := [(⟨"OwnBirthdays$Giving", "addUpYears", "(LOwnBirthdays$State;I)V"⟩, 7), (⟨"OwnBirthdays$Giving", "addUpRanks", "(LOwnBirthdays$State;I)V"⟩, 7), (⟨"OwnBirthdays$Giving", "findEnough", "(I)V"⟩, 7), (⟨"OwnBirthdays$Giving", "isJustEnough", "(II)Z"⟩, 7), (⟨"OwnBirthdays$Giving", "tryPerson", "(I)V"⟩, 7), (⟨"OwnBirthdays$Giving", "tryEnough", "(IIJ)V"⟩, 7), (⟨"OwnBirthdays$Giving", "leastOf", "(I)J"⟩, 7), (⟨"OwnBirthdays$Resting", "moveFirst", "(LOwnBirthdays$State;)Z"⟩, 3), (⟨"OwnBirthdays$Resting", "gainer", "(LOwnBirthdays$State;I)I"⟩, 3), (⟨"OwnBirthdays$State", "draw", "(I)I"⟩, 9), (⟨"OwnBirthdays$State", "sellByDraws", "()V"⟩, 9), (⟨"OwnBirthdays", "imageOf", "(I)LOwnBirthdays$State;"⟩, 12), (⟨"OwnBirthdaysModel", "here", "()I"⟩, 48), (⟨"OwnBirthdaysModel", "takeClause", "()I"⟩, 48), (⟨"OwnBirthdaysModel", "readWord", "()V"⟩, 48), (⟨"OwnBirthdaysModel", "fails", "(II)I"⟩, 48)]
theorem lw_r2 : ∀ q ∈ lw_privs_2, lw_okq q := List.forall_mem_cons.mpr ⟨lw_p16, List.forall_mem_cons.mpr ⟨lw_p17, List.forall_mem_cons.mpr ⟨lw_p18, List.forall_mem_cons.mpr ⟨lw_p19, List.forall_mem_cons.mpr ⟨lw_p20, List.forall_mem_cons.mpr ⟨lw_p21, List.forall_mem_cons.mpr ⟨lw_p22, List.forall_mem_cons.mpr ⟨lw_p23, List.forall_mem_cons.mpr ⟨lw_p24, List.forall_mem_cons.mpr ⟨lw_p25, List.forall_mem_cons.mpr ⟨lw_p26, List.forall_mem_cons.mpr ⟨lw_p27, List.forall_mem_cons.mpr ⟨lw_p28, List.forall_mem_cons.mpr ⟨lw_p29, List.forall_mem_cons.mpr ⟨lw_p30, List.forall_mem_cons.mpr ⟨lw_p31, fun _ h => absurd h List.not_mem_nil⟩⟩⟩⟩⟩⟩⟩⟩⟩⟩⟩⟩⟩⟩⟩⟩
theorem lw_p32 : lw_okq (⟨"OwnBirthdaysModel", "takeNumber", "(II)I"⟩, 48) := ⟨⟨by decide +kernel, by decide +kernel⟩, List.mem_of_getElem? (i := 854) (by decide +kernel), List.mem_of_getElem? (i := 1055) (by decide +kernel), List.mem_of_getElem? (i := 1056) (by decide +kernel)⟩
theorem lw_p33 : lw_okq (⟨"OwnBirthdaysModel", "takePerson", "()I"⟩, 48) := ⟨⟨by decide +kernel, by decide +kernel⟩, List.mem_of_getElem? (i := 854) (by decide +kernel), List.mem_of_getElem? (i := 1061) (by decide +kernel), List.mem_of_getElem? (i := 1062) (by decide +kernel)⟩
theorem lw_p34 : lw_okq (⟨"OwnBirthdaysModel", "into", "([IIII)I"⟩, 48) := ⟨⟨by decide +kernel, by decide +kernel⟩, List.mem_of_getElem? (i := 854) (by decide +kernel), List.mem_of_getElem? (i := 1065) (by decide +kernel), List.mem_of_getElem? (i := 1066) (by decide +kernel)⟩
theorem lw_p35 : lw_okq (⟨"OwnBirthdaysModel", "takeBirthday", "()I"⟩, 48) := ⟨⟨by decide +kernel, by decide +kernel⟩, List.mem_of_getElem? (i := 854) (by decide +kernel), List.mem_of_getElem? (i := 1069) (by decide +kernel), List.mem_of_getElem? (i := 1070) (by decide +kernel)⟩
theorem lw_p36 : lw_okq (⟨"OwnBirthdaysModel", "takeGood", "()I"⟩, 48) := ⟨⟨by decide +kernel, by decide +kernel⟩, List.mem_of_getElem? (i := 854) (by decide +kernel), List.mem_of_getElem? (i := 1073) (by decide +kernel), List.mem_of_getElem? (i := 1074) (by decide +kernel)⟩
theorem lw_p37 : lw_okq (⟨"OwnBirthdaysModel", "alive", "()I"⟩, 48) := ⟨⟨by decide +kernel, by decide +kernel⟩, List.mem_of_getElem? (i := 854) (by decide +kernel), List.mem_of_getElem? (i := 1086) (by decide +kernel), List.mem_of_getElem? (i := 1087) (by decide +kernel)⟩
theorem lw_p38 : lw_okq (⟨"OwnBirthdaysModel", "lentSet", "()I"⟩, 48) := ⟨⟨by decide +kernel, by decide +kernel⟩, List.mem_of_getElem? (i := 854) (by decide +kernel), List.mem_of_getElem? (i := 1090) (by decide +kernel), List.mem_of_getElem? (i := 1091) (by decide +kernel)⟩
theorem lw_p39 : lw_okq (⟨"OwnBirthdaysModel", "isPerson", "(I)Z"⟩, 48) := ⟨⟨by decide +kernel, by decide +kernel⟩, List.mem_of_getElem? (i := 854) (by decide +kernel), List.mem_of_getElem? (i := 1098) (by decide +kernel), List.mem_of_getElem? (i := 1099) (by decide +kernel)⟩
theorem lw_p40 : lw_okq (⟨"OwnBirthdaysModel", "ownedBy", "(I)I"⟩, 48) := ⟨⟨by decide +kernel, by decide +kernel⟩, List.mem_of_getElem? (i := 854) (by decide +kernel), List.mem_of_getElem? (i := 1103) (by decide +kernel), List.mem_of_getElem? (i := 1104) (by decide +kernel)⟩
theorem lw_p41 : lw_okq (⟨"OwnBirthdaysModel", "usedBy", "(I)I"⟩, 48) := ⟨⟨by decide +kernel, by decide +kernel⟩, List.mem_of_getElem? (i := 854) (by decide +kernel), List.mem_of_getElem? (i := 1107) (by decide +kernel), List.mem_of_getElem? (i := 1108) (by decide +kernel)⟩
theorem lw_p42 : lw_okq (⟨"OwnBirthdaysModel", "userOf", "(I)I"⟩, 48) := ⟨⟨by decide +kernel, by decide +kernel⟩, List.mem_of_getElem? (i := 854) (by decide +kernel), List.mem_of_getElem? (i := 1111) (by decide +kernel), List.mem_of_getElem? (i := 1112) (by decide +kernel)⟩
theorem lw_p43 : lw_okq (⟨"OwnBirthdaysModel", "isBirthday", "(I)Z"⟩, 48) := ⟨⟨by decide +kernel, by decide +kernel⟩, List.mem_of_getElem? (i := 854) (by decide +kernel), List.mem_of_getElem? (i := 1119) (by decide +kernel), List.mem_of_getElem? (i := 1120) (by decide +kernel)⟩
theorem lw_p44 : lw_okq (⟨"OwnBirthdaysModel", "tillOf", "(I)I"⟩, 48) := ⟨⟨by decide +kernel, by decide +kernel⟩, List.mem_of_getElem? (i := 854) (by decide +kernel), List.mem_of_getElem? (i := 1123) (by decide +kernel), List.mem_of_getElem? (i := 1124) (by decide +kernel)⟩
theorem lw_p45 : lw_okq (⟨"OwnBirthdaysModel", "seasonOf", "(I)I"⟩, 48) := ⟨⟨by decide +kernel, by decide +kernel⟩, List.mem_of_getElem? (i := 854) (by decide +kernel), List.mem_of_getElem? (i := 1127) (by decide +kernel), List.mem_of_getElem? (i := 1128) (by decide +kernel)⟩
theorem lw_p46 : lw_okq (⟨"OwnBirthdaysModel", "goodOf", "(I)I"⟩, 48) := ⟨⟨by decide +kernel, by decide +kernel⟩, List.mem_of_getElem? (i := 854) (by decide +kernel), List.mem_of_getElem? (i := 1136) (by decide +kernel), List.mem_of_getElem? (i := 1137) (by decide +kernel)⟩
theorem lw_p47 : lw_okq (⟨"OwnBirthdaysModel", "dayNow", "()V"⟩, 48) := ⟨⟨by decide +kernel, by decide +kernel⟩, List.mem_of_getElem? (i := 854) (by decide +kernel), List.mem_of_getElem? (i := 1145) (by decide +kernel), List.mem_of_getElem? (i := 1146) (by decide +kernel)⟩
def lw_privs_3 : List (MethodName × Nat) := [(⟨"OwnBirthdaysModel", "takeNumber", "(II)I"⟩, 48), (⟨"OwnBirthdaysModel", "takePerson", "()I"⟩, 48), (⟨"OwnBirthdaysModel", "into", "([IIII)I"⟩, 48), (⟨"OwnBirthdaysModel", "takeBirthday", "()I"⟩, 48), (⟨"OwnBirthdaysModel", "takeGood", "()I"⟩, 48), (⟨"OwnBirthdaysModel", "alive", "()I"⟩, 48), (⟨"OwnBirthdaysModel", "lentSet", "()I"⟩, 48), (⟨"OwnBirthdaysModel", "isPerson", "(I)Z"⟩, 48), (⟨"OwnBirthdaysModel", "ownedBy", "(I)I"⟩, 48), (⟨"OwnBirthdaysModel", "usedBy", "(I)I"⟩, 48), (⟨"OwnBirthdaysModel", "userOf", "(I)I"⟩, 48), (⟨"OwnBirthdaysModel", "isBirthday", "(I)Z"⟩, 48), (⟨"OwnBirthdaysModel", "tillOf", "(I)I"⟩, 48), (⟨"OwnBirthdaysModel", "seasonOf", "(I)I"⟩, 48), (⟨"OwnBirthdaysModel", "goodOf", "(I)I"⟩, 48), (⟨"OwnBirthdaysModel", "dayNow", "()V"⟩, 48)]
theorem lw_r3 : ∀ q ∈ lw_privs_3, lw_okq q := List.forall_mem_cons.mpr ⟨lw_p32, List.forall_mem_cons.mpr ⟨lw_p33, List.forall_mem_cons.mpr ⟨lw_p34, List.forall_mem_cons.mpr ⟨lw_p35, List.forall_mem_cons.mpr ⟨lw_p36, List.forall_mem_cons.mpr ⟨lw_p37, List.forall_mem_cons.mpr ⟨lw_p38, List.forall_mem_cons.mpr ⟨lw_p39, List.forall_mem_cons.mpr ⟨lw_p40, List.forall_mem_cons.mpr ⟨lw_p41, List.forall_mem_cons.mpr ⟨lw_p42, List.forall_mem_cons.mpr ⟨lw_p43, List.forall_mem_cons.mpr ⟨lw_p44, List.forall_mem_cons.mpr ⟨lw_p45, List.forall_mem_cons.mpr ⟨lw_p46, List.forall_mem_cons.mpr ⟨lw_p47, fun _ h => absurd h List.not_mem_nil⟩⟩⟩⟩⟩⟩⟩⟩⟩⟩⟩⟩⟩⟩⟩⟩
theorem lw_p48 : lw_okq (⟨"OwnBirthdaysModel", "endLoan", "(I)V"⟩, 48) := ⟨⟨by decide +kernel, by decide +kernel⟩, List.mem_of_getElem? (i := 854) (by decide +kernel), List.mem_of_getElem? (i := 1149) (by decide +kernel), List.mem_of_getElem? (i := 1150) (by decide +kernel)⟩
theorem lw_p49 : lw_okq (⟨"OwnBirthdaysModel", "mayDeal", "(III)Z"⟩, 48) := ⟨⟨by decide +kernel, by decide +kernel⟩, List.mem_of_getElem? (i := 854) (by decide +kernel), List.mem_of_getElem? (i := 1157) (by decide +kernel), List.mem_of_getElem? (i := 1158) (by decide +kernel)⟩
theorem lw_p50 : lw_okq (⟨"OwnBirthdaysModel", "pay", "(III)V"⟩, 48) := ⟨⟨by decide +kernel, by decide +kernel⟩, List.mem_of_getElem? (i := 854) (by decide +kernel), List.mem_of_getElem? (i := 1162) (by decide +kernel), List.mem_of_getElem? (i := 1163) (by decide +kernel)⟩
theorem lw_p51 : lw_okq (⟨"OwnBirthdaysModel", "youngest", "()I"⟩, 48) := ⟨⟨by decide +kernel, by decide +kernel⟩, List.mem_of_getElem? (i := 854) (by decide +kernel), List.mem_of_getElem? (i := 1174) (by decide +kernel), List.mem_of_getElem? (i := 1175) (by decide +kernel)⟩
theorem lw_p52 : lw_okq (⟨"OwnBirthdaysModel", "ageIn", "(III)I"⟩, 48) := ⟨⟨by decide +kernel, by decide +kernel⟩, List.mem_of_getElem? (i := 854) (by decide +kernel), List.mem_of_getElem? (i := 1183) (by decide +kernel), List.mem_of_getElem? (i := 1184) (by decide +kernel)⟩
theorem lw_p53 : lw_okq (⟨"OwnBirthdaysModel", "olderBy", "(III)I"⟩, 48) := ⟨⟨by decide +kernel, by decide +kernel⟩, List.mem_of_getElem? (i := 854) (by decide +kernel), List.mem_of_getElem? (i := 1187) (by decide +kernel), List.mem_of_getElem? (i := 1188) (by decide +kernel)⟩
theorem lw_p54 : lw_okq (⟨"OwnBirthdaysModel", "yearsBy", "(III)I"⟩, 48) := ⟨⟨by decide +kernel, by decide +kernel⟩, List.mem_of_getElem? (i := 854) (by decide +kernel), List.mem_of_getElem? (i := 1191) (by decide +kernel), List.mem_of_getElem? (i := 1192) (by decide +kernel)⟩
theorem lw_p55 : lw_okq (⟨"OwnBirthdaysModel", "timesIn", "(II)I"⟩, 48) := ⟨⟨by decide +kernel, by decide +kernel⟩, List.mem_of_getElem? (i := 854) (by decide +kernel), List.mem_of_getElem? (i := 1195) (by decide +kernel), List.mem_of_getElem? (i := 1196) (by decide +kernel)⟩
theorem lw_p56 : lw_okq (⟨"OwnBirthdaysModel", "findGiven", "(III)I"⟩, 48) := ⟨⟨by decide +kernel, by decide +kernel⟩, List.mem_of_getElem? (i := 854) (by decide +kernel), List.mem_of_getElem? (i := 1220) (by decide +kernel), List.mem_of_getElem? (i := 1221) (by decide +kernel)⟩
theorem lw_p57 : lw_okq (⟨"OwnBirthdaysModel", "areEnough", "(II)Z"⟩, 48) := ⟨⟨by decide +kernel, by decide +kernel⟩, List.mem_of_getElem? (i := 854) (by decide +kernel), List.mem_of_getElem? (i := 1225) (by decide +kernel), List.mem_of_getElem? (i := 1226) (by decide +kernel)⟩
theorem lw_p58 : lw_okq (⟨"OwnBirthdaysModel", "changes", "()Z"⟩, 48) := ⟨⟨by decide +kernel, by decide +kernel⟩, List.mem_of_getElem? (i := 854) (by decide +kernel), List.mem_of_getElem? (i := 1233) (by decide +kernel), List.mem_of_getElem? (i := 1234) (by decide +kernel)⟩
theorem lw_p59 : lw_okq (⟨"OwnBirthdaysModel", "worthTo", "(II)I"⟩, 48) := ⟨⟨by decide +kernel, by decide +kernel⟩, List.mem_of_getElem? (i := 854) (by decide +kernel), List.mem_of_getElem? (i := 1237) (by decide +kernel), List.mem_of_getElem? (i := 1238) (by decide +kernel)⟩
theorem lw_p60 : lw_okq (⟨"OwnBirthdaysModel", "wrongWithout", "(I)I"⟩, 48) := ⟨⟨by decide +kernel, by decide +kernel⟩, List.mem_of_getElem? (i := 854) (by decide +kernel), List.mem_of_getElem? (i := 1256) (by decide +kernel), List.mem_of_getElem? (i := 1257) (by decide +kernel)⟩
theorem lw_p61 : lw_okq (⟨"OwnBirthdaysModel", "draw", "(I)I"⟩, 48) := ⟨⟨by decide +kernel, by decide +kernel⟩, List.mem_of_getElem? (i := 854) (by decide +kernel), List.mem_of_getElem? (i := 1268) (by decide +kernel), List.mem_of_getElem? (i := 1269) (by decide +kernel)⟩
def lw_privs_4 : List (MethodName × Nat) := [(⟨"OwnBirthdaysModel", "endLoan", "(I)V"⟩, 48), (⟨"OwnBirthdaysModel", "mayDeal", "(III)Z"⟩, 48), (⟨"OwnBirthdaysModel", "pay", "(III)V"⟩, 48), (⟨"OwnBirthdaysModel", "youngest", "()I"⟩, 48), (⟨"OwnBirthdaysModel", "ageIn", "(III)I"⟩, 48), (⟨"OwnBirthdaysModel", "olderBy", "(III)I"⟩, 48), (⟨"OwnBirthdaysModel", "yearsBy", "(III)I"⟩, 48), (⟨"OwnBirthdaysModel", "timesIn", "(II)I"⟩, 48), (⟨"OwnBirthdaysModel", "findGiven", "(III)I"⟩, 48), (⟨"OwnBirthdaysModel", "areEnough", "(II)Z"⟩, 48), (⟨"OwnBirthdaysModel", "changes", "()Z"⟩, 48), (⟨"OwnBirthdaysModel", "worthTo", "(II)I"⟩, 48), (⟨"OwnBirthdaysModel", "wrongWithout", "(I)I"⟩, 48), (⟨"OwnBirthdaysModel", "draw", "(I)I"⟩, 48)]
theorem lw_r4 : ∀ q ∈ lw_privs_4, lw_okq q := List.forall_mem_cons.mpr ⟨lw_p48, List.forall_mem_cons.mpr ⟨lw_p49, List.forall_mem_cons.mpr ⟨lw_p50, List.forall_mem_cons.mpr ⟨lw_p51, List.forall_mem_cons.mpr ⟨lw_p52, List.forall_mem_cons.mpr ⟨lw_p53, List.forall_mem_cons.mpr ⟨lw_p54, List.forall_mem_cons.mpr ⟨lw_p55, List.forall_mem_cons.mpr ⟨lw_p56, List.forall_mem_cons.mpr ⟨lw_p57, List.forall_mem_cons.mpr ⟨lw_p58, List.forall_mem_cons.mpr ⟨lw_p59, List.forall_mem_cons.mpr ⟨lw_p60, List.forall_mem_cons.mpr ⟨lw_p61, fun _ h => absurd h List.not_mem_nil⟩⟩⟩⟩⟩⟩⟩⟩⟩⟩⟩⟩⟩⟩
def lw_privs : List (MethodName × Nat) := lw_privs_1 ++ (lw_privs_2 ++ (lw_privs_3 ++ (lw_privs_4)))
def lw_tbl : List Cond := k2_sels lw_privs ++ tables_1
theorem lw_privs_ok : ∀ q ∈ lw_privs, lw_okq q := by
  show ∀ q ∈ lw_privs_1 ++ (lw_privs_2 ++ (lw_privs_3 ++ (lw_privs_4))), lw_okq q
  exact List.forall_mem_append.mpr ⟨lw_r1, List.forall_mem_append.mpr ⟨lw_r2, List.forall_mem_append.mpr ⟨lw_r3, lw_r4⟩⟩⟩
-- ===== end of PART A; then your names; then what follows =====
end
section
/-! names, fields, types: printed of the program -/
def RX0 : String := "OwnBirthdays$CoinSearch"
def TX0 : u_T := fun k => match k with
  | 0 => ("OwnBirthdays$CoinSearch", "years", "[I", true)
  | 1 => ("OwnBirthdays$CoinSearch", "sum", "[I", true)
  | 2 => ("OwnBirthdays$CoinSearch", "leastSum", "I", false)
  | _ => ("OwnBirthdays$CoinSearch", "leastSet", "I", false)
def tyX0 : Nat → FieldType := fun k => match k with
  | 0 => .array .int
  | 1 => .array .int
  | 2 => .int
  | _ => .int
theorem nmX0 : ∀ a, a < 4 → ∀ b, b < 4 → a ≠ b → (TX0 a).2.1 ≠ (TX0 b).2.1 := by decide +kernel
theorem tyX0_ok : ∀ k, k < 4 → parseFieldDescriptor (TX0 k).2.2.1 = some (tyX0 k) := by decide +kernel
abbrev cX0_init : ByteArray := prog_2_method_1_code
def yX0_init : MethodName := ⟨RX0, "<init>", "()V"⟩
abbrev cX0_search : ByteArray := prog_2_method_2_code
def yX0_search : MethodName := ⟨RX0, "search", "(LOwnBirthdays$State;III)V"⟩
abbrev cX0_freeFor : ByteArray := prog_2_method_3_code
def yX0_freeFor : MethodName := ⟨RX0, "freeFor", "(LOwnBirthdays$State;II)I"⟩
abbrev cX0_totalOf : ByteArray := prog_2_method_4_code
def yX0_totalOf : MethodName := ⟨RX0, "totalOf", "([II)I"⟩
def RX1 : String := "OwnBirthdays$Giving"
def TX1 : u_T := fun k => match k with
  | 0 => ("OwnBirthdays$Giving", "years", "[I", true)
  | 1 => ("OwnBirthdays$Giving", "more", "[J", true)
  | 2 => ("OwnBirthdays$Giving", "enough", "[I", true)
  | 3 => ("OwnBirthdays$Giving", "best", "[J", true)
  | 4 => ("OwnBirthdays$Giving", "sets", "I", false)
  | 5 => ("OwnBirthdays$Giving", "enoughCount", "I", false)
  | _ => ("OwnBirthdays$Giving", "rank", "J", false)
def tyX1 : Nat → FieldType := fun k => match k with
  | 0 => .array .int
  | 1 => .array .long
  | 2 => .array .int
  | 3 => .array .long
  | 4 => .int
  | 5 => .int
  | _ => .long
theorem nmX1 : ∀ a, a < 7 → ∀ b, b < 7 → a ≠ b → (TX1 a).2.1 ≠ (TX1 b).2.1 := by decide +kernel
theorem tyX1_ok : ∀ k, k < 7 → parseFieldDescriptor (TX1 k).2.2.1 = some (tyX1 k) := by decide +kernel
abbrev cX1_init : ByteArray := prog_3_method_1_code
def yX1_init : MethodName := ⟨RX1, "<init>", "()V"⟩
abbrev cX1_search : ByteArray := prog_3_method_2_code
def yX1_search : MethodName := ⟨RX1, "search", "(LOwnBirthdays$State;III)Z"⟩
abbrev cX1_leastSum : ByteArray := prog_3_method_3_code
def yX1_leastSum : MethodName := ⟨RX1, "leastSum", "()I"⟩
abbrev cX1_receiverOf : ByteArray := prog_3_method_4_code
def yX1_receiverOf : MethodName := ⟨RX1, "receiverOf", "(I)I"⟩
abbrev cX1_countOldEnough : ByteArray := prog_3_method_5_code
def yX1_countOldEnough : MethodName := ⟨RX1, "countOldEnough", "(LOwnBirthdays$State;I)I"⟩
abbrev cX1_leftTo : ByteArray := prog_3_method_6_code
def yX1_leftTo : MethodName := ⟨RX1, "leftTo", "(LOwnBirthdays$State;I)I"⟩
abbrev cX1_rankOf : ByteArray := prog_3_method_7_code
def yX1_rankOf : MethodName := ⟨RX1, "rankOf", "(LOwnBirthdays$State;II)J"⟩
abbrev cX1_rankLeft : ByteArray := prog_3_method_8_code
def yX1_rankLeft : MethodName := ⟨RX1, "rankLeft", "(LOwnBirthdays$State;)J"⟩
abbrev cX1_addUpYears : ByteArray := prog_3_method_9_code
def yX1_addUpYears : MethodName := ⟨RX1, "addUpYears", "(LOwnBirthdays$State;I)V"⟩
abbrev cX1_addUpRanks : ByteArray := prog_3_method_10_code
def yX1_addUpRanks : MethodName := ⟨RX1, "addUpRanks", "(LOwnBirthdays$State;I)V"⟩
abbrev cX1_findEnough : ByteArray := prog_3_method_11_code
def yX1_findEnough : MethodName := ⟨RX1, "findEnough", "(I)V"⟩
abbrev cX1_isJustEnough : ByteArray := prog_3_method_12_code
def yX1_isJustEnough : MethodName := ⟨RX1, "isJustEnough", "(II)Z"⟩
abbrev cX1_tryPerson : ByteArray := prog_3_method_13_code
def yX1_tryPerson : MethodName := ⟨RX1, "tryPerson", "(I)V"⟩
abbrev cX1_tryEnough : ByteArray := prog_3_method_14_code
def yX1_tryEnough : MethodName := ⟨RX1, "tryEnough", "(IIJ)V"⟩
abbrev cX1_leastOf : ByteArray := prog_3_method_15_code
def yX1_leastOf : MethodName := ⟨RX1, "leastOf", "(I)J"⟩
def RX2 : String := "OwnBirthdays$Land"
def TX2 : u_T := fun k => match k with
  | 0 => ("OwnBirthdays$Land", "startAge", "[I", true)
  | 1 => ("OwnBirthdays$Land", "startPurse", "[I", true)
  | 2 => ("OwnBirthdays$Land", "dayOf", "[I", true)
  | 3 => ("OwnBirthdays$Land", "startOwner", "[I", true)
  | 4 => ("OwnBirthdays$Land", "price", "[I", true)
  | 5 => ("OwnBirthdays$Land", "good", "[I", true)
  | 6 => ("OwnBirthdays$Land", "yearDays", "I", false)
  | 7 => ("OwnBirthdays$Land", "persons", "I", false)
  | 8 => ("OwnBirthdays$Land", "birthdays", "I", false)
  | _ => ("OwnBirthdays$Land", "goods", "I", false)
def tyX2 : Nat → FieldType := fun k => match k with
  | 0 => .array .int
  | 1 => .array .int
  | 2 => .array .int
  | 3 => .array .int
  | 4 => .array .int
  | 5 => .array .int
  | 6 => .int
  | 7 => .int
  | 8 => .int
  | _ => .int
theorem nmX2 : ∀ a, a < 10 → ∀ b, b < 10 → a ≠ b → (TX2 a).2.1 ≠ (TX2 b).2.1 := by decide +kernel
theorem tyX2_ok : ∀ k, k < 10 → parseFieldDescriptor (TX2 k).2.2.1 = some (tyX2 k) := by decide +kernel
abbrev cX2_init : ByteArray := prog_4_method_1_code
def yX2_init : MethodName := ⟨RX2, "<init>", "()V"⟩
abbrev cX2_clearAll : ByteArray := prog_4_method_2_code
def yX2_clearAll : MethodName := ⟨RX2, "clearAll", "()V"⟩
abbrev cX2_becomeLike : ByteArray := prog_4_method_3_code
def yX2_becomeLike : MethodName := ⟨RX2, "becomeLike", "(LOwnBirthdays$Land;)V"⟩
abbrev cX2_hasPerson : ByteArray := prog_4_method_4_code
def yX2_hasPerson : MethodName := ⟨RX2, "hasPerson", "(I)Z"⟩
abbrev cX2_hasBirthday : ByteArray := prog_4_method_5_code
def yX2_hasBirthday : MethodName := ⟨RX2, "hasBirthday", "(I)Z"⟩
abbrev cX2_isEmpty : ByteArray := prog_4_method_6_code
def yX2_isEmpty : MethodName := ⟨RX2, "isEmpty", "()Z"⟩
abbrev cX2_tellsGoodOf : ByteArray := prog_4_method_7_code
def yX2_tellsGoodOf : MethodName := ⟨RX2, "tellsGoodOf", "(I)Z"⟩
abbrev cX2_goodOf : ByteArray := prog_4_method_8_code
def yX2_goodOf : MethodName := ⟨RX2, "goodOf", "(I)I"⟩
abbrev cX2_addPerson : ByteArray := prog_4_method_9_code
def yX2_addPerson : MethodName := ⟨RX2, "addPerson", "(II)V"⟩
abbrev cX2_addBirthday : ByteArray := prog_4_method_10_code
def yX2_addBirthday : MethodName := ⟨RX2, "addBirthday", "(III)V"⟩
abbrev cX2_addGood : ByteArray := prog_4_method_11_code
def yX2_addGood : MethodName := ⟨RX2, "addGood", "(II)V"⟩
def RX3 : String := "OwnBirthdays$LandReader"
def TX3 : u_T := fun k => match k with
  | 0 => ("OwnBirthdays$LandReader", "text", "[B", true)
  | 1 => ("OwnBirthdays$LandReader", "draft", "LOwnBirthdays$Land;", true)
  | 2 => ("OwnBirthdays$LandReader", "length", "I", false)
  | 3 => ("OwnBirthdays$LandReader", "at", "I", false)
  | 4 => ("OwnBirthdays$LandReader", "fault", "I", false)
  | 5 => ("OwnBirthdays$LandReader", "faultPlace", "I", false)
  | 6 => ("OwnBirthdays$LandReader", "numberPlace", "I", false)
  | _ => ("OwnBirthdays$LandReader", "yearTold", "Z", false)
def tyX3 : Nat → FieldType := fun k => match k with
  | 0 => .array .byte
  | 1 => .object "OwnBirthdays$Land"
  | 2 => .int
  | 3 => .int
  | 4 => .int
  | 5 => .int
  | 6 => .int
  | _ => .boolean
theorem nmX3 : ∀ a, a < 8 → ∀ b, b < 8 → a ≠ b → (TX3 a).2.1 ≠ (TX3 b).2.1 := by decide +kernel
theorem tyX3_ok : ∀ k, k < 8 → parseFieldDescriptor (TX3 k).2.2.1 = some (tyX3 k) := by decide +kernel
abbrev cX3_init : ByteArray := prog_5_method_1_code
def yX3_init : MethodName := ⟨RX3, "<init>", "()V"⟩
abbrev cX3_hasRoom : ByteArray := prog_5_method_2_code
def yX3_hasRoom : MethodName := ⟨RX3, "hasRoom", "(I)Z"⟩
abbrev cX3_append : ByteArray := prog_5_method_3_code
def yX3_append : MethodName := ⟨RX3, "append", "(IJ)V"⟩
abbrev cX3_readAll : ByteArray := prog_5_method_4_code
def yX3_readAll : MethodName := ⟨RX3, "readAll", "()I"⟩
abbrev cX3_readClause : ByteArray := prog_5_method_5_code
def yX3_readClause : MethodName := ⟨RX3, "readClause", "()V"⟩
abbrev cX3_readYear : ByteArray := prog_5_method_6_code
def yX3_readYear : MethodName := ⟨RX3, "readYear", "(I)V"⟩
abbrev cX3_readPerson : ByteArray := prog_5_method_7_code
def yX3_readPerson : MethodName := ⟨RX3, "readPerson", "(I)V"⟩
abbrev cX3_readBirthday : ByteArray := prog_5_method_8_code
def yX3_readBirthday : MethodName := ⟨RX3, "readBirthday", "(I)V"⟩
abbrev cX3_readGood : ByteArray := prog_5_method_9_code
def yX3_readGood : MethodName := ⟨RX3, "readGood", "(I)V"⟩
abbrev cX3_readNumber : ByteArray := prog_5_method_10_code
def yX3_readNumber : MethodName := ⟨RX3, "readNumber", "(II)I"⟩
abbrev cX3_readEnd : ByteArray := prog_5_method_11_code
def yX3_readEnd : MethodName := ⟨RX3, "readEnd", "()V"⟩
abbrev cX3_setFault : ByteArray := prog_5_method_12_code
def yX3_setFault : MethodName := ⟨RX3, "setFault", "(II)V"⟩
abbrev cX3_skipBlanks : ByteArray := prog_5_method_13_code
def yX3_skipBlanks : MethodName := ⟨RX3, "skipBlanks", "()V"⟩
abbrev cX3_skipLetters : ByteArray := prog_5_method_14_code
def yX3_skipLetters : MethodName := ⟨RX3, "skipLetters", "()V"⟩
abbrev cX3_isWord : ByteArray := prog_5_method_15_code
def yX3_isWord : MethodName := ⟨RX3, "isWord", "(ILjava/lang/String;)Z"⟩
abbrev cX3_isFigure : ByteArray := prog_5_method_16_code
def yX3_isFigure : MethodName := ⟨RX3, "isFigure", "(I)Z"⟩
def RX4 : String := "OwnBirthdays$LifePlan"
def TX4 : u_T := fun k => match k with
  | 0 => ("OwnBirthdays$LifePlan", "best", "[I", true)
  | _ => ("OwnBirthdays$LifePlan", "ageing", "[J", true)
def tyX4 : Nat → FieldType := fun k => match k with
  | 0 => .array .int
  | _ => .array .long
theorem nmX4 : ∀ a, a < 2 → ∀ b, b < 2 → a ≠ b → (TX4 a).2.1 ≠ (TX4 b).2.1 := by decide +kernel
theorem tyX4_ok : ∀ k, k < 2 → parseFieldDescriptor (TX4 k).2.2.1 = some (tyX4 k) := by decide +kernel
abbrev cX4_init : ByteArray := prog_6_method_1_code
def yX4_init : MethodName := ⟨RX4, "<init>", "()V"⟩
abbrev cX4_make : ByteArray := prog_6_method_2_code
def yX4_make : MethodName := ⟨RX4, "make", "(LOwnBirthdays$Land;II)V"⟩
abbrev cX4_greatestSum : ByteArray := prog_6_method_3_code
def yX4_greatestSum : MethodName := ⟨RX4, "greatestSum", "()I"⟩
abbrev cX4_agesIn : ByteArray := prog_6_method_4_code
def yX4_agesIn : MethodName := ⟨RX4, "agesIn", "(I)I"⟩
def RX5 : String := "OwnBirthdays$Resting"
def TX5 : u_T := fun k => match k with
  | 0 => ("OwnBirthdays$Resting", "owner", "[I", true)
  | 1 => ("OwnBirthdays$Resting", "owned", "[I", true)
  | _ => ("OwnBirthdays$Resting", "moves", "I", false)
def tyX5 : Nat → FieldType := fun k => match k with
  | 0 => .array .int
  | 1 => .array .int
  | _ => .int
theorem nmX5 : ∀ a, a < 3 → ∀ b, b < 3 → a ≠ b → (TX5 a).2.1 ≠ (TX5 b).2.1 := by decide +kernel
theorem tyX5_ok : ∀ k, k < 3 → parseFieldDescriptor (TX5 k).2.2.1 = some (tyX5 k) := by decide +kernel
abbrev cX5_init : ByteArray := prog_7_method_1_code
def yX5_init : MethodName := ⟨RX5, "<init>", "()V"⟩
abbrev cX5_run : ByteArray := prog_7_method_2_code
def yX5_run : MethodName := ⟨RX5, "run", "(LOwnBirthdays$State;)V"⟩
abbrev cX5_moveFirst : ByteArray := prog_7_method_3_code
def yX5_moveFirst : MethodName := ⟨RX5, "moveFirst", "(LOwnBirthdays$State;)Z"⟩
abbrev cX5_gainer : ByteArray := prog_7_method_4_code
def yX5_gainer : MethodName := ⟨RX5, "gainer", "(LOwnBirthdays$State;I)I"⟩
abbrev cX5_worthOfNext : ByteArray := prog_7_method_5_code
def yX5_worthOfNext : MethodName := ⟨RX5, "worthOfNext", "(LOwnBirthdays$State;II)I"⟩
def RX6 : String := "OwnBirthdays$State"
def TX6 : u_T := fun k => match k with
  | 0 => ("OwnBirthdays$State", "land", "LOwnBirthdays$Land;", true)
  | 1 => ("OwnBirthdays$State", "age", "[I", true)
  | 2 => ("OwnBirthdays$State", "purse", "[I", true)
  | 3 => ("OwnBirthdays$State", "owner", "[I", true)
  | 4 => ("OwnBirthdays$State", "borrower", "[I", true)
  | 5 => ("OwnBirthdays$State", "lentTill", "[I", true)
  | 6 => ("OwnBirthdays$State", "living", "I", false)
  | 7 => ("OwnBirthdays$State", "today", "I", false)
  | _ => ("OwnBirthdays$State", "seed", "I", false)
def tyX6 : Nat → FieldType := fun k => match k with
  | 0 => .object "OwnBirthdays$Land"
  | 1 => .array .int
  | 2 => .array .int
  | 3 => .array .int
  | 4 => .array .int
  | 5 => .array .int
  | 6 => .int
  | 7 => .int
  | _ => .int
theorem nmX6 : ∀ a, a < 9 → ∀ b, b < 9 → a ≠ b → (TX6 a).2.1 ≠ (TX6 b).2.1 := by decide +kernel
theorem tyX6_ok : ∀ k, k < 9 → parseFieldDescriptor (TX6 k).2.2.1 = some (tyX6 k) := by decide +kernel
abbrev cX6_init : ByteArray := prog_8_method_1_code
def yX6_init : MethodName := ⟨RX6, "<init>", "(LOwnBirthdays$Land;)V"⟩
abbrev cX6_startAnew : ByteArray := prog_8_method_2_code
def yX6_startAnew : MethodName := ⟨RX6, "startAnew", "()V"⟩
abbrev cX6_becomeLike : ByteArray := prog_8_method_3_code
def yX6_becomeLike : MethodName := ⟨RX6, "becomeLike", "(LOwnBirthdays$State;)V"⟩
abbrev cX6_lives : ByteArray := prog_8_method_4_code
def yX6_lives : MethodName := ⟨RX6, "lives", "(I)Z"⟩
abbrev cX6_isLent : ByteArray := prog_8_method_5_code
def yX6_isLent : MethodName := ⟨RX6, "isLent", "(I)Z"⟩
abbrev cX6_userOf : ByteArray := prog_8_method_6_code
def yX6_userOf : MethodName := ⟨RX6, "userOf", "(I)I"⟩
abbrev cX6_lentSet : ByteArray := prog_8_method_7_code
def yX6_lentSet : MethodName := ⟨RX6, "lentSet", "()I"⟩
abbrev cX6_ownedSet : ByteArray := prog_8_method_8_code
def yX6_ownedSet : MethodName := ⟨RX6, "ownedSet", "(I)I"⟩
abbrev cX6_usedSet : ByteArray := prog_8_method_9_code
def yX6_usedSet : MethodName := ⟨RX6, "usedSet", "(I)I"⟩
abbrev cX6_daysTill : ByteArray := prog_8_method_10_code
def yX6_daysTill : MethodName := ⟨RX6, "daysTill", "(I)I"⟩
abbrev cX6_seasonOf : ByteArray := prog_8_method_11_code
def yX6_seasonOf : MethodName := ⟨RX6, "seasonOf", "(I)I"⟩
abbrev cX6_comings : ByteArray := prog_8_method_12_code
def yX6_comings : MethodName := ⟨RX6, "comings", "(II)I"⟩
abbrev cX6_daysLent : ByteArray := prog_8_method_13_code
def yX6_daysLent : MethodName := ⟨RX6, "daysLent", "(II)I"⟩
abbrev cX6_yearsFor : ByteArray := prog_8_method_14_code
def yX6_yearsFor : MethodName := ⟨RX6, "yearsFor", "(III)I"⟩
abbrev cX6_yearsBehind : ByteArray := prog_8_method_15_code
def yX6_yearsBehind : MethodName := ⟨RX6, "yearsBehind", "(III)I"⟩
abbrev cX6_ageBehind : ByteArray := prog_8_method_16_code
def yX6_ageBehind : MethodName := ⟨RX6, "ageBehind", "(III)I"⟩
abbrev cX6_passDays : ByteArray := prog_8_method_17_code
def yX6_passDays : MethodName := ⟨RX6, "passDays", "(I)V"⟩
abbrev cX6_growOlder : ByteArray := prog_8_method_18_code
def yX6_growOlder : MethodName := ⟨RX6, "growOlder", "(II)V"⟩
abbrev cX6_endLoan : ByteArray := prog_8_method_19_code
def yX6_endLoan : MethodName := ⟨RX6, "endLoan", "(I)V"⟩
abbrev cX6_mayDeal : ByteArray := prog_8_method_20_code
def yX6_mayDeal : MethodName := ⟨RX6, "mayDeal", "(III)Z"⟩
abbrev cX6_sellTo : ByteArray := prog_8_method_21_code
def yX6_sellTo : MethodName := ⟨RX6, "sellTo", "(III)V"⟩
abbrev cX6_lendTo : ByteArray := prog_8_method_22_code
def yX6_lendTo : MethodName := ⟨RX6, "lendTo", "(IIII)V"⟩
abbrev cX6_payOwner : ByteArray := prog_8_method_23_code
def yX6_payOwner : MethodName := ⟨RX6, "payOwner", "(III)V"⟩
abbrev cX6_endLife : ByteArray := prog_8_method_24_code
def yX6_endLife : MethodName := ⟨RX6, "endLife", "(I)I"⟩
abbrev cX6_youngestAlive : ByteArray := prog_8_method_25_code
def yX6_youngestAlive : MethodName := ⟨RX6, "youngestAlive", "()I"⟩
abbrev cX6_passDaysByDraws : ByteArray := prog_8_method_26_code
def yX6_passDaysByDraws : MethodName := ⟨RX6, "passDaysByDraws", "(I)V"⟩
abbrev cX6_sellByDraws : ByteArray := prog_8_method_27_code
def yX6_sellByDraws : MethodName := ⟨RX6, "sellByDraws", "()V"⟩
abbrev cX6_draw : ByteArray := prog_8_method_28_code
def yX6_draw : MethodName := ⟨RX6, "draw", "(I)I"⟩
def RX7 : String := "OwnBirthdays$ToldAges"
def TX7 : u_T := fun k => match k with
  | 0 => ("OwnBirthdays$ToldAges", "person", "[I", true)
  | 1 => ("OwnBirthdays$ToldAges", "days", "[I", true)
  | 2 => ("OwnBirthdays$ToldAges", "age", "[I", true)
  | _ => ("OwnBirthdays$ToldAges", "count", "I", false)
def tyX7 : Nat → FieldType := fun k => match k with
  | 0 => .array .int
  | 1 => .array .int
  | 2 => .array .int
  | _ => .int
theorem nmX7 : ∀ a, a < 4 → ∀ b, b < 4 → a ≠ b → (TX7 a).2.1 ≠ (TX7 b).2.1 := by decide +kernel
theorem tyX7_ok : ∀ k, k < 4 → parseFieldDescriptor (TX7 k).2.2.1 = some (tyX7 k) := by decide +kernel
abbrev cX7_init : ByteArray := prog_9_method_1_code
def yX7_init : MethodName := ⟨RX7, "<init>", "()V"⟩
abbrev cX7_add : ByteArray := prog_9_method_2_code
def yX7_add : MethodName := ⟨RX7, "add", "(III)V"⟩
abbrev cX7_firstWrong : ByteArray := prog_9_method_3_code
def yX7_firstWrong : MethodName := ⟨RX7, "firstWrong", "(LOwnBirthdays$State;I)I"⟩
def RX8 : String := "OwnBirthdays"
def TX8 : u_T := fun k => match k with
  | 0 => ("OwnBirthdays", "reader", "LOwnBirthdays$LandReader;", true)
  | 1 => ("OwnBirthdays", "theLand", "LOwnBirthdays$Land;", true)
  | 2 => ("OwnBirthdays", "now", "LOwnBirthdays$State;", true)
  | 3 => ("OwnBirthdays", "firstImage", "LOwnBirthdays$State;", true)
  | 4 => ("OwnBirthdays", "secondImage", "LOwnBirthdays$State;", true)
  | 5 => ("OwnBirthdays", "toldAges", "LOwnBirthdays$ToldAges;", true)
  | 6 => ("OwnBirthdays", "coins", "LOwnBirthdays$CoinSearch;", true)
  | 7 => ("OwnBirthdays", "lifePlan", "LOwnBirthdays$LifePlan;", true)
  | 8 => ("OwnBirthdays", "giving", "LOwnBirthdays$Giving;", true)
  | 9 => ("OwnBirthdays", "resting", "LOwnBirthdays$Resting;", true)
  | 10 => ("OwnBirthdays", "keptImages", "I", false)
  | _ => ("OwnBirthdays", "faultPlace", "I", false)
def tyX8 : Nat → FieldType := fun k => match k with
  | 0 => .object "OwnBirthdays$LandReader"
  | 1 => .object "OwnBirthdays$Land"
  | 2 => .object "OwnBirthdays$State"
  | 3 => .object "OwnBirthdays$State"
  | 4 => .object "OwnBirthdays$State"
  | 5 => .object "OwnBirthdays$ToldAges"
  | 6 => .object "OwnBirthdays$CoinSearch"
  | 7 => .object "OwnBirthdays$LifePlan"
  | 8 => .object "OwnBirthdays$Giving"
  | 9 => .object "OwnBirthdays$Resting"
  | 10 => .int
  | _ => .int
theorem nmX8 : ∀ a, a < 12 → ∀ b, b < 12 → a ≠ b → (TX8 a).2.1 ≠ (TX8 b).2.1 := by decide +kernel
theorem tyX8_ok : ∀ k, k < 12 → parseFieldDescriptor (TX8 k).2.2.1 = some (tyX8 k) := by decide +kernel
abbrev cX8_init : ByteArray := prog_1_method_1_code
def yX8_init : MethodName := ⟨RX8, "<init>", "()V"⟩
abbrev cX8_feed : ByteArray := prog_1_method_2_code
def yX8_feed : MethodName := ⟨RX8, "feed", "(IJ)I"⟩
abbrev cX8_land : ByteArray := prog_1_method_3_code
def yX8_land : MethodName := ⟨RX8, "land", "()I"⟩
abbrev cX8_fault : ByteArray := prog_1_method_4_code
def yX8_fault : MethodName := ⟨RX8, "fault", "()I"⟩
abbrev cX8_told : ByteArray := prog_1_method_5_code
def yX8_told : MethodName := ⟨RX8, "told", "(I)I"⟩
abbrev cX8_person : ByteArray := prog_1_method_6_code
def yX8_person : MethodName := ⟨RX8, "person", "(II)I"⟩
abbrev cX8_birthday : ByteArray := prog_1_method_7_code
def yX8_birthday : MethodName := ⟨RX8, "birthday", "(II)I"⟩
abbrev cX8_good : ByteArray := prog_1_method_8_code
def yX8_good : MethodName := ⟨RX8, "good", "(I)I"⟩
abbrev cX8_day : ByteArray := prog_1_method_9_code
def yX8_day : MethodName := ⟨RX8, "day", "(I)I"⟩
abbrev cX8_sell : ByteArray := prog_1_method_10_code
def yX8_sell : MethodName := ⟨RX8, "sell", "(III)I"⟩
abbrev cX8_lend : ByteArray := prog_1_method_11_code
def yX8_lend : MethodName := ⟨RX8, "lend", "(IIII)I"⟩
abbrev cX8_die : ByteArray := prog_1_method_12_code
def yX8_die : MethodName := ⟨RX8, "die", "(I)I"⟩
abbrev cX8_begin : ByteArray := prog_1_method_13_code
def yX8_begin : MethodName := ⟨RX8, "begin", "()I"⟩
abbrev cX8_foretold : ByteArray := prog_1_method_14_code
def yX8_foretold : MethodName := ⟨RX8, "foretold", "(II)I"⟩
abbrev cX8_coin : ByteArray := prog_1_method_15_code
def yX8_coin : MethodName := ⟨RX8, "coin", "(IIII)I"⟩
abbrev cX8_life : ByteArray := prog_1_method_16_code
def yX8_life : MethodName := ⟨RX8, "life", "(III)I"⟩
abbrev cX8_votes : ByteArray := prog_1_method_17_code
def yX8_votes : MethodName := ⟨RX8, "votes", "(I)I"⟩
abbrev cX8_given : ByteArray := prog_1_method_18_code
def yX8_given : MethodName := ⟨RX8, "given", "(IIII)I"⟩
abbrev cX8_rests : ByteArray := prog_1_method_19_code
def yX8_rests : MethodName := ⟨RX8, "rests", "(I)I"⟩
abbrev cX8_tell : ByteArray := prog_1_method_20_code
def yX8_tell : MethodName := ⟨RX8, "tell", "(III)I"⟩
abbrev cX8_tear : ByteArray := prog_1_method_21_code
def yX8_tear : MethodName := ⟨RX8, "tear", "()I"⟩
abbrev cX8_judge : ByteArray := prog_1_method_22_code
def yX8_judge : MethodName := ⟨RX8, "judge", "()I"⟩
abbrev cX8_forged : ByteArray := prog_1_method_23_code
def yX8_forged : MethodName := ⟨RX8, "forged", "()I"⟩
abbrev cX8_drift : ByteArray := prog_1_method_24_code
def yX8_drift : MethodName := ⟨RX8, "drift", "(I)I"⟩
abbrev cX8_seed : ByteArray := prog_1_method_25_code
def yX8_seed : MethodName := ⟨RX8, "seed", "(I)I"⟩
abbrev cX8_keep : ByteArray := prog_1_method_26_code
def yX8_keep : MethodName := ⟨RX8, "keep", "(I)I"⟩
abbrev cX8_goBack : ByteArray := prog_1_method_27_code
def yX8_goBack : MethodName := ⟨RX8, "goBack", "(I)I"⟩
abbrev cX8_imageOf : ByteArray := prog_1_method_28_code
def yX8_imageOf : MethodName := ⟨RX8, "imageOf", "(I)LOwnBirthdays$State;"⟩
abbrev cX8_isOutside : ByteArray := prog_1_method_29_code
def yX8_isOutside : MethodName := ⟨RX8, "isOutside", "(III)Z"⟩
def RX9 : String := "OwnBirthdaysModel"
def TX9 : u_T := fun k => match k with
  | 0 => ("OwnBirthdaysModel", "yearLong", "I", false)
  | 1 => ("OwnBirthdaysModel", "persons", "I", false)
  | 2 => ("OwnBirthdaysModel", "toldAge", "[I", true)
  | 3 => ("OwnBirthdaysModel", "toldPurse", "[I", true)
  | 4 => ("OwnBirthdaysModel", "birthdays", "I", false)
  | 5 => ("OwnBirthdaysModel", "dayOf", "[I", true)
  | 6 => ("OwnBirthdaysModel", "toldOwner", "[I", true)
  | 7 => ("OwnBirthdaysModel", "priceOf", "[I", true)
  | 8 => ("OwnBirthdaysModel", "goods", "[I", true)
  | 9 => ("OwnBirthdaysModel", "today", "I", false)
  | 10 => ("OwnBirthdaysModel", "age", "[I", true)
  | 11 => ("OwnBirthdaysModel", "purse", "[I", true)
  | 12 => ("OwnBirthdaysModel", "lives", "[Z", true)
  | 13 => ("OwnBirthdaysModel", "owner", "[I", true)
  | 14 => ("OwnBirthdaysModel", "lentTo", "[I", true)
  | 15 => ("OwnBirthdaysModel", "lentTill", "[I", true)
  | 16 => ("OwnBirthdaysModel", "seed", "I", false)
  | 17 => ("OwnBirthdaysModel", "text", "[I", true)
  | 18 => ("OwnBirthdaysModel", "texted", "I", false)
  | 19 => ("OwnBirthdaysModel", "faultPlace", "I", false)
  | 20 => ("OwnBirthdaysModel", "at0", "I", false)
  | 21 => ("OwnBirthdaysModel", "said", "J", false)
  | 22 => ("OwnBirthdaysModel", "wordEnd", "I", false)
  | 23 => ("OwnBirthdaysModel", "number", "I", false)
  | 24 => ("OwnBirthdaysModel", "numberAt", "I", false)
  | 25 => ("OwnBirthdaysModel", "readYear", "I", false)
  | 26 => ("OwnBirthdaysModel", "readClauses", "I", false)
  | 27 => ("OwnBirthdaysModel", "readPersons", "I", false)
  | 28 => ("OwnBirthdaysModel", "readAge", "[I", true)
  | 29 => ("OwnBirthdaysModel", "readPurse", "[I", true)
  | 30 => ("OwnBirthdaysModel", "readBirthdays", "I", false)
  | 31 => ("OwnBirthdaysModel", "readDay", "[I", true)
  | 32 => ("OwnBirthdaysModel", "readOwner", "[I", true)
  | 33 => ("OwnBirthdaysModel", "readPrice", "[I", true)
  | 34 => ("OwnBirthdaysModel", "readMany", "I", false)
  | 35 => ("OwnBirthdaysModel", "readGoods", "[I", true)
  | 36 => ("OwnBirthdaysModel", "most", "[I", true)
  | 37 => ("OwnBirthdaysModel", "givenTo", "[I", true)
  | 38 => ("OwnBirthdaysModel", "times", "[I", true)
  | 39 => ("OwnBirthdaysModel", "spent", "[I", true)
  | 40 => ("OwnBirthdaysModel", "bestGiven", "[I", true)
  | 41 => ("OwnBirthdaysModel", "wasOwner", "[I", true)
  | 42 => ("OwnBirthdaysModel", "tolds", "I", false)
  | 43 => ("OwnBirthdaysModel", "toldWho", "[I", true)
  | 44 => ("OwnBirthdaysModel", "toldWhen", "[I", true)
  | 45 => ("OwnBirthdaysModel", "toldOld", "[I", true)
  | 46 => ("OwnBirthdaysModel", "images", "[I", true)
  | _ => ("OwnBirthdaysModel", "isKept", "[Z", true)
def tyX9 : Nat → FieldType := fun k => match k with
  | 0 => .int
  | 1 => .int
  | 2 => .array .int
  | 3 => .array .int
  | 4 => .int
  | 5 => .array .int
  | 6 => .array .int
  | 7 => .array .int
  | 8 => .array .int
  | 9 => .int
  | 10 => .array .int
  | 11 => .array .int
  | 12 => .array .boolean
  | 13 => .array .int
  | 14 => .array .int
  | 15 => .array .int
  | 16 => .int
  | 17 => .array .int
  | 18 => .int
  | 19 => .int
  | 20 => .int
  | 21 => .long
  | 22 => .int
  | 23 => .int
  | 24 => .int
  | 25 => .int
  | 26 => .int
  | 27 => .int
  | 28 => .array .int
  | 29 => .array .int
  | 30 => .int
  | 31 => .array .int
  | 32 => .array .int
  | 33 => .array .int
  | 34 => .int
  | 35 => .array .int
  | 36 => .array .int
  | 37 => .array .int
  | 38 => .array .int
  | 39 => .array .int
  | 40 => .array .int
  | 41 => .array .int
  | 42 => .int
  | 43 => .array .int
  | 44 => .array .int
  | 45 => .array .int
  | 46 => .array .int
  | _ => .array .boolean
theorem nmX9 : ∀ a, a < 48 → ∀ b, b < 48 → a ≠ b → (TX9 a).2.1 ≠ (TX9 b).2.1 := by decide +kernel
theorem tyX9_ok : ∀ k, k < 48 → parseFieldDescriptor (TX9 k).2.2.1 = some (tyX9 k) := by decide +kernel
abbrev cX9_init : ByteArray := prog_11_method_1_code
def yX9_init : MethodName := ⟨RX9, "<init>", "()V"⟩
abbrev cX9_in : ByteArray := prog_11_method_3_code
def yX9_in : MethodName := ⟨RX9, "in", "(JJJ)Z"⟩
abbrev cX9_has : ByteArray := prog_11_method_4_code
def yX9_has : MethodName := ⟨RX9, "has", "(II)Z"⟩
abbrev cX9_isPerson : ByteArray := prog_11_method_5_code
def yX9_isPerson : MethodName := ⟨RX9, "isPerson", "(I)Z"⟩
abbrev cX9_isBirthday : ByteArray := prog_11_method_6_code
def yX9_isBirthday : MethodName := ⟨RX9, "isBirthday", "(I)Z"⟩
abbrev cX9_begin : ByteArray := prog_11_method_7_code
def yX9_begin : MethodName := ⟨RX9, "begin", "()I"⟩
abbrev cX9_feed : ByteArray := prog_11_method_8_code
def yX9_feed : MethodName := ⟨RX9, "feed", "(IJ)I"⟩
abbrev cX9_here : ByteArray := prog_11_method_9_code
def yX9_here : MethodName := ⟨RX9, "here", "()I"⟩
abbrev cX9_fails : ByteArray := prog_11_method_10_code
def yX9_fails : MethodName := ⟨RX9, "fails", "(II)I"⟩
abbrev cX9_readWord : ByteArray := prog_11_method_11_code
def yX9_readWord : MethodName := ⟨RX9, "readWord", "()V"⟩
abbrev cX9_code : ByteArray := prog_11_method_12_code
def yX9_code : MethodName := ⟨RX9, "code", "(IIII)J"⟩
abbrev cX9_takeNumber : ByteArray := prog_11_method_13_code
def yX9_takeNumber : MethodName := ⟨RX9, "takeNumber", "(II)I"⟩
abbrev cX9_into : ByteArray := prog_11_method_14_code
def yX9_into : MethodName := ⟨RX9, "into", "([IIII)I"⟩
abbrev cX9_takePerson : ByteArray := prog_11_method_15_code
def yX9_takePerson : MethodName := ⟨RX9, "takePerson", "()I"⟩
abbrev cX9_takeBirthday : ByteArray := prog_11_method_16_code
def yX9_takeBirthday : MethodName := ⟨RX9, "takeBirthday", "()I"⟩
abbrev cX9_takeGood : ByteArray := prog_11_method_17_code
def yX9_takeGood : MethodName := ⟨RX9, "takeGood", "()I"⟩
abbrev cX9_takeClause : ByteArray := prog_11_method_18_code
def yX9_takeClause : MethodName := ⟨RX9, "takeClause", "()I"⟩
abbrev cX9_land : ByteArray := prog_11_method_19_code
def yX9_land : MethodName := ⟨RX9, "land", "()I"⟩
abbrev cX9_fault : ByteArray := prog_11_method_20_code
def yX9_fault : MethodName := ⟨RX9, "fault", "()I"⟩
abbrev cX9_alive : ByteArray := prog_11_method_21_code
def yX9_alive : MethodName := ⟨RX9, "alive", "()I"⟩
abbrev cX9_lentSet : ByteArray := prog_11_method_22_code
def yX9_lentSet : MethodName := ⟨RX9, "lentSet", "()I"⟩
abbrev cX9_told : ByteArray := prog_11_method_23_code
def yX9_told : MethodName := ⟨RX9, "told", "(I)I"⟩
abbrev cX9_userOf : ByteArray := prog_11_method_24_code
def yX9_userOf : MethodName := ⟨RX9, "userOf", "(I)I"⟩
abbrev cX9_ownedBy : ByteArray := prog_11_method_25_code
def yX9_ownedBy : MethodName := ⟨RX9, "ownedBy", "(I)I"⟩
abbrev cX9_usedBy : ByteArray := prog_11_method_26_code
def yX9_usedBy : MethodName := ⟨RX9, "usedBy", "(I)I"⟩
abbrev cX9_person : ByteArray := prog_11_method_27_code
def yX9_person : MethodName := ⟨RX9, "person", "(II)I"⟩
abbrev cX9_tillOf : ByteArray := prog_11_method_28_code
def yX9_tillOf : MethodName := ⟨RX9, "tillOf", "(I)I"⟩
abbrev cX9_seasonOf : ByteArray := prog_11_method_29_code
def yX9_seasonOf : MethodName := ⟨RX9, "seasonOf", "(I)I"⟩
abbrev cX9_birthday : ByteArray := prog_11_method_30_code
def yX9_birthday : MethodName := ⟨RX9, "birthday", "(II)I"⟩
abbrev cX9_goodOf : ByteArray := prog_11_method_31_code
def yX9_goodOf : MethodName := ⟨RX9, "goodOf", "(I)I"⟩
abbrev cX9_good : ByteArray := prog_11_method_32_code
def yX9_good : MethodName := ⟨RX9, "good", "(I)I"⟩
abbrev cX9_endLoan : ByteArray := prog_11_method_33_code
def yX9_endLoan : MethodName := ⟨RX9, "endLoan", "(I)V"⟩
abbrev cX9_dayNow : ByteArray := prog_11_method_34_code
def yX9_dayNow : MethodName := ⟨RX9, "dayNow", "()V"⟩
abbrev cX9_day : ByteArray := prog_11_method_35_code
def yX9_day : MethodName := ⟨RX9, "day", "(I)I"⟩
abbrev cX9_mayDeal : ByteArray := prog_11_method_36_code
def yX9_mayDeal : MethodName := ⟨RX9, "mayDeal", "(III)Z"⟩
abbrev cX9_pay : ByteArray := prog_11_method_37_code
def yX9_pay : MethodName := ⟨RX9, "pay", "(III)V"⟩
abbrev cX9_sell : ByteArray := prog_11_method_38_code
def yX9_sell : MethodName := ⟨RX9, "sell", "(III)I"⟩
abbrev cX9_lend : ByteArray := prog_11_method_39_code
def yX9_lend : MethodName := ⟨RX9, "lend", "(IIII)I"⟩
abbrev cX9_youngest : ByteArray := prog_11_method_40_code
def yX9_youngest : MethodName := ⟨RX9, "youngest", "()I"⟩
abbrev cX9_die : ByteArray := prog_11_method_41_code
def yX9_die : MethodName := ⟨RX9, "die", "(I)I"⟩
abbrev cX9_timesIn : ByteArray := prog_11_method_42_code
def yX9_timesIn : MethodName := ⟨RX9, "timesIn", "(II)I"⟩
abbrev cX9_yearsBy : ByteArray := prog_11_method_43_code
def yX9_yearsBy : MethodName := ⟨RX9, "yearsBy", "(III)I"⟩
abbrev cX9_olderBy : ByteArray := prog_11_method_44_code
def yX9_olderBy : MethodName := ⟨RX9, "olderBy", "(III)I"⟩
abbrev cX9_ageIn : ByteArray := prog_11_method_45_code
def yX9_ageIn : MethodName := ⟨RX9, "ageIn", "(III)I"⟩
abbrev cX9_foretold : ByteArray := prog_11_method_46_code
def yX9_foretold : MethodName := ⟨RX9, "foretold", "(II)I"⟩
abbrev cX9_coin : ByteArray := prog_11_method_47_code
def yX9_coin : MethodName := ⟨RX9, "coin", "(IIII)I"⟩
abbrev cX9_life : ByteArray := prog_11_method_48_code
def yX9_life : MethodName := ⟨RX9, "life", "(III)I"⟩
abbrev cX9_votes : ByteArray := prog_11_method_49_code
def yX9_votes : MethodName := ⟨RX9, "votes", "(I)I"⟩
abbrev cX9_areEnough : ByteArray := prog_11_method_50_code
def yX9_areEnough : MethodName := ⟨RX9, "areEnough", "(II)Z"⟩
abbrev cX9_findGiven : ByteArray := prog_11_method_51_code
def yX9_findGiven : MethodName := ⟨RX9, "findGiven", "(III)I"⟩
abbrev cX9_given : ByteArray := prog_11_method_52_code
def yX9_given : MethodName := ⟨RX9, "given", "(IIII)I"⟩
abbrev cX9_bits : ByteArray := prog_11_method_53_code
def yX9_bits : MethodName := ⟨RX9, "bits", "(I)I"⟩
abbrev cX9_worthTo : ByteArray := prog_11_method_54_code
def yX9_worthTo : MethodName := ⟨RX9, "worthTo", "(II)I"⟩
abbrev cX9_changes : ByteArray := prog_11_method_55_code
def yX9_changes : MethodName := ⟨RX9, "changes", "()Z"⟩
abbrev cX9_rests : ByteArray := prog_11_method_56_code
def yX9_rests : MethodName := ⟨RX9, "rests", "(I)I"⟩
abbrev cX9_tell : ByteArray := prog_11_method_57_code
def yX9_tell : MethodName := ⟨RX9, "tell", "(III)I"⟩
abbrev cX9_tear : ByteArray := prog_11_method_58_code
def yX9_tear : MethodName := ⟨RX9, "tear", "()I"⟩
abbrev cX9_wrongWithout : ByteArray := prog_11_method_59_code
def yX9_wrongWithout : MethodName := ⟨RX9, "wrongWithout", "(I)I"⟩
abbrev cX9_judge : ByteArray := prog_11_method_60_code
def yX9_judge : MethodName := ⟨RX9, "judge", "()I"⟩
abbrev cX9_forged : ByteArray := prog_11_method_61_code
def yX9_forged : MethodName := ⟨RX9, "forged", "()I"⟩
abbrev cX9_draw : ByteArray := prog_11_method_62_code
def yX9_draw : MethodName := ⟨RX9, "draw", "(I)I"⟩
abbrev cX9_drift : ByteArray := prog_11_method_63_code
def yX9_drift : MethodName := ⟨RX9, "drift", "(I)I"⟩
abbrev cX9_seed : ByteArray := prog_11_method_64_code
def yX9_seed : MethodName := ⟨RX9, "seed", "(I)I"⟩
abbrev cX9_keep : ByteArray := prog_11_method_65_code
def yX9_keep : MethodName := ⟨RX9, "keep", "(I)I"⟩
abbrev cX9_goBack : ByteArray := prog_11_method_66_code
def yX9_goBack : MethodName := ⟨RX9, "goBack", "(I)I"⟩
def RJ6 : String := "java/lang/Integer"
abbrev cJ6_numberOfTrailingZeros_0f7a4 : ByteArray := prog_12_method_48_code
def yJ6_numberOfTrailingZeros_0f7a4 : MethodName := ⟨RJ6, "numberOfTrailingZeros", "(I)I"⟩
abbrev cJ6_bitCount_0f7a4 : ByteArray := prog_12_method_49_code
def yJ6_bitCount_0f7a4 : MethodName := ⟨RJ6, "bitCount", "(I)I"⟩
def RJ9 : String := "java/lang/Math"
abbrev cJ9_max_7cf53 : ByteArray := prog_13_method_65_code
def yJ9_max_7cf53 : MethodName := ⟨RJ9, "max", "(II)I"⟩
abbrev cJ9_min_7cf53 : ByteArray := prog_13_method_69_code
def yJ9_min_7cf53 : MethodName := ⟨RJ9, "min", "(II)I"⟩
abbrev cJ9_min_f86c9 : ByteArray := prog_13_method_70_code
def yJ9_min_f86c9 : MethodName := ⟨RJ9, "min", "(JJ)J"⟩
def RJ0 : String := "java/lang/String"
abbrev cJ0_length_8abf5 : ByteArray := prog_14_method_54_code
def yJ0_length_8abf5 : MethodName := ⟨RJ0, "length", "()I"⟩
abbrev cJ0_charAt_5068e : ByteArray := prog_14_method_56_code
def yJ0_charAt_5068e : MethodName := ⟨RJ0, "charAt", "(I)C"⟩
abbrev cJ0_coder_7d493 : ByteArray := prog_14_method_152_code
def yJ0_coder_7d493 : MethodName := ⟨RJ0, "coder", "()B"⟩
abbrev cJ0_isLatin1_aae02 : ByteArray := prog_14_method_154_code
def yJ0_isLatin1_aae02 : MethodName := ⟨RJ0, "isLatin1", "()Z"⟩
abbrev cJ0_checkIndex_df160 : ByteArray := prog_14_method_155_code
def yJ0_checkIndex_df160 : MethodName := ⟨RJ0, "checkIndex", "(II)V"⟩
def RJ1 : String := "java/lang/StringLatin1"
abbrev cJ1_charAt_3b067 : ByteArray := prog_15_method_2_code
def yJ1_charAt_3b067 : MethodName := ⟨RJ1, "charAt", "([BI)C"⟩
def RJ2 : String := "java/lang/StringUTF16"
abbrev cJ2_getChar_3b067 : ByteArray := prog_16_method_5_code
def yJ2_getChar_3b067 : MethodName := ⟨RJ2, "getChar", "([BI)C"⟩
abbrev cJ2_length_9d52b : ByteArray := prog_16_method_6_code
def yJ2_length_9d52b : MethodName := ⟨RJ2, "length", "([B)I"⟩
abbrev cJ2_charAt_3b067 : ByteArray := prog_16_method_83_code
def yJ2_charAt_3b067 : MethodName := ⟨RJ2, "charAt", "([BI)C"⟩
abbrev cJ2_checkIndex_2214a : ByteArray := prog_16_method_91_code
def yJ2_checkIndex_2214a : MethodName := ⟨RJ2, "checkIndex", "(I[B)V"⟩
def RJ10 : String := "java/lang/System"
def RJ7 : String := "java/util/Arrays"
abbrev cJ7_fill_d0a16 : ByteArray := prog_18_method_101_code
def yJ7_fill_d0a16 : MethodName := ⟨RJ7, "fill", "([JJ)V"⟩
abbrev cJ7_fill_53178 : ByteArray := prog_18_method_103_code
def yJ7_fill_53178 : MethodName := ⟨RJ7, "fill", "([II)V"⟩
def RJ3 : String := "jdk/internal/util/Preconditions"
abbrev cJ3_checkIndex_8e157 : ByteArray := prog_19_method_11_code
def yJ3_checkIndex_8e157 : MethodName := ⟨RJ3, "checkIndex", "(IILjava/util/function/BiFunction;)I"⟩
def RL : String := "OwnBirthdaysLaw"
abbrev cL_law : ByteArray := code
def yL_law : MethodName := ⟨RL, "law", "([I)Z"⟩
abbrev vwCl : List vw_C := [(RX0, TX0, 4), (RX1, TX1, 7), (RX2, TX2, 10), (RX3, TX3, 8), (RX4, TX4, 2), (RX5, TX5, 3), (RX6, TX6, 9), (RX7, TX7, 4), (RX8, TX8, 12), (RX9, TX9, 48)]
end
section
/-! THE JUDGEMENT: a method at a place of its code, its locals and operands and the memory as pure values (a reference is a cell's number), comes to its end with an answer and a memory that Q takes -/
abbrev ob_Mem : Type := (Nat → Nat → Int32) × (Nat → Nat → Int64)
abbrev ob_Sh : Type := List ((Nat × Nat) ⊕ (Nat × List Nat))
abbrev ob_E : Type := Launch × va_G × (Nat → ClassId) × (Nat → Nat)
abbrev ob_M : Type := MethodName × ByteArray × Nat × Option FieldType × Nat × Nat
def ob_cv (E : ob_E) : Value → Value
  | .ref i => .ref (E.2.2.2 i)
  | v => v
theorem ob_cv_cat (E : ob_E) (v : Value) : (ob_cv E v).category = v.category := by cases v <;> rfl
/-- what a field is, by its class and place: 0 a reference, 1 an int, 2 a long, 3 a boolean -/
def ob_fk : List (List Nat) := [[0, 0, 1, 1], [0, 0, 0, 0, 1, 1, 2], [0, 0, 0, 0, 0, 0, 1, 1, 1, 1], [0, 0, 1, 1, 1, 1, 1, 3], [0, 0], [0, 0, 1], [0, 0, 0, 0, 0, 0, 1, 1, 1], [0, 0, 0, 1], [0, 0, 0, 0, 0, 0, 0, 0, 0, 0, 1, 1], [1, 1, 0, 0, 1, 0, 0, 0, 0, 1, 0, 0, 0, 0, 0, 0, 1, 0, 1, 1, 1, 2, 1, 1, 1, 1, 1, 1, 0, 0, 1, 0, 0, 0, 1, 0, 0, 0, 0, 0, 0, 0, 1, 0, 0, 0, 0, 0]]
def ob_fv (E : ob_E) (σ : ob_Mem) (i : Nat) (rs : List Nat) (kd k : Nat) : Value := if kd = 0 then .ref (E.2.2.2 (rs.getD k 0)) else if kd = 2 then .long (σ.2 i k) else .int (σ.1 i k)
def ob_fs (E : ob_E) (σ : ob_Mem) (i ci : Nat) (rs : List Nat) : List Value := (ob_fk.getD ci []).mapIdx (fun k kd => ob_fv E σ i rs kd k)
def ob_ce (E : ob_E) (σ : ob_Mem) (i : Nat) (x : (Nat × Nat) ⊕ (Nat × List Nat)) : va_E := match x with
  | .inl q => .inl (E.2.2.1 q.1, q.2, if q.1 = 3 then .inr (.inl (σ.2 i)) else .inl (σ.1 i))
  | .inr q => .inr (q.1, ob_fs E σ i q.1 q.2)
def ob_ws (sh : ob_Sh) (E : ob_E) (σ : ob_Mem) : va_W := sh.mapIdx (fun i x => (E.2.2.2 i, ob_ce E σ i x))
def ob_tys (E : ob_E) : List (ClassId × FieldType) := [(E.2.2.1 0, .int), (E.2.2.1 1, .byte), (E.2.2.1 2, .boolean), (E.2.2.1 3, .long)]
/-- one int, one long, one row of ints, one row of longs written -/
def ob_wI (σ : ob_Mem) (i k : Nat) (x : Int32) : ob_Mem := (fun a b => if a = i then (if b = k then x else σ.1 a b) else σ.1 a b, σ.2)
def ob_wL (σ : ob_Mem) (i k : Nat) (x : Int64) : ob_Mem := (σ.1, fun a b => if a = i then (if b = k then x else σ.2 a b) else σ.2 a b)
def ob_wA (σ : ob_Mem) (i : Nat) (f : Nat → Int32) : ob_Mem := (fun a => if a = i then f else σ.1 a, σ.2)
theorem ob_ws_at {sh : ob_Sh} {E : ob_E} {σ : ob_Mem} {i : Nat} {x : (Nat × Nat) ⊕ (Nat × List Nat)} (h : sh[i]? = some x) : (ob_ws sh E σ)[i]? = some (E.2.2.2 i, ob_ce E σ i x) := by
  simp [ob_ws, List.getElem?_mapIdx, h]
theorem ob_ws_set {sh : ob_Sh} {E : ob_E} {σ σ' : ob_Mem} {i : Nat} {x : (Nat × Nat) ⊕ (Nat × List Nat)} {e : va_E} (h : sh[i]? = some x) (he : ob_ce E σ' i x = e) (hn : ∀ j, j ≠ i → σ'.1 j = σ.1 j ∧ σ'.2 j = σ.2 j) : (ob_ws sh E σ).set i (E.2.2.2 i, e) = ob_ws sh E σ' := by
  apply List.ext_getElem?
  intro j
  rw [List.getElem?_set]
  by_cases hj : i = j
  · subst hj
    have hl : i < sh.length := (List.getElem?_eq_some_iff.mp h).1
    rw [if_pos rfl, if_pos (by simpa [ob_ws] using hl), ob_ws_at h, he]
  · rw [if_neg hj]
    simp only [ob_ws, List.getElem?_mapIdx]
    cases hx : sh[j]? with
    | none => rfl
    | some z =>
      have h1 := hn j (fun e => hj e.symm)
      cases z with
      | inl q => simp [ob_ce, h1.1, h1.2]
      | inr q => simp [ob_ce, ob_fs, ob_fv, h1.1, h1.2]
theorem ob_ws_I {sh : ob_Sh} {E : ob_E} {σ : ob_Mem} {i t n k : Nat} {x : Int32} (h : sh[i]? = some (.inl (t, n))) (ht : t ≠ 3) : (ob_ws sh E σ).set i (E.2.2.2 i, .inl (E.2.2.1 t, n, .inl (upd (σ.1 i) k x))) = ob_ws sh E (ob_wI σ i k x) := by
  refine ob_ws_set h ?_ (fun j hj => ⟨by funext b; simp [ob_wI, hj], rfl⟩)
  simp only [ob_ce, if_neg ht]
  congr 3
  have : (ob_wI σ i k x).1 i = upd (σ.1 i) k x := by
    funext b
    simp [ob_wI, upd]
  rw [this]
theorem ob_ws_L {sh : ob_Sh} {E : ob_E} {σ : ob_Mem} {i n k : Nat} {x : Int64} (h : sh[i]? = some (.inl (3, n))) : (ob_ws sh E σ).set i (E.2.2.2 i, .inl (E.2.2.1 3, n, .inr (.inl (vp_updL (σ.2 i) k x)))) = ob_ws sh E (ob_wL σ i k x) := by
  refine ob_ws_set h ?_ (fun j hj => ⟨rfl, by funext b; simp [ob_wL, hj]⟩)
  have : (ob_wL σ i k x).2 i = vp_updL (σ.2 i) k x := by
    funext b
    simp [ob_wL, vp_updL]
  simp [ob_ce, this]
theorem ob_ws_A {sh : ob_Sh} {E : ob_E} {σ : ob_Mem} {i t n : Nat} {f : Nat → Int32} (h : sh[i]? = some (.inl (t, n))) (ht : t ≠ 3) : (ob_ws sh E σ).set i (E.2.2.2 i, .inl (E.2.2.1 t, n, .inl f)) = ob_ws sh E (ob_wA σ i f) := by
  refine ob_ws_set h ?_ (fun j hj => ⟨by simp [ob_wA, hj], rfl⟩)
  simp [ob_ce, if_neg ht, ob_wA]
theorem ob_ws_fI {sh : ob_Sh} {E : ob_E} {σ : ob_Mem} {i ci k kd : Nat} {rs : List Nat} {x : Int32} (h : sh[i]? = some (.inr (ci, rs))) (hk : (ob_fk.getD ci [])[k]? = some kd) (h0 : kd ≠ 0) (h2 : kd ≠ 2) : (ob_ws sh E σ).set i (E.2.2.2 i, .inr (ci, (ob_fs E σ i ci rs).set k (.int x))) = ob_ws sh E (ob_wI σ i k x) := by
  refine ob_ws_set h ?_ (fun j hj => ⟨by funext b; simp [ob_wI, hj], rfl⟩)
  simp only [ob_ce]
  congr 2
  apply List.ext_getElem?
  intro j
  rw [List.getElem?_set]
  simp only [ob_fs, List.getElem?_mapIdx, List.length_mapIdx]
  have hl : k < (ob_fk.getD ci []).length := (List.getElem?_eq_some_iff.mp hk).1
  by_cases hj : k = j
  · subst hj
    rw [if_pos rfl, if_pos hl, hk]
    simp [ob_fv, h0, h2, ob_wI]
  · rw [if_neg hj]
    cases (ob_fk.getD ci [])[j]? with
    | none => rfl
    | some z =>
      have hj' : ¬ j = k := fun e => hj e.symm
      simp [ob_fv, ob_wI, hj']
theorem ob_ws_fL {sh : ob_Sh} {E : ob_E} {σ : ob_Mem} {i ci k : Nat} {rs : List Nat} {x : Int64} (h : sh[i]? = some (.inr (ci, rs))) (hk : (ob_fk.getD ci [])[k]? = some 2) : (ob_ws sh E σ).set i (E.2.2.2 i, .inr (ci, (ob_fs E σ i ci rs).set k (.long x))) = ob_ws sh E (ob_wL σ i k x) := by
  refine ob_ws_set h ?_ (fun j hj => ⟨rfl, by funext b; simp [ob_wL, hj]⟩)
  simp only [ob_ce]
  congr 2
  apply List.ext_getElem?
  intro j
  rw [List.getElem?_set]
  simp only [ob_fs, List.getElem?_mapIdx, List.length_mapIdx]
  have hl : k < (ob_fk.getD ci []).length := (List.getElem?_eq_some_iff.mp hk).1
  by_cases hj : k = j
  · subst hj
    rw [if_pos rfl, if_pos hl, hk]
    simp [ob_fv, ob_wL]
  · rw [if_neg hj]
    cases (ob_fk.getD ci [])[j]? with
    | none => rfl
    | some z =>
      have hj' : ¬ j = k := fun e => hj e.symm
      simp [ob_fv, ob_wL, hj']
/-- the cells that may change, their addresses apart -/
def ob_F (sh : ob_Sh) (E : ob_E) : Nat → Prop := fun q => ∃ i, i < sh.length ∧ q = E.2.2.2 i
def ob_inj (sh : ob_Sh) (E : ob_E) : Prop := ∀ i j, i < sh.length → j < sh.length → E.2.2.2 i = E.2.2.2 j → i = j
theorem ob_inj.D {sh : ob_Sh} {E : ob_E} (h : ob_inj sh E) (σ : ob_Mem) : va_D (ob_F sh E) (ob_ws sh E σ) := by
  have key : ∀ (k : Nat) (q : Nat × va_E), (ob_ws sh E σ)[k]? = some q → k < sh.length ∧ q.1 = E.2.2.2 k := by
    intro k q hk
    have hl : k < (ob_ws sh E σ).length := (List.getElem?_eq_some_iff.mp hk).1
    have hl2 : k < sh.length := by simpa [ob_ws] using hl
    obtain ⟨x, hx⟩ : ∃ x, sh[k]? = some x := ⟨_, List.getElem?_eq_getElem hl2⟩
    rw [ob_ws_at hx] at hk
    cases hk
    exact ⟨hl2, rfl⟩
  refine ⟨fun i j p q hp hq e => ?_, fun k q hk => ⟨k, key k q hk⟩⟩
  obtain ⟨a1, a2⟩ := key i p hp
  obtain ⟨b1, b2⟩ := key j q hq
  exact h i j a1 b1 (by rw [← a2, ← b2]; exact e)
/-- what stands outside the cells that may change: the table FIGURE, the four words, two statics of the JDK, a link to a nest mate -/
def ob_fig (j : Nat) : Int32 := ([279936, 46656, 7776, 1296, 216, 36, 6, 1] : List Int32).getD j 0
def ob_sl : List Nat := [4, 6, 8, 4]
def ob_sb : List (List Int32) := [[121, 101, 97, 114], [112, 101, 114, 115, 111, 110], [98, 105, 114, 116, 104, 100, 97, 121], [103, 111, 111, 100]]
def ob_sk : List (Nat × String) := [(51, "year"), (61, "person"), (66, "birthday"), (71, "good")]
def ob_RO (sh : ob_Sh) (E : ob_E) (s : State) (H : Heap) : Prop :=
  va_Z RX1 "FIGURE" "[I" (.ref (E.2.2.2 100)) (ob_F sh E) s H ∧ va_T .int (E.2.2.2 100) 8 (fun j => .int (ob_fig j)) (ob_F sh E) s H ∧
  (∀ i, i < 4 → vk_R RX3 (ob_sk.getD i (0, "")).1 (ob_sk.getD i (0, "")).2 (E.2.2.2 (110 + i)) s) ∧ vk_S 4 ob_sl ob_sb (fun i => E.2.2.2 (110 + i)) (fun i => E.2.2.2 (120 + i)) (ob_F sh E) s H ∧
  va_Z RJ0 "COMPACT_STRINGS" "Z" (.int 1) (ob_F sh E) s H ∧ va_Z RJ3 "SIOOBE_FORMATTER" "Ljava/util/function/BiFunction;" (.ref (E.2.2.2 130)) (ob_F sh E) s H ∧ va_Nw (.methodLinkNest RX3 80 yX8_isOutside RX8) s
theorem ob_RO.kept {sh : ob_Sh} {E : ob_E} {s : State} {H H1 : Heap} (h : ob_RO sh E s H) (hq : ∀ a : Nat, a < H.size → ¬ ob_F sh E a → H1[a]? = H[a]?) : ob_RO sh E s H1 := by
  obtain ⟨h1, h2, h3, h4, h5, h6, h7⟩ := h
  exact ⟨h1.kept hq, h2.kept hq, h3, h4.kept hq, h5.kept hq, h6.kept hq, h7⟩
theorem ob_RO.warm {sh : ob_Sh} {E : ob_E} {s U : State} {H : Heap} (h : ob_RO sh E s H) (hW : s.WarmedH U.vm) : ob_RO sh E U H := by
  obtain ⟨h1, h2, h3, h4, h5, h6, h7⟩ := h
  exact ⟨h1.moved hW.alike, h2.moved hW.alike, fun i hi => (h3 i hi).warm hW, h4.moved hW.alike, h5.moved hW.alike, h6.moved hW.alike, h7.warmM hW⟩
theorem ob_RO.same {sh : ob_Sh} {E : ob_E} {s U : State} {H : Heap} (h : ob_RO sh E s H) (hv : U.vm = s.vm) : ob_RO sh E U H := by
  obtain ⟨h1, h2, h3, h4, h5, h6, h7⟩ := h
  have ha : s.vm.Alike U.vm := by rw [hv]; exact Vm.Alike.refl _
  exact ⟨h1.moved ha, h2.moved ha, fun i hi => (h3 i hi).same hv, h4.moved ha, h5.moved ha, h6.moved ha, h7.same rfl hv.symm⟩
/-- the words of the tables that a call may take along -/
def ob_good : List Cond := lw_tbl.filter goodWord
theorem ob_mem {w : Cond} (i : Nat) (h : lw_tbl[i]? = some w) (hg : goodWord w = true) : w ∈ ob_good := List.mem_filter.mpr ⟨List.mem_of_getElem? h, hg⟩
def ob_w (y : ob_M) : List Cond := Cond.code y.1 y.2.1 y.2.2.1 y.2.2.2.1 :: ob_good
def ob_rm (y : ob_M) : Room := { frames := y.2.2.2.2.1, cells := 0, slots := 0, locals := y.2.2.2.2.2 }
theorem ob_goodIn {y z : ob_M} (hz : Cond.code z.1 z.2.1 z.2.2.1 z.2.2.2.1 ∈ ob_good) : GoodIn (ob_w y) (ob_w z) := by
  intro w hw
  have h1 : w ∈ ob_good := by
    rcases List.mem_cons.mp hw with rfl | h
    · exact hz
    · exact h
  exact ⟨List.mem_cons_of_mem _ h1, good_of_word (List.mem_filter.mp h1).2⟩
/-- locals: null is a place of which nothing is known -/
def ob_lv (E : ob_E) : Nat → List Value → List (Nat × Value)
  | _, [] => []
  | k, v :: t => if v = .null then ob_lv E (k + 1) t else (k, ob_cv E v) :: ob_lv E (k + 1) t
theorem ob_lv_mem (E : ob_E) : ∀ (ls : List Value) (k i : Nat) (w : Value), (i, w) ∈ ob_lv E k ls ↔ ∃ v, k ≤ i ∧ ls[i - k]? = some v ∧ v ≠ .null ∧ w = ob_cv E v
  | [], k, i, w => by simp [ob_lv]
  | u :: t, k, i, w => by
    have ih := ob_lv_mem E t (k + 1) i w
    have hsplit : (∃ v, k ≤ i ∧ (u :: t)[i - k]? = some v ∧ v ≠ .null ∧ w = ob_cv E v) ↔ ((i = k ∧ u ≠ .null ∧ w = ob_cv E u) ∨ ∃ v, k + 1 ≤ i ∧ t[i - (k + 1)]? = some v ∧ v ≠ .null ∧ w = ob_cv E v) := by
      constructor
      · rintro ⟨v, h1, h2, h3, h4⟩
        by_cases hik : i = k
        · subst hik
          simp at h2
          subst h2
          exact Or.inl ⟨rfl, h3, h4⟩
        · refine Or.inr ⟨v, by omega, ?_, h3, h4⟩
          rw [show i - k = (i - (k + 1)) + 1 by omega, List.getElem?_cons_succ] at h2
          exact h2
      · rintro (⟨rfl, h3, h4⟩ | ⟨v, h1, h2, h3, h4⟩)
        · exact ⟨u, Nat.le_refl _, by simp, h3, h4⟩
        · refine ⟨v, by omega, ?_, h3, h4⟩
          rw [show i - k = (i - (k + 1)) + 1 by omega, List.getElem?_cons_succ]
          exact h2
    rw [hsplit]
    by_cases hu : u = .null
    · simp only [ob_lv, if_pos hu, ih]
      constructor
      · exact Or.inr
      · rintro (⟨-, h, -⟩ | h)
        · exact absurd hu h
        · exact h
    · simp only [ob_lv, if_neg hu, List.mem_cons, ih, Prod.mk.injEq]
      constructor
      · rintro (⟨h1, h2⟩ | h)
        · exact Or.inl ⟨h1, hu, h2⟩
        · exact Or.inr h
      · rintro (⟨h1, -, h2⟩ | h)
        · exact Or.inl ⟨h1, h2⟩
        · exact Or.inr h
def ob_L (E : ob_E) (lsM : Array Slot) (n : Nat) (ls : List Value) : Prop := lv_has lsM n (ob_lv E 0 ls)
theorem ob_L.at {E : ob_E} {lsM : Array Slot} {n : Nat} {ls : List Value} (h : ob_L E lsM n ls) {i : Nat} {v : Value} (hi : ls[i]? = some v) (hv : v ≠ .null) : lsM[i]? = some (.val (ob_cv E v)) := h.2.2 (i, ob_cv E v) ((ob_lv_mem E ls 0 i _).mpr ⟨v, Nat.zero_le _, hi, hv, rfl⟩)
theorem ob_lv_has {lsM : Array Slot} {n : Nat} {a b : List (Nat × Value)} (h : lv_has lsM n a) (hs : ∀ q ∈ b, q ∈ a) : lv_has lsM n b := ⟨h.1, h.2.1, fun q hq => h.2.2 q (hs q hq)⟩
def ob_k1 (ls : List Value) (i : Nat) : List Value := match i with
  | 0 => ls
  | j + 1 => if (ls.getD j .null).category = 2 then ls.set j .null else ls
def ob_s1 (ls : List Value) (i : Nat) (v : Value) : List Value := (ob_k1 ls i).set i v
def ob_s2 (ls : List Value) (i : Nat) (v : Value) : List Value := ((ob_k1 ls i).set (i + 1) .null).set i v
theorem ob_k1_at {ls : List Value} {i j : Nat} {v : Value} (h : (ob_k1 ls i)[j]? = some v) (hv : v ≠ .null) : ls[j]? = some v ∧ ¬ (j + 1 = i ∧ v.category = 2) := by
  cases i with
  | zero => exact ⟨h, fun e => by omega⟩
  | succ i =>
    simp only [ob_k1] at h
    split at h
    · rename_i hc
      rw [List.getElem?_set] at h
      split at h
      · split at h
        · cases h; exact absurd rfl hv
        · cases h
      · rename_i hij
        exact ⟨h, fun e => hij (by omega)⟩
    · rename_i hc
      refine ⟨h, fun e => hc ?_⟩
      have : j = i := by omega
      subst this
      rw [List.getD_eq_getElem?_getD, h]
      exact e.2
theorem ob_s1_sub {E : ob_E} {ls : List Value} {i : Nat} {v : Value} : ∀ q ∈ ob_lv E 0 (ob_s1 ls i v), q ∈ (i, ob_cv E v) :: (ob_lv E 0 ls).filter (fun q => !(q.1 == i) && !(q.1 + 1 == i && q.2.category == 2)) := by
  rintro ⟨j, w⟩ hq
  obtain ⟨u, -, h1, h2, rfl⟩ := (ob_lv_mem E _ 0 j w).mp hq
  rw [Nat.sub_zero, ob_s1, List.getElem?_set] at h1
  split at h1
  · rename_i hij
    split at h1
    · cases h1
      subst hij
      exact List.mem_cons_self
    · cases h1
  · rename_i hij
    obtain ⟨a1, a2⟩ := ob_k1_at h1 h2
    refine List.mem_cons_of_mem _ (List.mem_filter.mpr ⟨(ob_lv_mem E ls 0 j _).mpr ⟨u, Nat.zero_le _, a1, h2, rfl⟩, ?_⟩)
    have hne : (j == i) = false := by simpa using fun e : j = i => hij e.symm
    simp only [hne, ob_cv_cat, Bool.not_false, Bool.true_and, Bool.not_eq_true']
    by_cases hc : j + 1 = i
    · have : u.category ≠ 2 := fun e => a2 ⟨hc, e⟩
      simp [this]
    · simp [hc]
theorem ob_s2_sub {E : ob_E} {ls : List Value} {i : Nat} {v : Value} : ∀ q ∈ ob_lv E 0 (ob_s2 ls i v), q ∈ (i, ob_cv E v) :: (ob_lv E 0 ls).filter (fun q => !(q.1 == i) && (!(q.1 == i + 1) && !(q.1 + 1 == i && q.2.category == 2))) := by
  rintro ⟨j, w⟩ hq
  obtain ⟨u, -, h1, h2, rfl⟩ := (ob_lv_mem E _ 0 j w).mp hq
  rw [Nat.sub_zero, ob_s2, List.getElem?_set] at h1
  split at h1
  · rename_i hij
    split at h1
    · cases h1
      subst hij
      exact List.mem_cons_self
    · cases h1
  · rename_i hij
    rw [List.getElem?_set] at h1
    split at h1
    · split at h1
      · cases h1; exact absurd rfl h2
      · cases h1
    · rename_i hij2
      obtain ⟨a1, a2⟩ := ob_k1_at h1 h2
      refine List.mem_cons_of_mem _ (List.mem_filter.mpr ⟨(ob_lv_mem E ls 0 j _).mpr ⟨u, Nat.zero_le _, a1, h2, rfl⟩, ?_⟩)
      have hne : (j == i) = false := by simpa using fun e : j = i => hij e.symm
      have hne2 : (j == i + 1) = false := by simpa using fun e : j = i + 1 => hij2 e.symm
      simp only [hne, hne2, ob_cv_cat, Bool.not_false, Bool.true_and, Bool.not_eq_true']
      by_cases hc : j + 1 = i
      · have : u.category ≠ 2 := fun e => a2 ⟨hc, e⟩
        simp [this]
      · simp [hc]
/-- the locals at a method's entry -/
def ob_ex : List Value → List Value
  | [] => []
  | v :: t => if v.category = 2 then v :: .null :: ob_ex t else v :: ob_ex t
theorem ob_ex_sub (E : ob_E) (n : Nat) : ∀ (vs : List Value) (k : Nat), ∀ q ∈ ob_lv E k (ob_ex vs ++ List.replicate n .null), q ∈ lv_args k (vs.map (ob_cv E))
  | [], k => by
    rintro ⟨j, w⟩ hq
    obtain ⟨u, -, h1, h2, rfl⟩ := (ob_lv_mem E _ k j w).mp hq
    simp only [ob_ex, List.nil_append] at h1
    have := List.mem_of_getElem? h1
    exact absurd (List.eq_of_mem_replicate this) h2
  | v :: t, k => by
    intro q hq
    simp only [ob_ex, List.map_cons, lv_args, ob_cv_cat] at hq ⊢
    by_cases hc : v.category = 2
    · simp only [if_pos hc, List.cons_append, ob_lv] at hq ⊢
      split at hq
      · rename_i hv
        subst hv
        cases hc
      · rcases List.mem_cons.mp hq with rfl | h
        · exact List.mem_cons_self
        · exact List.mem_cons_of_mem _ (ob_ex_sub E n t (k + 2) q h)
    · simp only [if_neg hc, List.cons_append, ob_lv] at hq ⊢
      split at hq
      · exact List.mem_cons_of_mem _ (ob_ex_sub E n t (k + 1) q hq)
      · rcases List.mem_cons.mp hq with rfl | h
        · exact List.mem_cons_self
        · exact List.mem_cons_of_mem _ (ob_ex_sub E n t (k + 1) q h)
def ob_CX (sh : ob_Sh) (E : ob_E) (y : ob_M) (p : Program) (s : State) (m : MethodId) (args : Array Value) (meth : Method) (c : Code) (H : Heap) (locs : List Loc) (lsM : Array Slot) (ls : List Value) (σ : ob_Mem) : Prop :=
  p.tables.exec = Jvm.exec ∧ c.code = y.2.1 ∧ meth.sig.returnType = y.2.2.2.1 ∧ meth.locks = false ∧ c.maxLocals = y.2.2.1 ∧ s.vm.findClass y.1.cls = some m.cls ∧ (∀ w ∈ ob_w y, w.before args s = true) ∧ va_K E.2.1 vwCl (ob_tys E) s ∧ ob_RO sh E s s.heap ∧ ob_inj sh E ∧ va_P E.2.1 vwCl (ob_ws sh E σ) H ∧ va_S (ob_F sh E) s.heap H locs ∧ ob_L E lsM y.2.2.1 ls
def ob_QQ (sh : ob_Sh) (E : ob_E) (Q : Option Value → ob_Mem → Prop) : Array Value → State → Outcome → State → Prop := fun _ st oc t => (∃ (r : Option Value) (σ' : ob_Mem), oc = .returned (r.map (ob_cv E)) ∧ Q r σ' ∧ va_P E.2.1 vwCl (ob_ws sh E σ') t.heap) ∧ va_F (ob_F sh E) st t
def ob_PP (sh : ob_Sh) (E : ob_E) (vs : List Value) (σ : ob_Mem) : Array Value → State → Prop := fun v U => v = (vs.map (ob_cv E)).toArray ∧ va_P E.2.1 vwCl (ob_ws sh E σ) U.heap ∧ va_K E.2.1 vwCl (ob_tys E) U ∧ ob_RO sh E U U.heap ∧ ob_inj sh E
/-- a method called with these arguments, over this memory -/
def ob_RM (sh : ob_Sh) (E : ob_E) (y : ob_M) (vs : List Value) (σ : ob_Mem) (Q : Option Value → ob_Mem → Prop) : Prop := Met E.1 y.1 (ob_w y) (ob_rm y) (ob_PP sh E vs σ) (ob_QQ sh E Q) 0 0 (ob_F sh E)
/-- a method at a place of its code -/
def ob_RT (sh : ob_Sh) (E : ob_E) (y : ob_M) (pc : Nat) (ls st : List Value) (σ : ob_Mem) (Q : Option Value → ob_Mem → Prop) : Prop :=
  ∀ (p : Program) (e : Env) (s : State) (m : MethodId) (args : Array Value) (below : List Frame) (meth : Method) (c : Code) (H : Heap) (locs : List Loc) (lsM : Array Slot), ob_CX sh E y p s m args meth c H locs lsM ls σ →
    W p E.1 e (ob_rm y) s m args below meth c H locs 0 0 (MQ below (ob_QQ sh E Q) args s 0 0 (ob_F sh E)) (F0 m pc lsM (st.map (ob_cv E)))
theorem ob_blind (sh : ob_Sh) (E : ob_E) (vs : List Value) (σ : ob_Mem) : FrameBlind (ob_PP sh E vs σ) := by
  intro a U g mk q
  obtain ⟨q1, q2, q3, q4, q5⟩ := q
  exact ⟨q1, q2, va_K.moved (u := U) (U := U.calling g mk a) (Vm.Alike.refl U.vm) q3, ob_RO.same (U := U.calling g mk a) q4 rfl, q5⟩
/-- from the entry of the code to the call -/
theorem ob_entry {sh : ob_Sh} {E : ob_E} {y : ob_M} {vs : List Value} {σ : ob_Mem} {Q : Option Value → ob_Mem → Prop} (n : Nat) {ls : List Value} (hls : ob_ex vs ++ List.replicate n .null = ls) (hy : plainName y.1.cls = true) (hn : (lg_sl (vs.map (ob_cv E))).length ≤ y.2.2.1) (h : ob_RT sh E y 0 ls [] σ Q) : ob_RM sh E y vs σ Q := by
  refine Met.ofW (cc := y.2.1) (maxL := y.2.2.1) (ret := y.2.2.2.1) hy rfl ?_
  intro p e s m args below meth c s₁ B hml hv
  obtain ⟨rfl, hP, hK, hRO, hi⟩ := hv
  have hl := lv_entry (vs.map (ob_cv E)) (n := y.2.2.1) hn
  rw [lg_entry_eq]
  generalize (lg_sl (vs.map (ob_cv E)) ++ List.replicate (y.2.2.1 - (lg_sl (vs.map (ob_cv E))).length) Slot.unset).toArray = lsM at hl ⊢
  have hL : ob_L E lsM y.2.2.1 ls := by
    subst hls
    exact ob_lv_has hl (ob_ex_sub E n vs 0)
  exact h p e s m _ below meth c s.heap [] lsM ⟨B.exec, B.bytes, B.returns, B.notSynchronized, hml, findClass_of_methodNamed B.named, atoms_spec (ws := ob_w y) B.pre, hK, hRO, hi, hP, va_S.rf, hL⟩
end
section
/-! the rows of the judgement, one an instruction (printed by wip/whole/rows.py) -/
theorem ob_iconst {sh : ob_Sh} {E : ob_E} {y : ob_M} {pc : Nat} {ls st : List Value} {σ : ob_Mem} {Q : Option Value → ob_Mem → Prop} {n : Int} {v : Int32} (d : decode y.2.1 pc = .ok (.iconst n, 1)) (hv : Int32.ofInt n = v) (k : ob_RT sh E y (pc + 1) ls (.int v :: st) σ Q) : ob_RT sh E y pc ls (st) σ Q := fun p e s m args below meth c H locs lsM h => lv_iconst h.1 h.2.1 d hv (k p e s m args below meth c H locs lsM h)
theorem ob_bipush {sh : ob_Sh} {E : ob_E} {y : ob_M} {pc : Nat} {ls st : List Value} {σ : ob_Mem} {Q : Option Value → ob_Mem → Prop} {n : Int} {v : Int32} (d : decode y.2.1 pc = .ok (.bipush n, 2)) (hv : (Int8.ofInt n).toInt32 = v) (k : ob_RT sh E y (pc + 2) ls (.int v :: st) σ Q) : ob_RT sh E y pc ls (st) σ Q := fun p e s m args below meth c H locs lsM h => lv_bipush h.1 h.2.1 d hv (k p e s m args below meth c H locs lsM h)
theorem ob_sipush {sh : ob_Sh} {E : ob_E} {y : ob_M} {pc : Nat} {ls st : List Value} {σ : ob_Mem} {Q : Option Value → ob_Mem → Prop} {n : Int} {v : Int32} (d : decode y.2.1 pc = .ok (.sipush n, 3)) (hv : (Int16.ofInt n).toInt32 = v) (k : ob_RT sh E y (pc + 3) ls (.int v :: st) σ Q) : ob_RT sh E y pc ls (st) σ Q := fun p e s m args below meth c H locs lsM h => lv_sipush h.1 h.2.1 d hv (k p e s m args below meth c H locs lsM h)
theorem ob_lconst {sh : ob_Sh} {E : ob_E} {y : ob_M} {pc : Nat} {ls st : List Value} {σ : ob_Mem} {Q : Option Value → ob_Mem → Prop} {n : Fin 2} {v : Int64} (d : decode y.2.1 pc = .ok (.lconst n, 1)) (hv : Int64.ofNat (n : Nat) = v) (k : ob_RT sh E y (pc + 1) ls (.long v :: st) σ Q) : ob_RT sh E y pc ls (st) σ Q := fun p e s m args below meth c H locs lsM h => lv_lconst h.1 h.2.1 d hv (k p e s m args below meth c H locs lsM h)
theorem ob_iadd {sh : ob_Sh} {E : ob_E} {y : ob_M} {pc : Nat} {ls st : List Value} {σ : ob_Mem} {Q : Option Value → ob_Mem → Prop} {a b : Int32} (d : decode y.2.1 pc = .ok (.iadd, 1)) (k : ob_RT sh E y (pc + 1) ls (.int (a + b) :: st) σ Q) : ob_RT sh E y pc ls (.int b :: .int a :: st) σ Q := fun p e s m args below meth c H locs lsM h => lv_iadd h.1 h.2.1 d  (k p e s m args below meth c H locs lsM h)
theorem ob_isub {sh : ob_Sh} {E : ob_E} {y : ob_M} {pc : Nat} {ls st : List Value} {σ : ob_Mem} {Q : Option Value → ob_Mem → Prop} {a b : Int32} (d : decode y.2.1 pc = .ok (.isub, 1)) (k : ob_RT sh E y (pc + 1) ls (.int (a - b) :: st) σ Q) : ob_RT sh E y pc ls (.int b :: .int a :: st) σ Q := fun p e s m args below meth c H locs lsM h => lv_isub h.1 h.2.1 d  (k p e s m args below meth c H locs lsM h)
theorem ob_imul {sh : ob_Sh} {E : ob_E} {y : ob_M} {pc : Nat} {ls st : List Value} {σ : ob_Mem} {Q : Option Value → ob_Mem → Prop} {a b : Int32} (d : decode y.2.1 pc = .ok (.imul, 1)) (k : ob_RT sh E y (pc + 1) ls (.int (a * b) :: st) σ Q) : ob_RT sh E y pc ls (.int b :: .int a :: st) σ Q := fun p e s m args below meth c H locs lsM h => lv_imul h.1 h.2.1 d  (k p e s m args below meth c H locs lsM h)
theorem ob_iand {sh : ob_Sh} {E : ob_E} {y : ob_M} {pc : Nat} {ls st : List Value} {σ : ob_Mem} {Q : Option Value → ob_Mem → Prop} {a b : Int32} (d : decode y.2.1 pc = .ok (.iand, 1)) (k : ob_RT sh E y (pc + 1) ls (.int (a &&& b) :: st) σ Q) : ob_RT sh E y pc ls (.int b :: .int a :: st) σ Q := fun p e s m args below meth c H locs lsM h => lv_iand h.1 h.2.1 d  (k p e s m args below meth c H locs lsM h)
theorem ob_ior {sh : ob_Sh} {E : ob_E} {y : ob_M} {pc : Nat} {ls st : List Value} {σ : ob_Mem} {Q : Option Value → ob_Mem → Prop} {a b : Int32} (d : decode y.2.1 pc = .ok (.ior, 1)) (k : ob_RT sh E y (pc + 1) ls (.int (a ||| b) :: st) σ Q) : ob_RT sh E y pc ls (.int b :: .int a :: st) σ Q := fun p e s m args below meth c H locs lsM h => lv_ior h.1 h.2.1 d  (k p e s m args below meth c H locs lsM h)
theorem ob_ixor {sh : ob_Sh} {E : ob_E} {y : ob_M} {pc : Nat} {ls st : List Value} {σ : ob_Mem} {Q : Option Value → ob_Mem → Prop} {a b : Int32} (d : decode y.2.1 pc = .ok (.ixor, 1)) (k : ob_RT sh E y (pc + 1) ls (.int (a ^^^ b) :: st) σ Q) : ob_RT sh E y pc ls (.int b :: .int a :: st) σ Q := fun p e s m args below meth c H locs lsM h => lv_ixor h.1 h.2.1 d  (k p e s m args below meth c H locs lsM h)
theorem ob_ishl {sh : ob_Sh} {E : ob_E} {y : ob_M} {pc : Nat} {ls st : List Value} {σ : ob_Mem} {Q : Option Value → ob_Mem → Prop} {a b : Int32} (d : decode y.2.1 pc = .ok (.ishl, 1)) (k : ob_RT sh E y (pc + 1) ls (.int (a <<< (b &&& 31)) :: st) σ Q) : ob_RT sh E y pc ls (.int b :: .int a :: st) σ Q := fun p e s m args below meth c H locs lsM h => lv_ishl h.1 h.2.1 d  (k p e s m args below meth c H locs lsM h)
theorem ob_ishr {sh : ob_Sh} {E : ob_E} {y : ob_M} {pc : Nat} {ls st : List Value} {σ : ob_Mem} {Q : Option Value → ob_Mem → Prop} {a b : Int32} (d : decode y.2.1 pc = .ok (.ishr, 1)) (k : ob_RT sh E y (pc + 1) ls (.int (a >>> (b &&& 31)) :: st) σ Q) : ob_RT sh E y pc ls (.int b :: .int a :: st) σ Q := fun p e s m args below meth c H locs lsM h => lv_ishr h.1 h.2.1 d  (k p e s m args below meth c H locs lsM h)
theorem ob_idiv {sh : ob_Sh} {E : ob_E} {y : ob_M} {pc : Nat} {ls st : List Value} {σ : ob_Mem} {Q : Option Value → ob_Mem → Prop} {a b : Int32} (d : decode y.2.1 pc = .ok (.idiv, 1)) (hne : ¬ b = 0) (k : ob_RT sh E y (pc + 1) ls (.int (a / b) :: st) σ Q) : ob_RT sh E y pc ls (.int b :: .int a :: st) σ Q := fun p e s m args below meth c H locs lsM h => lv_idiv h.1 h.2.1 d hne (k p e s m args below meth c H locs lsM h)
theorem ob_irem {sh : ob_Sh} {E : ob_E} {y : ob_M} {pc : Nat} {ls st : List Value} {σ : ob_Mem} {Q : Option Value → ob_Mem → Prop} {a b : Int32} (d : decode y.2.1 pc = .ok (.irem, 1)) (hne : ¬ b = 0) (k : ob_RT sh E y (pc + 1) ls (.int (a - a / b * b) :: st) σ Q) : ob_RT sh E y pc ls (.int b :: .int a :: st) σ Q := fun p e s m args below meth c H locs lsM h => lv_irem h.1 h.2.1 d hne (k p e s m args below meth c H locs lsM h)
theorem ob_ladd {sh : ob_Sh} {E : ob_E} {y : ob_M} {pc : Nat} {ls st : List Value} {σ : ob_Mem} {Q : Option Value → ob_Mem → Prop} {a b : Int64} (d : decode y.2.1 pc = .ok (.ladd, 1)) (k : ob_RT sh E y (pc + 1) ls (.long (a + b) :: st) σ Q) : ob_RT sh E y pc ls (.long b :: .long a :: st) σ Q := fun p e s m args below meth c H locs lsM h => lv_ladd h.1 h.2.1 d  (k p e s m args below meth c H locs lsM h)
theorem ob_lsub {sh : ob_Sh} {E : ob_E} {y : ob_M} {pc : Nat} {ls st : List Value} {σ : ob_Mem} {Q : Option Value → ob_Mem → Prop} {a b : Int64} (d : decode y.2.1 pc = .ok (.lsub, 1)) (k : ob_RT sh E y (pc + 1) ls (.long (a - b) :: st) σ Q) : ob_RT sh E y pc ls (.long b :: .long a :: st) σ Q := fun p e s m args below meth c H locs lsM h => lv_lsub h.1 h.2.1 d  (k p e s m args below meth c H locs lsM h)
theorem ob_lmul {sh : ob_Sh} {E : ob_E} {y : ob_M} {pc : Nat} {ls st : List Value} {σ : ob_Mem} {Q : Option Value → ob_Mem → Prop} {a b : Int64} (d : decode y.2.1 pc = .ok (.lmul, 1)) (k : ob_RT sh E y (pc + 1) ls (.long (a * b) :: st) σ Q) : ob_RT sh E y pc ls (.long b :: .long a :: st) σ Q := fun p e s m args below meth c H locs lsM h => lv_lmul h.1 h.2.1 d  (k p e s m args below meth c H locs lsM h)
theorem ob_land {sh : ob_Sh} {E : ob_E} {y : ob_M} {pc : Nat} {ls st : List Value} {σ : ob_Mem} {Q : Option Value → ob_Mem → Prop} {a b : Int64} (d : decode y.2.1 pc = .ok (.land, 1)) (k : ob_RT sh E y (pc + 1) ls (.long (a &&& b) :: st) σ Q) : ob_RT sh E y pc ls (.long b :: .long a :: st) σ Q := fun p e s m args below meth c H locs lsM h => lv_land h.1 h.2.1 d  (k p e s m args below meth c H locs lsM h)
theorem ob_lor {sh : ob_Sh} {E : ob_E} {y : ob_M} {pc : Nat} {ls st : List Value} {σ : ob_Mem} {Q : Option Value → ob_Mem → Prop} {a b : Int64} (d : decode y.2.1 pc = .ok (.lor, 1)) (k : ob_RT sh E y (pc + 1) ls (.long (a ||| b) :: st) σ Q) : ob_RT sh E y pc ls (.long b :: .long a :: st) σ Q := fun p e s m args below meth c H locs lsM h => lv_lor h.1 h.2.1 d  (k p e s m args below meth c H locs lsM h)
theorem ob_ldiv {sh : ob_Sh} {E : ob_E} {y : ob_M} {pc : Nat} {ls st : List Value} {σ : ob_Mem} {Q : Option Value → ob_Mem → Prop} {a b : Int64} (d : decode y.2.1 pc = .ok (.ldiv, 1)) (hne : ¬ b = 0) (k : ob_RT sh E y (pc + 1) ls (.long (a / b) :: st) σ Q) : ob_RT sh E y pc ls (.long b :: .long a :: st) σ Q := fun p e s m args below meth c H locs lsM h => lv_ldiv h.1 h.2.1 d hne (k p e s m args below meth c H locs lsM h)
theorem ob_lrem {sh : ob_Sh} {E : ob_E} {y : ob_M} {pc : Nat} {ls st : List Value} {σ : ob_Mem} {Q : Option Value → ob_Mem → Prop} {a b : Int64} (d : decode y.2.1 pc = .ok (.lrem, 1)) (hne : ¬ b = 0) (k : ob_RT sh E y (pc + 1) ls (.long (a - a / b * b) :: st) σ Q) : ob_RT sh E y pc ls (.long b :: .long a :: st) σ Q := fun p e s m args below meth c H locs lsM h => lv_lrem h.1 h.2.1 d hne (k p e s m args below meth c H locs lsM h)
theorem ob_iushr {sh : ob_Sh} {E : ob_E} {y : ob_M} {pc : Nat} {ls st : List Value} {σ : ob_Mem} {Q : Option Value → ob_Mem → Prop} {a b : Int32} (d : decode y.2.1 pc = .ok (.iushr, 1)) (k : ob_RT sh E y (pc + 1) ls (.int (a.toUInt32 >>> (b.toUInt32 &&& Int32.toUInt32 31)).toInt32 :: st) σ Q) : ob_RT sh E y pc ls (.int b :: .int a :: st) σ Q := fun p e s m args below meth c H locs lsM h => lv_iushr h.1 h.2.1 d rfl (k p e s m args below meth c H locs lsM h)
theorem ob_lshl {sh : ob_Sh} {E : ob_E} {y : ob_M} {pc : Nat} {ls st : List Value} {σ : ob_Mem} {Q : Option Value → ob_Mem → Prop} {a : Int64} {b : Int32} (d : decode y.2.1 pc = .ok (.lshl, 1)) (k : ob_RT sh E y (pc + 1) ls (.long (a <<< (b.toInt64 &&& 63)) :: st) σ Q) : ob_RT sh E y pc ls (.int b :: .long a :: st) σ Q := fun p e s m args below meth c H locs lsM h => lv_lshl h.1 h.2.1 d rfl (k p e s m args below meth c H locs lsM h)
theorem ob_lshr {sh : ob_Sh} {E : ob_E} {y : ob_M} {pc : Nat} {ls st : List Value} {σ : ob_Mem} {Q : Option Value → ob_Mem → Prop} {a : Int64} {b : Int32} (d : decode y.2.1 pc = .ok (.lshr, 1)) (k : ob_RT sh E y (pc + 1) ls (.long (a >>> (b.toInt64 &&& 63)) :: st) σ Q) : ob_RT sh E y pc ls (.int b :: .long a :: st) σ Q := fun p e s m args below meth c H locs lsM h => lv_lshr h.1 h.2.1 d rfl (k p e s m args below meth c H locs lsM h)
theorem ob_lushr {sh : ob_Sh} {E : ob_E} {y : ob_M} {pc : Nat} {ls st : List Value} {σ : ob_Mem} {Q : Option Value → ob_Mem → Prop} {a : Int64} {b : Int32} (d : decode y.2.1 pc = .ok (.lushr, 1)) (k : ob_RT sh E y (pc + 1) ls (.long (a.toUInt64 >>> (b.toInt64.toUInt64 &&& Int64.toUInt64 63)).toInt64 :: st) σ Q) : ob_RT sh E y pc ls (.int b :: .long a :: st) σ Q := fun p e s m args below meth c H locs lsM h => lv_lushr h.1 h.2.1 d rfl (k p e s m args below meth c H locs lsM h)
theorem ob_i2l {sh : ob_Sh} {E : ob_E} {y : ob_M} {pc : Nat} {ls st : List Value} {σ : ob_Mem} {Q : Option Value → ob_Mem → Prop} {a : Int32} (d : decode y.2.1 pc = .ok (.i2l, 1)) (k : ob_RT sh E y (pc + 1) ls (.long a.toInt64 :: st) σ Q) : ob_RT sh E y pc ls (.int a :: st) σ Q := fun p e s m args below meth c H locs lsM h => lv_i2l h.1 h.2.1 d rfl (k p e s m args below meth c H locs lsM h)
theorem ob_l2i {sh : ob_Sh} {E : ob_E} {y : ob_M} {pc : Nat} {ls st : List Value} {σ : ob_Mem} {Q : Option Value → ob_Mem → Prop} {a : Int64} (d : decode y.2.1 pc = .ok (.l2i, 1)) (k : ob_RT sh E y (pc + 1) ls (.int a.toInt32 :: st) σ Q) : ob_RT sh E y pc ls (.long a :: st) σ Q := fun p e s m args below meth c H locs lsM h => lv_l2i h.1 h.2.1 d rfl (k p e s m args below meth c H locs lsM h)
theorem ob_i2b {sh : ob_Sh} {E : ob_E} {y : ob_M} {pc : Nat} {ls st : List Value} {σ : ob_Mem} {Q : Option Value → ob_Mem → Prop} {a : Int32} (d : decode y.2.1 pc = .ok (.i2b, 1)) (k : ob_RT sh E y (pc + 1) ls (.int a.toInt8.toInt32 :: st) σ Q) : ob_RT sh E y pc ls (.int a :: st) σ Q := fun p e s m args below meth c H locs lsM h => lv_i2b h.1 h.2.1 d rfl (k p e s m args below meth c H locs lsM h)
theorem ob_i2c {sh : ob_Sh} {E : ob_E} {y : ob_M} {pc : Nat} {ls st : List Value} {σ : ob_Mem} {Q : Option Value → ob_Mem → Prop} {a : Int32} (d : decode y.2.1 pc = .ok (.i2c, 1)) (k : ob_RT sh E y (pc + 1) ls (.int (a.toUInt32 % 65536).toInt32 :: st) σ Q) : ob_RT sh E y pc ls (.int a :: st) σ Q := fun p e s m args below meth c H locs lsM h => lv_i2c h.1 h.2.1 d rfl (k p e s m args below meth c H locs lsM h)
theorem ob_lcmp {sh : ob_Sh} {E : ob_E} {y : ob_M} {pc : Nat} {ls st : List Value} {σ : ob_Mem} {Q : Option Value → ob_Mem → Prop} {a b : Int64} (d : decode y.2.1 pc = .ok (.lcmp, 1)) (k : ob_RT sh E y (pc + 1) ls (.int (lg_cmp a b) :: st) σ Q) : ob_RT sh E y pc ls (.long b :: .long a :: st) σ Q := fun p e s m args below meth c H locs lsM h => W.lcmp h.1 h.2.1 d  (k p e s m args below meth c H locs lsM h)
theorem ob_dup {sh : ob_Sh} {E : ob_E} {y : ob_M} {pc : Nat} {ls st : List Value} {σ : ob_Mem} {Q : Option Value → ob_Mem → Prop} {a : Value} (d : decode y.2.1 pc = .ok (.dup, 1)) (h1 : a.category = 1) (k : ob_RT sh E y (pc + 1) ls (a :: a :: st) σ Q) : ob_RT sh E y pc ls (a :: st) σ Q := fun p e s m args below meth c H locs lsM h => lv_dup h.1 h.2.1 d (by rw [ob_cv_cat]; exact h1) (k p e s m args below meth c H locs lsM h)
theorem ob_pop {sh : ob_Sh} {E : ob_E} {y : ob_M} {pc : Nat} {ls st : List Value} {σ : ob_Mem} {Q : Option Value → ob_Mem → Prop} {a : Value} (d : decode y.2.1 pc = .ok (.pop, 1)) (h1 : a.category = 1) (k : ob_RT sh E y (pc + 1) ls (st) σ Q) : ob_RT sh E y pc ls (a :: st) σ Q := fun p e s m args below meth c H locs lsM h => lv_pop h.1 h.2.1 d (by rw [ob_cv_cat]; exact h1) (k p e s m args below meth c H locs lsM h)
theorem ob_dup2 {sh : ob_Sh} {E : ob_E} {y : ob_M} {pc : Nat} {ls st : List Value} {σ : ob_Mem} {Q : Option Value → ob_Mem → Prop} {a b : Value} (d : decode y.2.1 pc = .ok (.dup2, 1)) (h1 : a.category = 1) (h2 : b.category = 1) (k : ob_RT sh E y (pc + 1) ls (a :: b :: a :: b :: st) σ Q) : ob_RT sh E y pc ls (a :: b :: st) σ Q := fun p e s m args below meth c H locs lsM h => lv_dup2_11 h.1 h.2.1 d (by rw [ob_cv_cat]; exact h1) (by rw [ob_cv_cat]; exact h2) (k p e s m args below meth c H locs lsM h)
theorem ob_iload_n {sh : ob_Sh} {E : ob_E} {y : ob_M} {pc : Nat} {ls st : List Value} {σ : ob_Mem} {Q : Option Value → ob_Mem → Prop} {j : Fin 4} {x : Int32} (d : decode y.2.1 pc = .ok (.iload_n j, 1)) (hl : ls[(j : Nat)]? = some (.int x)) (k : ob_RT sh E y (pc + 1) ls (.int x :: st) σ Q) : ob_RT sh E y pc ls st σ Q := fun p e s m args below meth c H locs lsM h => lv_iload_n h.1 h.2.1 d rfl (h.2.2.2.2.2.2.2.2.2.2.2.2.at hl (fun q => by cases q)) (k p e s m args below meth c H locs lsM h)
theorem ob_iload {sh : ob_Sh} {E : ob_E} {y : ob_M} {pc : Nat} {ls st : List Value} {σ : ob_Mem} {Q : Option Value → ob_Mem → Prop} {j : Nat} {x : Int32} (d : decode y.2.1 pc = .ok (.iload j, 2)) (hl : ls[j]? = some (.int x)) (k : ob_RT sh E y (pc + 2) ls (.int x :: st) σ Q) : ob_RT sh E y pc ls st σ Q := fun p e s m args below meth c H locs lsM h => lv_iload h.1 h.2.1 d (h.2.2.2.2.2.2.2.2.2.2.2.2.at hl (fun q => by cases q)) (k p e s m args below meth c H locs lsM h)
theorem ob_istore_n {sh : ob_Sh} {E : ob_E} {y : ob_M} {pc : Nat} {ls st : List Value} {σ : ob_Mem} {Q : Option Value → ob_Mem → Prop} {j : Fin 4} {x : Int32} {ls' : List Value} (d : decode y.2.1 pc = .ok (.istore_n j, 1)) (hn : (j : Nat) < y.2.2.1) (hl : ob_s1 ls j (.int x) = ls') (k : ob_RT sh E y (pc + 1) ls' st σ Q) : ob_RT sh E y pc ls (.int x :: st) σ Q := by
  intro p e s m args below meth c H locs lsM h
  obtain ⟨h1, hb, h3, h4, h5, h6, h7, h8, h9, h10, h11, h12, h13⟩ := h
  exact lv_istore_n h1 hb d rfl h13 hn rfl (fun ls2 h2 => k p e s m args below meth c H locs ls2 ⟨h1, hb, h3, h4, h5, h6, h7, h8, h9, h10, h11, h12, by rw [← hl]; exact ob_lv_has h2 ob_s1_sub⟩)
theorem ob_istore {sh : ob_Sh} {E : ob_E} {y : ob_M} {pc : Nat} {ls st : List Value} {σ : ob_Mem} {Q : Option Value → ob_Mem → Prop} {j : Nat} {x : Int32} {ls' : List Value} (d : decode y.2.1 pc = .ok (.istore j, 2)) (hn : j < y.2.2.1) (hl : ob_s1 ls j (.int x) = ls') (k : ob_RT sh E y (pc + 2) ls' st σ Q) : ob_RT sh E y pc ls (.int x :: st) σ Q := by
  intro p e s m args below meth c H locs lsM h
  obtain ⟨h1, hb, h3, h4, h5, h6, h7, h8, h9, h10, h11, h12, h13⟩ := h
  exact lv_istore h1 hb d h13 hn rfl (fun ls2 h2 => k p e s m args below meth c H locs ls2 ⟨h1, hb, h3, h4, h5, h6, h7, h8, h9, h10, h11, h12, by rw [← hl]; exact ob_lv_has h2 ob_s1_sub⟩)
theorem ob_lload_n {sh : ob_Sh} {E : ob_E} {y : ob_M} {pc : Nat} {ls st : List Value} {σ : ob_Mem} {Q : Option Value → ob_Mem → Prop} {j : Fin 4} {x : Int64} (d : decode y.2.1 pc = .ok (.lload_n j, 1)) (hl : ls[(j : Nat)]? = some (.long x)) (k : ob_RT sh E y (pc + 1) ls (.long x :: st) σ Q) : ob_RT sh E y pc ls st σ Q := fun p e s m args below meth c H locs lsM h => lv_lload_n h.1 h.2.1 d rfl (h.2.2.2.2.2.2.2.2.2.2.2.2.at hl (fun q => by cases q)) (k p e s m args below meth c H locs lsM h)
theorem ob_lload {sh : ob_Sh} {E : ob_E} {y : ob_M} {pc : Nat} {ls st : List Value} {σ : ob_Mem} {Q : Option Value → ob_Mem → Prop} {j : Nat} {x : Int64} (d : decode y.2.1 pc = .ok (.lload j, 2)) (hl : ls[j]? = some (.long x)) (k : ob_RT sh E y (pc + 2) ls (.long x :: st) σ Q) : ob_RT sh E y pc ls st σ Q := fun p e s m args below meth c H locs lsM h => lv_lload h.1 h.2.1 d (h.2.2.2.2.2.2.2.2.2.2.2.2.at hl (fun q => by cases q)) (k p e s m args below meth c H locs lsM h)
theorem ob_lstore_n {sh : ob_Sh} {E : ob_E} {y : ob_M} {pc : Nat} {ls st : List Value} {σ : ob_Mem} {Q : Option Value → ob_Mem → Prop} {j : Fin 4} {x : Int64} {ls' : List Value} (d : decode y.2.1 pc = .ok (.lstore_n j, 1)) (hn : (j : Nat) + 1 < y.2.2.1) (hl : ob_s2 ls j (.long x) = ls') (k : ob_RT sh E y (pc + 1) ls' st σ Q) : ob_RT sh E y pc ls (.long x :: st) σ Q := by
  intro p e s m args below meth c H locs lsM h
  obtain ⟨h1, hb, h3, h4, h5, h6, h7, h8, h9, h10, h11, h12, h13⟩ := h
  exact lv_lstore_n h1 hb d rfl h13 hn rfl (fun ls2 h2 => k p e s m args below meth c H locs ls2 ⟨h1, hb, h3, h4, h5, h6, h7, h8, h9, h10, h11, h12, by rw [← hl]; exact ob_lv_has h2 ob_s2_sub⟩)
theorem ob_lstore {sh : ob_Sh} {E : ob_E} {y : ob_M} {pc : Nat} {ls st : List Value} {σ : ob_Mem} {Q : Option Value → ob_Mem → Prop} {j : Nat} {x : Int64} {ls' : List Value} (d : decode y.2.1 pc = .ok (.lstore j, 2)) (hn : j + 1 < y.2.2.1) (hl : ob_s2 ls j (.long x) = ls') (k : ob_RT sh E y (pc + 2) ls' st σ Q) : ob_RT sh E y pc ls (.long x :: st) σ Q := by
  intro p e s m args below meth c H locs lsM h
  obtain ⟨h1, hb, h3, h4, h5, h6, h7, h8, h9, h10, h11, h12, h13⟩ := h
  exact lv_lstore h1 hb d h13 hn rfl (fun ls2 h2 => k p e s m args below meth c H locs ls2 ⟨h1, hb, h3, h4, h5, h6, h7, h8, h9, h10, h11, h12, by rw [← hl]; exact ob_lv_has h2 ob_s2_sub⟩)
theorem ob_aload_n {sh : ob_Sh} {E : ob_E} {y : ob_M} {pc : Nat} {ls st : List Value} {σ : ob_Mem} {Q : Option Value → ob_Mem → Prop} {j : Fin 4} {x : Nat} (d : decode y.2.1 pc = .ok (.aload_n j, 1)) (hl : ls[(j : Nat)]? = some (.ref x)) (k : ob_RT sh E y (pc + 1) ls (.ref x :: st) σ Q) : ob_RT sh E y pc ls st σ Q := fun p e s m args below meth c H locs lsM h => lv_aload_n h.1 h.2.1 d rfl (h.2.2.2.2.2.2.2.2.2.2.2.2.at hl (fun q => by cases q)) (k p e s m args below meth c H locs lsM h)
theorem ob_aload {sh : ob_Sh} {E : ob_E} {y : ob_M} {pc : Nat} {ls st : List Value} {σ : ob_Mem} {Q : Option Value → ob_Mem → Prop} {j : Nat} {x : Nat} (d : decode y.2.1 pc = .ok (.aload j, 2)) (hl : ls[j]? = some (.ref x)) (k : ob_RT sh E y (pc + 2) ls (.ref x :: st) σ Q) : ob_RT sh E y pc ls st σ Q := fun p e s m args below meth c H locs lsM h => lv_aload h.1 h.2.1 d (h.2.2.2.2.2.2.2.2.2.2.2.2.at hl (fun q => by cases q)) (k p e s m args below meth c H locs lsM h)
theorem ob_astore_n {sh : ob_Sh} {E : ob_E} {y : ob_M} {pc : Nat} {ls st : List Value} {σ : ob_Mem} {Q : Option Value → ob_Mem → Prop} {j : Fin 4} {x : Nat} {ls' : List Value} (d : decode y.2.1 pc = .ok (.astore_n j, 1)) (hn : (j : Nat) < y.2.2.1) (hl : ob_s1 ls j (.ref x) = ls') (k : ob_RT sh E y (pc + 1) ls' st σ Q) : ob_RT sh E y pc ls (.ref x :: st) σ Q := by
  intro p e s m args below meth c H locs lsM h
  obtain ⟨h1, hb, h3, h4, h5, h6, h7, h8, h9, h10, h11, h12, h13⟩ := h
  exact lv_astore_n h1 hb d rfl h13 hn rfl (fun ls2 h2 => k p e s m args below meth c H locs ls2 ⟨h1, hb, h3, h4, h5, h6, h7, h8, h9, h10, h11, h12, by rw [← hl]; exact ob_lv_has h2 ob_s1_sub⟩)
theorem ob_astore {sh : ob_Sh} {E : ob_E} {y : ob_M} {pc : Nat} {ls st : List Value} {σ : ob_Mem} {Q : Option Value → ob_Mem → Prop} {j : Nat} {x : Nat} {ls' : List Value} (d : decode y.2.1 pc = .ok (.astore j, 2)) (hn : j < y.2.2.1) (hl : ob_s1 ls j (.ref x) = ls') (k : ob_RT sh E y (pc + 2) ls' st σ Q) : ob_RT sh E y pc ls (.ref x :: st) σ Q := by
  intro p e s m args below meth c H locs lsM h
  obtain ⟨h1, hb, h3, h4, h5, h6, h7, h8, h9, h10, h11, h12, h13⟩ := h
  exact lv_astore h1 hb d h13 hn rfl (fun ls2 h2 => k p e s m args below meth c H locs ls2 ⟨h1, hb, h3, h4, h5, h6, h7, h8, h9, h10, h11, h12, by rw [← hl]; exact ob_lv_has h2 ob_s1_sub⟩)
theorem ob_iinc {sh : ob_Sh} {E : ob_E} {y : ob_M} {pc : Nat} {ls st : List Value} {σ : ob_Mem} {Q : Option Value → ob_Mem → Prop} {j : Nat} {n : Int} {x v : Int32} {ls' : List Value} (d : decode y.2.1 pc = .ok (.iinc j n, 3)) (hx : ls[j]? = some (.int x)) (hv : Int32.ofInt n = v) (hn : j < y.2.2.1) (hl : ob_s1 ls j (.int (x + v)) = ls') (k : ob_RT sh E y (pc + 3) ls' st σ Q) : ob_RT sh E y pc ls st σ Q := by
  intro p e s m args below meth c H locs lsM h
  obtain ⟨h1, hb, h3, h4, h5, h6, h7, h8, h9, h10, h11, h12, h13⟩ := h
  subst hv
  obtain ⟨q, hq⟩ := List.getElem?_of_mem ((ob_lv_mem E ls 0 j _).mpr ⟨.int x, Nat.zero_le _, hx, (fun q => by cases q), rfl⟩)
  exact lv_iinc h1 hb d h13 hq rfl hn rfl (fun ls2 h2 => k p e s m args below meth c H locs ls2 ⟨h1, hb, h3, h4, h5, h6, h7, h8, h9, h10, h11, h12, by rw [← hl]; exact ob_lv_has h2 ob_s1_sub⟩)
theorem ob_if_eq {sh : ob_Sh} {E : ob_E} {y : ob_M} {pc : Nat} {ls st : List Value} {σ : ob_Mem} {Q : Option Value → ob_Mem → Prop} {x : Int32} {off : Int} {tgt : Nat} (d : decode y.2.1 pc = .ok (.ifCond .eq off, 3)) (ht : (pc : Int) + off = (tgt : Int)) (kt : x = 0 → ob_RT sh E y tgt ls st σ Q) (kf : ¬ x = 0 → ob_RT sh E y (pc + 3) ls st σ Q) : ob_RT sh E y pc ls (.int x :: st) σ Q := fun p e s m args below meth c H locs lsM h => lv_if_eq h.1 h.2.1 d ht (fun q => kt q p e s m args below meth c H locs lsM h) (fun q => kf q p e s m args below meth c H locs lsM h)
theorem ob_icmp_eq {sh : ob_Sh} {E : ob_E} {y : ob_M} {pc : Nat} {ls st : List Value} {σ : ob_Mem} {Q : Option Value → ob_Mem → Prop} {x z : Int32} {off : Int} {tgt : Nat} (d : decode y.2.1 pc = .ok (.if_icmp .eq off, 3)) (ht : (pc : Int) + off = (tgt : Int)) (kt : x = z → ob_RT sh E y tgt ls st σ Q) (kf : ¬ x = z → ob_RT sh E y (pc + 3) ls st σ Q) : ob_RT sh E y pc ls (.int z :: .int x :: st) σ Q := fun p e s m args below meth c H locs lsM h => lv_icmp_eq h.1 h.2.1 d ht (fun q => kt q p e s m args below meth c H locs lsM h) (fun q => kf q p e s m args below meth c H locs lsM h)
theorem ob_if_ne {sh : ob_Sh} {E : ob_E} {y : ob_M} {pc : Nat} {ls st : List Value} {σ : ob_Mem} {Q : Option Value → ob_Mem → Prop} {x : Int32} {off : Int} {tgt : Nat} (d : decode y.2.1 pc = .ok (.ifCond .ne off, 3)) (ht : (pc : Int) + off = (tgt : Int)) (kt : ¬ x = 0 → ob_RT sh E y tgt ls st σ Q) (kf : x = 0 → ob_RT sh E y (pc + 3) ls st σ Q) : ob_RT sh E y pc ls (.int x :: st) σ Q := fun p e s m args below meth c H locs lsM h => lv_if_ne h.1 h.2.1 d ht (fun q => kt q p e s m args below meth c H locs lsM h) (fun q => kf q p e s m args below meth c H locs lsM h)
theorem ob_icmp_ne {sh : ob_Sh} {E : ob_E} {y : ob_M} {pc : Nat} {ls st : List Value} {σ : ob_Mem} {Q : Option Value → ob_Mem → Prop} {x z : Int32} {off : Int} {tgt : Nat} (d : decode y.2.1 pc = .ok (.if_icmp .ne off, 3)) (ht : (pc : Int) + off = (tgt : Int)) (kt : ¬ x = z → ob_RT sh E y tgt ls st σ Q) (kf : x = z → ob_RT sh E y (pc + 3) ls st σ Q) : ob_RT sh E y pc ls (.int z :: .int x :: st) σ Q := fun p e s m args below meth c H locs lsM h => lv_icmp_ne h.1 h.2.1 d ht (fun q => kt q p e s m args below meth c H locs lsM h) (fun q => kf q p e s m args below meth c H locs lsM h)
theorem ob_if_lt {sh : ob_Sh} {E : ob_E} {y : ob_M} {pc : Nat} {ls st : List Value} {σ : ob_Mem} {Q : Option Value → ob_Mem → Prop} {x : Int32} {off : Int} {tgt : Nat} (d : decode y.2.1 pc = .ok (.ifCond .lt off, 3)) (ht : (pc : Int) + off = (tgt : Int)) (kt : x < 0 → ob_RT sh E y tgt ls st σ Q) (kf : ¬ x < 0 → ob_RT sh E y (pc + 3) ls st σ Q) : ob_RT sh E y pc ls (.int x :: st) σ Q := fun p e s m args below meth c H locs lsM h => lv_if_lt h.1 h.2.1 d ht (fun q => kt q p e s m args below meth c H locs lsM h) (fun q => kf q p e s m args below meth c H locs lsM h)
theorem ob_icmp_lt {sh : ob_Sh} {E : ob_E} {y : ob_M} {pc : Nat} {ls st : List Value} {σ : ob_Mem} {Q : Option Value → ob_Mem → Prop} {x z : Int32} {off : Int} {tgt : Nat} (d : decode y.2.1 pc = .ok (.if_icmp .lt off, 3)) (ht : (pc : Int) + off = (tgt : Int)) (kt : x < z → ob_RT sh E y tgt ls st σ Q) (kf : ¬ x < z → ob_RT sh E y (pc + 3) ls st σ Q) : ob_RT sh E y pc ls (.int z :: .int x :: st) σ Q := fun p e s m args below meth c H locs lsM h => lv_icmp_lt h.1 h.2.1 d ht (fun q => kt q p e s m args below meth c H locs lsM h) (fun q => kf q p e s m args below meth c H locs lsM h)
theorem ob_if_ge {sh : ob_Sh} {E : ob_E} {y : ob_M} {pc : Nat} {ls st : List Value} {σ : ob_Mem} {Q : Option Value → ob_Mem → Prop} {x : Int32} {off : Int} {tgt : Nat} (d : decode y.2.1 pc = .ok (.ifCond .ge off, 3)) (ht : (pc : Int) + off = (tgt : Int)) (kt : 0 ≤ x → ob_RT sh E y tgt ls st σ Q) (kf : ¬ 0 ≤ x → ob_RT sh E y (pc + 3) ls st σ Q) : ob_RT sh E y pc ls (.int x :: st) σ Q := fun p e s m args below meth c H locs lsM h => lv_if_ge h.1 h.2.1 d ht (fun q => kt q p e s m args below meth c H locs lsM h) (fun q => kf q p e s m args below meth c H locs lsM h)
theorem ob_icmp_ge {sh : ob_Sh} {E : ob_E} {y : ob_M} {pc : Nat} {ls st : List Value} {σ : ob_Mem} {Q : Option Value → ob_Mem → Prop} {x z : Int32} {off : Int} {tgt : Nat} (d : decode y.2.1 pc = .ok (.if_icmp .ge off, 3)) (ht : (pc : Int) + off = (tgt : Int)) (kt : z ≤ x → ob_RT sh E y tgt ls st σ Q) (kf : ¬ z ≤ x → ob_RT sh E y (pc + 3) ls st σ Q) : ob_RT sh E y pc ls (.int z :: .int x :: st) σ Q := fun p e s m args below meth c H locs lsM h => lv_icmp_ge h.1 h.2.1 d ht (fun q => kt q p e s m args below meth c H locs lsM h) (fun q => kf q p e s m args below meth c H locs lsM h)
theorem ob_if_gt {sh : ob_Sh} {E : ob_E} {y : ob_M} {pc : Nat} {ls st : List Value} {σ : ob_Mem} {Q : Option Value → ob_Mem → Prop} {x : Int32} {off : Int} {tgt : Nat} (d : decode y.2.1 pc = .ok (.ifCond .gt off, 3)) (ht : (pc : Int) + off = (tgt : Int)) (kt : 0 < x → ob_RT sh E y tgt ls st σ Q) (kf : ¬ 0 < x → ob_RT sh E y (pc + 3) ls st σ Q) : ob_RT sh E y pc ls (.int x :: st) σ Q := fun p e s m args below meth c H locs lsM h => lv_if_gt h.1 h.2.1 d ht (fun q => kt q p e s m args below meth c H locs lsM h) (fun q => kf q p e s m args below meth c H locs lsM h)
theorem ob_icmp_gt {sh : ob_Sh} {E : ob_E} {y : ob_M} {pc : Nat} {ls st : List Value} {σ : ob_Mem} {Q : Option Value → ob_Mem → Prop} {x z : Int32} {off : Int} {tgt : Nat} (d : decode y.2.1 pc = .ok (.if_icmp .gt off, 3)) (ht : (pc : Int) + off = (tgt : Int)) (kt : z < x → ob_RT sh E y tgt ls st σ Q) (kf : ¬ z < x → ob_RT sh E y (pc + 3) ls st σ Q) : ob_RT sh E y pc ls (.int z :: .int x :: st) σ Q := fun p e s m args below meth c H locs lsM h => lv_icmp_gt h.1 h.2.1 d ht (fun q => kt q p e s m args below meth c H locs lsM h) (fun q => kf q p e s m args below meth c H locs lsM h)
theorem ob_if_le {sh : ob_Sh} {E : ob_E} {y : ob_M} {pc : Nat} {ls st : List Value} {σ : ob_Mem} {Q : Option Value → ob_Mem → Prop} {x : Int32} {off : Int} {tgt : Nat} (d : decode y.2.1 pc = .ok (.ifCond .le off, 3)) (ht : (pc : Int) + off = (tgt : Int)) (kt : x ≤ 0 → ob_RT sh E y tgt ls st σ Q) (kf : ¬ x ≤ 0 → ob_RT sh E y (pc + 3) ls st σ Q) : ob_RT sh E y pc ls (.int x :: st) σ Q := fun p e s m args below meth c H locs lsM h => lv_if_le h.1 h.2.1 d ht (fun q => kt q p e s m args below meth c H locs lsM h) (fun q => kf q p e s m args below meth c H locs lsM h)
theorem ob_icmp_le {sh : ob_Sh} {E : ob_E} {y : ob_M} {pc : Nat} {ls st : List Value} {σ : ob_Mem} {Q : Option Value → ob_Mem → Prop} {x z : Int32} {off : Int} {tgt : Nat} (d : decode y.2.1 pc = .ok (.if_icmp .le off, 3)) (ht : (pc : Int) + off = (tgt : Int)) (kt : x ≤ z → ob_RT sh E y tgt ls st σ Q) (kf : ¬ x ≤ z → ob_RT sh E y (pc + 3) ls st σ Q) : ob_RT sh E y pc ls (.int z :: .int x :: st) σ Q := fun p e s m args below meth c H locs lsM h => lv_icmp_le h.1 h.2.1 d ht (fun q => kt q p e s m args below meth c H locs lsM h) (fun q => kf q p e s m args below meth c H locs lsM h)
theorem ob_goto {sh : ob_Sh} {E : ob_E} {y : ob_M} {pc : Nat} {ls st : List Value} {σ : ob_Mem} {Q : Option Value → ob_Mem → Prop} {off : Int} {tgt : Nat} (d : decode y.2.1 pc = .ok (.goto off, 3)) (ht : (pc : Int) + off = (tgt : Int)) (k : ob_RT sh E y tgt ls st σ Q) : ob_RT sh E y pc ls st σ Q := fun p e s m args below meth c H locs lsM h => lv_goto h.1 h.2.1 d ht (k p e s m args below meth c H locs lsM h)
theorem ob_tabO {sh : ob_Sh} {E : ob_E} {y : ob_M} {pc : Nat} {ls st : List Value} {σ : ob_Mem} {Q : Option Value → ob_Mem → Prop} {dflt lo hi : Int} {offs : Array Int} {len : Nat} {x : Int32} {tgt : Nat} (d : decode y.2.1 pc = .ok (.tableswitch dflt lo hi offs, len)) (hx : x.toInt < lo ∨ hi < x.toInt) (ht : (pc : Int) + dflt = (tgt : Int)) (k : ob_RT sh E y tgt ls st σ Q) : ob_RT sh E y pc ls (.int x :: st) σ Q := fun p e s m args below meth c H locs lsM h => lv_tableOut h.1 h.2.1 d hx ht (k p e s m args below meth c H locs lsM h)
theorem ob_tabI {sh : ob_Sh} {E : ob_E} {y : ob_M} {pc : Nat} {ls st : List Value} {σ : ob_Mem} {Q : Option Value → ob_Mem → Prop} {dflt lo hi : Int} {offs : Array Int} {len : Nat} {x : Int32} {off : Int} {tgt : Nat} (d : decode y.2.1 pc = .ok (.tableswitch dflt lo hi offs, len)) (h1 : ¬ x.toInt < lo) (h2 : ¬ hi < x.toInt) (ho : offs[(x.toInt - lo).toNat]? = some off) (ht : (pc : Int) + off = (tgt : Int)) (k : ob_RT sh E y tgt ls st σ Q) : ob_RT sh E y pc ls (.int x :: st) σ Q := fun p e s m args below meth c H locs lsM h => lv_tableIn h.1 h.2.1 d h1 h2 ho ht (k p e s m args below meth c H locs lsM h)
theorem ob_ldc {sh : ob_Sh} {E : ob_E} {y : ob_M} {pc : Nat} {ls st : List Value} {σ : ob_Mem} {Q : Option Value → ob_Mem → Prop} {j : Nat} {v : Int32} (d : decode y.2.1 pc = .ok (.ldc j, 2)) (hw : Cond.constant y.1.cls j v ∈ ob_good) (k : ob_RT sh E y (pc + 2) ls (.int v :: st) σ Q) : ob_RT sh E y pc ls st σ Q := fun p e s m args below meth c H locs lsM h => lv_ldc h.1 h.2.1 h.2.2.2.2.2.1 (h.2.2.2.2.2.2.1 _ (List.mem_cons_of_mem _ hw)) d (k p e s m args below meth c H locs lsM h)
theorem ob_ldcw {sh : ob_Sh} {E : ob_E} {y : ob_M} {pc : Nat} {ls st : List Value} {σ : ob_Mem} {Q : Option Value → ob_Mem → Prop} {j : Nat} {v : Int32} (d : decode y.2.1 pc = .ok (.ldc_w j, 3)) (hw : Cond.constant y.1.cls j v ∈ ob_good) (k : ob_RT sh E y (pc + 3) ls (.int v :: st) σ Q) : ob_RT sh E y pc ls st σ Q := fun p e s m args below meth c H locs lsM h => lv_ldcw h.1 h.2.1 h.2.2.2.2.2.1 (h.2.2.2.2.2.2.1 _ (List.mem_cons_of_mem _ hw)) d (k p e s m args below meth c H locs lsM h)
theorem ob_ldc2 {sh : ob_Sh} {E : ob_E} {y : ob_M} {pc : Nat} {ls st : List Value} {σ : ob_Mem} {Q : Option Value → ob_Mem → Prop} {j : Nat} {v : Int64} (d : decode y.2.1 pc = .ok (.ldc2_w j, 3)) (hw : Cond.constantLong y.1.cls j v ∈ ob_good) (k : ob_RT sh E y (pc + 3) ls (.long v :: st) σ Q) : ob_RT sh E y pc ls st σ Q := fun p e s m args below meth c H locs lsM h => lv_ldc2 h.1 h.2.1 h.2.2.2.2.2.1 (h.2.2.2.2.2.2.1 _ (List.mem_cons_of_mem _ hw)) d (k p e s m args below meth c H locs lsM h)
/-- a field by the place in a class's constants: class number, slot -/
def ob_FL (own : String) (j ci k : Nat) : Prop := ∃ (C : String) (T : u_T) (N : Nat), vwCl[ci]? = some (C, T, N) ∧ k < N ∧ (∀ w ∈ u_ws C T N, w ∈ ob_good) ∧ Cond.fieldLink own j (T k).1 (T k).2.1 (T k).2.2.1 ∈ ob_good
def ob_FP (own : String) (j ci k : Nat) (ty : FieldType) : Prop := ∃ (C : String) (T : u_T) (N : Nat) (ty0 : Nat → FieldType), vwCl[ci]? = some (C, T, N) ∧ k < N ∧ (∀ w ∈ u_ws C T N, w ∈ ob_good) ∧ Cond.fieldLink own j (T k).1 (T k).2.1 (T k).2.2.1 ∈ ob_good ∧ (∀ k, k < N → parseFieldDescriptor (T k).2.2.1 = some (ty0 k)) ∧ (∀ a, a < N → ∀ b, b < N → a ≠ b → (T a).2.1 ≠ (T b).2.1) ∧ (T k).2.2.2 = false ∧ parseFieldDescriptor (T k).2.2.1 = some ty
theorem ob_getR {sh : ob_Sh} {E : ob_E} {y : ob_M} {pc : Nat} {ls st : List Value} {σ : ob_Mem} {Q : Option Value → ob_Mem → Prop} {j i ci f kd : Nat} {rs : List Nat} (d : decode y.2.1 pc = .ok (.getfield j, 3)) (hf : ob_FL y.1.cls j ci f) (hs : sh[i]? = some (.inr (ci, rs))) (hk : (ob_fk.getD ci [])[f]? = some kd) (hd : kd = 0) (k : ob_RT sh E y (pc + 3) ls (.ref (rs.getD f 0) :: st) σ Q) : ob_RT sh E y pc ls (.ref i :: st) σ Q := by
  intro p e s m args below meth c H locs lsM h
  have h0 := h
  obtain ⟨h1, hb, h3, h4, h5, h6, h7, h8, h9, h10, h11, h12, h13⟩ := h
  obtain ⟨C, T, N, g1, g2, g3, g4⟩ := hf
  refine va_get (D := E.2.1) (ws := ob_ws sh E σ) (v := ob_cv E (.ref (rs.getD f 0))) h1 hb h7 (fun w hw => List.mem_cons_of_mem _ (g3 w hw)) h6 h8 h11 i (ob_ws_at hs) g1 f g2 (h7 _ (List.mem_cons_of_mem _ g4)) (fun _ q => q) ?_ d (k p e s m args below meth c H locs lsM h0)
  simp only [ob_fs, List.getElem?_mapIdx, hk, Option.map_some]
  subst hd; rfl
theorem ob_getI {sh : ob_Sh} {E : ob_E} {y : ob_M} {pc : Nat} {ls st : List Value} {σ : ob_Mem} {Q : Option Value → ob_Mem → Prop} {j i ci f kd : Nat} {rs : List Nat} (d : decode y.2.1 pc = .ok (.getfield j, 3)) (hf : ob_FL y.1.cls j ci f) (hs : sh[i]? = some (.inr (ci, rs))) (hk : (ob_fk.getD ci [])[f]? = some kd) (hd : kd = 1 ∨ kd = 3) (k : ob_RT sh E y (pc + 3) ls (.int (σ.1 i f) :: st) σ Q) : ob_RT sh E y pc ls (.ref i :: st) σ Q := by
  intro p e s m args below meth c H locs lsM h
  have h0 := h
  obtain ⟨h1, hb, h3, h4, h5, h6, h7, h8, h9, h10, h11, h12, h13⟩ := h
  obtain ⟨C, T, N, g1, g2, g3, g4⟩ := hf
  refine va_get (D := E.2.1) (ws := ob_ws sh E σ) (v := ob_cv E (.int (σ.1 i f))) h1 hb h7 (fun w hw => List.mem_cons_of_mem _ (g3 w hw)) h6 h8 h11 i (ob_ws_at hs) g1 f g2 (h7 _ (List.mem_cons_of_mem _ g4)) (fun _ q => q) ?_ d (k p e s m args below meth c H locs lsM h0)
  simp only [ob_fs, List.getElem?_mapIdx, hk, Option.map_some]
  rcases hd with rfl | rfl <;> rfl
theorem ob_getL {sh : ob_Sh} {E : ob_E} {y : ob_M} {pc : Nat} {ls st : List Value} {σ : ob_Mem} {Q : Option Value → ob_Mem → Prop} {j i ci f kd : Nat} {rs : List Nat} (d : decode y.2.1 pc = .ok (.getfield j, 3)) (hf : ob_FL y.1.cls j ci f) (hs : sh[i]? = some (.inr (ci, rs))) (hk : (ob_fk.getD ci [])[f]? = some kd) (hd : kd = 2) (k : ob_RT sh E y (pc + 3) ls (.long (σ.2 i f) :: st) σ Q) : ob_RT sh E y pc ls (.ref i :: st) σ Q := by
  intro p e s m args below meth c H locs lsM h
  have h0 := h
  obtain ⟨h1, hb, h3, h4, h5, h6, h7, h8, h9, h10, h11, h12, h13⟩ := h
  obtain ⟨C, T, N, g1, g2, g3, g4⟩ := hf
  refine va_get (D := E.2.1) (ws := ob_ws sh E σ) (v := ob_cv E (.long (σ.2 i f))) h1 hb h7 (fun w hw => List.mem_cons_of_mem _ (g3 w hw)) h6 h8 h11 i (ob_ws_at hs) g1 f g2 (h7 _ (List.mem_cons_of_mem _ g4)) (fun _ q => q) ?_ d (k p e s m args below meth c H locs lsM h0)
  simp only [ob_fs, List.getElem?_mapIdx, hk, Option.map_some]
  subst hd; rfl
theorem ob_putI {sh : ob_Sh} {E : ob_E} {y : ob_M} {pc : Nat} {ls st : List Value} {σ : ob_Mem} {Q : Option Value → ob_Mem → Prop} {j i ci f kd : Nat} {rs : List Nat} {x : Int32} (d : decode y.2.1 pc = .ok (.putfield j, 3)) (hf : ob_FP y.1.cls j ci f .int) (hs : sh[i]? = some (.inr (ci, rs))) (hk : (ob_fk.getD ci [])[f]? = some kd) (h0 : kd = 1) (k : ob_RT sh E y (pc + 3) ls st (ob_wI σ i f x) Q) : ob_RT sh E y pc ls (.int x :: .ref i :: st) σ Q := by
  intro p e s m args below meth c H locs lsM h
  obtain ⟨h1, hb, h3, h4, h5, h6, h7, h8, h9, h10, h11, h12, h13⟩ := h
  obtain ⟨C, T, N, ty0, g1, g2, g3, g4, g5, g6, g7, g8⟩ := hf
  refine va_put (D := E.2.1) (ws := ob_ws sh E σ) (A := ob_F sh E) (v := .int x) h1 hb h7 (fun w hw => List.mem_cons_of_mem _ (g3 w hw)) ty0 g5 g6 h6 h8 h11 (h10.D σ) h12 i (ob_ws_at hs) g1 f g2 (h7 _ (List.mem_cons_of_mem _ g4)) (fun _ q => q) g7 g8 rfl rfl (by have := (List.getElem?_eq_some_iff.mp hk).1; simpa [ob_fs] using this) d (fun H1 locs1 hP1 hD1 hS1 => ?_)
  rw [ob_ws_fI hs hk (by omega) (by omega)] at hP1
  exact k p e s m args below meth c H1 locs1 lsM ⟨h1, hb, h3, h4, h5, h6, h7, h8, h9, h10, hP1, hS1, h13⟩
theorem ob_putZ {sh : ob_Sh} {E : ob_E} {y : ob_M} {pc : Nat} {ls st : List Value} {σ : ob_Mem} {Q : Option Value → ob_Mem → Prop} {j i ci f kd : Nat} {rs : List Nat} {x : Int32} (d : decode y.2.1 pc = .ok (.putfield j, 3)) (hf : ob_FP y.1.cls j ci f .boolean) (hs : sh[i]? = some (.inr (ci, rs))) (hk : (ob_fk.getD ci [])[f]? = some kd) (h0 : kd = 3) (hz : narrow .boolean (.int x) = .int x) (hz2 : fits .boolean (.int x) = true) (k : ob_RT sh E y (pc + 3) ls st (ob_wI σ i f x) Q) : ob_RT sh E y pc ls (.int x :: .ref i :: st) σ Q := by
  intro p e s m args below meth c H locs lsM h
  obtain ⟨h1, hb, h3, h4, h5, h6, h7, h8, h9, h10, h11, h12, h13⟩ := h
  obtain ⟨C, T, N, ty0, g1, g2, g3, g4, g5, g6, g7, g8⟩ := hf
  refine va_put (D := E.2.1) (ws := ob_ws sh E σ) (A := ob_F sh E) (v := .int x) h1 hb h7 (fun w hw => List.mem_cons_of_mem _ (g3 w hw)) ty0 g5 g6 h6 h8 h11 (h10.D σ) h12 i (ob_ws_at hs) g1 f g2 (h7 _ (List.mem_cons_of_mem _ g4)) (fun _ q => q) g7 g8 hz hz2 (by have := (List.getElem?_eq_some_iff.mp hk).1; simpa [ob_fs] using this) d (fun H1 locs1 hP1 hD1 hS1 => ?_)
  rw [ob_ws_fI hs hk (by omega) (by omega)] at hP1
  exact k p e s m args below meth c H1 locs1 lsM ⟨h1, hb, h3, h4, h5, h6, h7, h8, h9, h10, hP1, hS1, h13⟩
theorem ob_putL {sh : ob_Sh} {E : ob_E} {y : ob_M} {pc : Nat} {ls st : List Value} {σ : ob_Mem} {Q : Option Value → ob_Mem → Prop} {j i ci f kd : Nat} {rs : List Nat} {x : Int64} (d : decode y.2.1 pc = .ok (.putfield j, 3)) (hf : ob_FP y.1.cls j ci f .long) (hs : sh[i]? = some (.inr (ci, rs))) (hk : (ob_fk.getD ci [])[f]? = some kd) (h0 : kd = 2) (k : ob_RT sh E y (pc + 3) ls st (ob_wL σ i f x) Q) : ob_RT sh E y pc ls (.long x :: .ref i :: st) σ Q := by
  intro p e s m args below meth c H locs lsM h
  obtain ⟨h1, hb, h3, h4, h5, h6, h7, h8, h9, h10, h11, h12, h13⟩ := h
  obtain ⟨C, T, N, ty0, g1, g2, g3, g4, g5, g6, g7, g8⟩ := hf
  refine va_put (D := E.2.1) (ws := ob_ws sh E σ) (A := ob_F sh E) (v := .long x) h1 hb h7 (fun w hw => List.mem_cons_of_mem _ (g3 w hw)) ty0 g5 g6 h6 h8 h11 (h10.D σ) h12 i (ob_ws_at hs) g1 f g2 (h7 _ (List.mem_cons_of_mem _ g4)) (fun _ q => q) g7 g8 rfl rfl (by have := (List.getElem?_eq_some_iff.mp hk).1; simpa [ob_fs] using this) d (fun H1 locs1 hP1 hD1 hS1 => ?_)
  rw [ob_ws_fL hs (by rw [hk, h0])] at hP1
  exact k p e s m args below meth c H1 locs1 lsM ⟨h1, hb, h3, h4, h5, h6, h7, h8, h9, h10, hP1, hS1, h13⟩
theorem ob_iald {sh : ob_Sh} {E : ob_E} {y : ob_M} {pc : Nat} {ls st : List Value} {σ : ob_Mem} {Q : Option Value → ob_Mem → Prop} {i n : Nat} {x : Int32} (d : decode y.2.1 pc = .ok (.iaload, 1)) (hs : sh[i]? = some (.inl (0, n))) (hin : vp_in x n) (k : ob_RT sh E y (pc + 1) ls (.int (σ.1 i x.toNatClampNeg) :: st) σ Q) : ob_RT sh E y pc ls (.int x :: .ref i :: st) σ Q := fun p e s m args below meth c H locs lsM h => va_iald h.1 h.2.1 h.2.2.2.2.2.2.2.1 h.2.2.2.2.2.2.2.2.2.2.1 i 0 (ob_ws_at hs) rfl hin d (k p e s m args below meth c H locs lsM h)
theorem ob_bald {sh : ob_Sh} {E : ob_E} {y : ob_M} {pc : Nat} {ls st : List Value} {σ : ob_Mem} {Q : Option Value → ob_Mem → Prop} {i n : Nat} {x : Int32} (d : decode y.2.1 pc = .ok (.baload, 1)) (hs : sh[i]? = some (.inl (1, n))) (hin : vp_in x n) (k : ob_RT sh E y (pc + 1) ls (.int (σ.1 i x.toNatClampNeg) :: st) σ Q) : ob_RT sh E y pc ls (.int x :: .ref i :: st) σ Q := fun p e s m args below meth c H locs lsM h => va_bald h.1 h.2.1 h.2.2.2.2.2.2.2.1 h.2.2.2.2.2.2.2.2.2.2.1 i 1 (ob_ws_at hs) rfl hin d (k p e s m args below meth c H locs lsM h)
theorem ob_zald {sh : ob_Sh} {E : ob_E} {y : ob_M} {pc : Nat} {ls st : List Value} {σ : ob_Mem} {Q : Option Value → ob_Mem → Prop} {i n : Nat} {x : Int32} (d : decode y.2.1 pc = .ok (.baload, 1)) (hs : sh[i]? = some (.inl (2, n))) (hin : vp_in x n) (k : ob_RT sh E y (pc + 1) ls (.int (σ.1 i x.toNatClampNeg) :: st) σ Q) : ob_RT sh E y pc ls (.int x :: .ref i :: st) σ Q := fun p e s m args below meth c H locs lsM h => va_zald h.1 h.2.1 h.2.2.2.2.2.2.2.1 h.2.2.2.2.2.2.2.2.2.2.1 i 2 (ob_ws_at hs) rfl hin d (k p e s m args below meth c H locs lsM h)
theorem ob_lald {sh : ob_Sh} {E : ob_E} {y : ob_M} {pc : Nat} {ls st : List Value} {σ : ob_Mem} {Q : Option Value → ob_Mem → Prop} {i n : Nat} {x : Int32} (d : decode y.2.1 pc = .ok (.laload, 1)) (hs : sh[i]? = some (.inl (3, n))) (hin : vp_in x n) (k : ob_RT sh E y (pc + 1) ls (.long (σ.2 i x.toNatClampNeg) :: st) σ Q) : ob_RT sh E y pc ls (.int x :: .ref i :: st) σ Q := fun p e s m args below meth c H locs lsM h => va_lald h.1 h.2.1 h.2.2.2.2.2.2.2.1 h.2.2.2.2.2.2.2.2.2.2.1 i 3 (ob_ws_at hs) rfl hin d (k p e s m args below meth c H locs lsM h)
theorem ob_iast {sh : ob_Sh} {E : ob_E} {y : ob_M} {pc : Nat} {ls st : List Value} {σ : ob_Mem} {Q : Option Value → ob_Mem → Prop} {i n : Nat} {x v : Int32} (d : decode y.2.1 pc = .ok (.iastore, 1)) (hs : sh[i]? = some (.inl (0, n))) (hin : vp_in x n) (k : ob_RT sh E y (pc + 1) ls st (ob_wI σ i x.toNatClampNeg (v)) Q) : ob_RT sh E y pc ls (.int v :: .int x :: .ref i :: st) σ Q := by
  intro p e s m args below meth c H locs lsM h
  obtain ⟨h1, hb, h3, h4, h5, h6, h7, h8, h9, h10, h11, h12, h13⟩ := h
  refine va_iast h1 hb h8 h11 (h10.D σ) h12 i 0 (ob_ws_at hs) rfl hin d (fun H1 locs1 hP1 hD1 hS1 => ?_)
  rw [ob_ws_I hs (by decide)] at hP1
  exact k p e s m args below meth c H1 locs1 lsM ⟨h1, hb, h3, h4, h5, h6, h7, h8, h9, h10, hP1, hS1, h13⟩
theorem ob_bast {sh : ob_Sh} {E : ob_E} {y : ob_M} {pc : Nat} {ls st : List Value} {σ : ob_Mem} {Q : Option Value → ob_Mem → Prop} {i n : Nat} {x v : Int32} (d : decode y.2.1 pc = .ok (.bastore, 1)) (hs : sh[i]? = some (.inl (1, n))) (hin : vp_in x n) (k : ob_RT sh E y (pc + 1) ls st (ob_wI σ i x.toNatClampNeg (vp_nar .byte v)) Q) : ob_RT sh E y pc ls (.int v :: .int x :: .ref i :: st) σ Q := by
  intro p e s m args below meth c H locs lsM h
  obtain ⟨h1, hb, h3, h4, h5, h6, h7, h8, h9, h10, h11, h12, h13⟩ := h
  refine va_bast h1 hb h8 h11 (h10.D σ) h12 i 1 (ob_ws_at hs) rfl hin d (fun H1 locs1 hP1 hD1 hS1 => ?_)
  rw [ob_ws_I hs (by decide)] at hP1
  exact k p e s m args below meth c H1 locs1 lsM ⟨h1, hb, h3, h4, h5, h6, h7, h8, h9, h10, hP1, hS1, h13⟩
theorem ob_zast {sh : ob_Sh} {E : ob_E} {y : ob_M} {pc : Nat} {ls st : List Value} {σ : ob_Mem} {Q : Option Value → ob_Mem → Prop} {i n : Nat} {x v : Int32} (d : decode y.2.1 pc = .ok (.bastore, 1)) (hs : sh[i]? = some (.inl (2, n))) (hin : vp_in x n) (k : ob_RT sh E y (pc + 1) ls st (ob_wI σ i x.toNatClampNeg (vp_nar .boolean v)) Q) : ob_RT sh E y pc ls (.int v :: .int x :: .ref i :: st) σ Q := by
  intro p e s m args below meth c H locs lsM h
  obtain ⟨h1, hb, h3, h4, h5, h6, h7, h8, h9, h10, h11, h12, h13⟩ := h
  refine va_zast h1 hb h8 h11 (h10.D σ) h12 i 2 (ob_ws_at hs) rfl hin d (fun H1 locs1 hP1 hD1 hS1 => ?_)
  rw [ob_ws_I hs (by decide)] at hP1
  exact k p e s m args below meth c H1 locs1 lsM ⟨h1, hb, h3, h4, h5, h6, h7, h8, h9, h10, hP1, hS1, h13⟩
theorem ob_last {sh : ob_Sh} {E : ob_E} {y : ob_M} {pc : Nat} {ls st : List Value} {σ : ob_Mem} {Q : Option Value → ob_Mem → Prop} {i n : Nat} {x : Int32} {v : Int64} (d : decode y.2.1 pc = .ok (.lastore, 1)) (hs : sh[i]? = some (.inl (3, n))) (hin : vp_in x n) (k : ob_RT sh E y (pc + 1) ls st (ob_wL σ i x.toNatClampNeg v) Q) : ob_RT sh E y pc ls (.long v :: .int x :: .ref i :: st) σ Q := by
  intro p e s m args below meth c H locs lsM h
  obtain ⟨h1, hb, h3, h4, h5, h6, h7, h8, h9, h10, h11, h12, h13⟩ := h
  refine va_last h1 hb h8 h11 (h10.D σ) h12 i 3 (ob_ws_at hs) rfl hin d (fun H1 locs1 hP1 hD1 hS1 => ?_)
  rw [ob_ws_L hs] at hP1
  exact k p e s m args below meth c H1 locs1 lsM ⟨h1, hb, h3, h4, h5, h6, h7, h8, h9, h10, hP1, hS1, h13⟩
theorem ob_alen {sh : ob_Sh} {E : ob_E} {y : ob_M} {pc : Nat} {ls st : List Value} {σ : ob_Mem} {Q : Option Value → ob_Mem → Prop} {i t n : Nat} {v : Int32} (d : decode y.2.1 pc = .ok (.arraylength, 1)) (hs : sh[i]? = some (.inl (t, n))) (ht : t < 4) (hv : Int32.ofNat n = v) (k : ob_RT sh E y (pc + 1) ls (.int v :: st) σ Q) : ob_RT sh E y pc ls (.ref i :: st) σ Q := by
  intro p e s m args below meth c H locs lsM h
  obtain ⟨ty, hty⟩ : ∃ ty, (ob_tys E)[t]? = some (E.2.2.1 t, ty) := by
    match t, ht with
    | 0, _ => exact ⟨_, rfl⟩
    | 1, _ => exact ⟨_, rfl⟩
    | 2, _ => exact ⟨_, rfl⟩
    | 3, _ => exact ⟨_, rfl⟩
  exact va_alen h.1 h.2.1 h.2.2.2.2.2.2.2.1 h.2.2.2.2.2.2.2.2.2.2.1 i t (ob_ws_at hs) hty hv d (k p e s m args below meth c H locs lsM h)
theorem ob_figld {sh : ob_Sh} {E : ob_E} {y : ob_M} {pc : Nat} {ls st : List Value} {σ : ob_Mem} {Q : Option Value → ob_Mem → Prop} {x : Int32} (d : decode y.2.1 pc = .ok (.iaload, 1)) (hin : vp_in x 8) (k : ob_RT sh E y (pc + 1) ls (.int (ob_fig x.toNatClampNeg) :: st) σ Q) : ob_RT sh E y pc ls (.int x :: .ref 100 :: st) σ Q := fun p e s m args below meth c H locs lsM h => va_ti h.1 h.2.1 h.2.2.2.2.2.2.2.2.1.2.1 h.2.2.2.2.2.2.2.2.2.2.2.1 hin rfl d (k p e s m args below meth c H locs lsM h)
theorem ob_figlen {sh : ob_Sh} {E : ob_E} {y : ob_M} {pc : Nat} {ls st : List Value} {σ : ob_Mem} {Q : Option Value → ob_Mem → Prop} (d : decode y.2.1 pc = .ok (.arraylength, 1)) (k : ob_RT sh E y (pc + 1) ls (.int 8 :: st) σ Q) : ob_RT sh E y pc ls (.ref 100 :: st) σ Q := fun p e s m args below meth c H locs lsM h => va_tlen h.1 h.2.1 h.2.2.2.2.2.2.2.2.1.2.1 h.2.2.2.2.2.2.2.2.2.2.2.1 rfl d (k p e s m args below meth c H locs lsM h)
theorem ob_figget {sh : ob_Sh} {E : ob_E} {y : ob_M} {pc : Nat} {ls st : List Value} {σ : ob_Mem} {Q : Option Value → ob_Mem → Prop} {j : Nat} (d : decode y.2.1 pc = .ok (.getstatic j, 3)) (hw : Cond.fieldLink y.1.cls j RX1 "FIGURE" "[I" ∈ ob_good) (k : ob_RT sh E y (pc + 3) ls (.ref 100 :: st) σ Q) : ob_RT sh E y pc ls st σ Q := fun p e s m args below meth c H locs lsM h => va_gets h.1 h.2.1 h.2.2.2.2.2.2.2.2.1.1 h.2.2.2.2.2.2.2.2.2.2.2.1 h.2.2.2.2.2.1 (h.2.2.2.2.2.2.1 _ (List.mem_cons_of_mem _ hw)) (fun _ q => q) d (k p e s m args below meth c H locs lsM h)
theorem ob_compact {sh : ob_Sh} {E : ob_E} {y : ob_M} {pc : Nat} {ls st : List Value} {σ : ob_Mem} {Q : Option Value → ob_Mem → Prop} {j : Nat} (d : decode y.2.1 pc = .ok (.getstatic j, 3)) (hw : Cond.fieldLink y.1.cls j RJ0 "COMPACT_STRINGS" "Z" ∈ ob_good) (k : ob_RT sh E y (pc + 3) ls (.int 1 :: st) σ Q) : ob_RT sh E y pc ls st σ Q := fun p e s m args below meth c H locs lsM h => va_gets h.1 h.2.1 h.2.2.2.2.2.2.2.2.1.2.2.2.2.1 h.2.2.2.2.2.2.2.2.2.2.2.1 h.2.2.2.2.2.1 (h.2.2.2.2.2.2.1 _ (List.mem_cons_of_mem _ hw)) (fun _ q => q) d (k p e s m args below meth c H locs lsM h)
theorem ob_sioobe {sh : ob_Sh} {E : ob_E} {y : ob_M} {pc : Nat} {ls st : List Value} {σ : ob_Mem} {Q : Option Value → ob_Mem → Prop} {j : Nat} (d : decode y.2.1 pc = .ok (.getstatic j, 3)) (hw : Cond.fieldLink y.1.cls j RJ3 "SIOOBE_FORMATTER" "Ljava/util/function/BiFunction;" ∈ ob_good) (k : ob_RT sh E y (pc + 3) ls (.ref 130 :: st) σ Q) : ob_RT sh E y pc ls st σ Q := fun p e s m args below meth c H locs lsM h => va_gets h.1 h.2.1 h.2.2.2.2.2.2.2.2.1.2.2.2.2.2.1 h.2.2.2.2.2.2.2.2.2.2.2.1 h.2.2.2.2.2.1 (h.2.2.2.2.2.2.1 _ (List.mem_cons_of_mem _ hw)) (fun _ q => q) d (k p e s m args below meth c H locs lsM h)
theorem ob_ldcS {sh : ob_Sh} {E : ob_E} {y : ob_M} {pc : Nat} {ls st : List Value} {σ : ob_Mem} {Q : Option Value → ob_Mem → Prop} {i : Nat} (hy : y.1.cls = RX3) (d : decode y.2.1 pc = .ok (.ldc (ob_sk.getD i (0, "")).1, 2)) (hi : i < 4) (k : ob_RT sh E y (pc + 2) ls (.ref (110 + i) :: st) σ Q) : ob_RT sh E y pc ls st σ Q := fun p e s m args below meth c H locs lsM h => va_ldcS h.1 h.2.1 (hy ▸ h.2.2.2.2.2.1) (h.2.2.2.2.2.2.2.2.1.2.2.1 i hi) d (k p e s m args below meth c H locs lsM h)
theorem ob_strval {sh : ob_Sh} {E : ob_E} {y : ob_M} {pc : Nat} {ls st : List Value} {σ : ob_Mem} {Q : Option Value → ob_Mem → Prop} {i j : Nat} (d : decode y.2.1 pc = .ok (.getfield j, 3)) (hi : i < 4) (hw : Cond.fieldLink y.1.cls j RJ0 "value" "[B" ∈ ob_good) (k : ob_RT sh E y (pc + 3) ls (.ref (120 + i) :: st) σ Q) : ob_RT sh E y pc ls (.ref (110 + i) :: st) σ Q := fun p e s m args below meth c H locs lsM h => vk_getf h.1 h.2.1 (h.2.2.2.2.2.2.2.2.1.2.2.2.1.1 i hi).2.2.1 h.2.2.2.2.2.2.2.2.2.2.2.1 h.2.2.2.2.2.1 (h.2.2.2.2.2.2.1 _ (List.mem_cons_of_mem _ hw)) (fun _ q => q) d (k p e s m args below meth c H locs lsM h)
theorem ob_strcod {sh : ob_Sh} {E : ob_E} {y : ob_M} {pc : Nat} {ls st : List Value} {σ : ob_Mem} {Q : Option Value → ob_Mem → Prop} {i j : Nat} (d : decode y.2.1 pc = .ok (.getfield j, 3)) (hi : i < 4) (hw : Cond.fieldLink y.1.cls j RJ0 "coder" "B" ∈ ob_good) (k : ob_RT sh E y (pc + 3) ls (.int 0 :: st) σ Q) : ob_RT sh E y pc ls (.ref (110 + i) :: st) σ Q := fun p e s m args below meth c H locs lsM h => vk_getf h.1 h.2.1 (h.2.2.2.2.2.2.2.2.1.2.2.2.1.1 i hi).2.1 h.2.2.2.2.2.2.2.2.2.2.2.1 h.2.2.2.2.2.1 (h.2.2.2.2.2.2.1 _ (List.mem_cons_of_mem _ hw)) (fun _ q => q) d (k p e s m args below meth c H locs lsM h)
theorem ob_strlen {sh : ob_Sh} {E : ob_E} {y : ob_M} {pc : Nat} {ls st : List Value} {σ : ob_Mem} {Q : Option Value → ob_Mem → Prop} {i : Nat} {v : Int32} (d : decode y.2.1 pc = .ok (.arraylength, 1)) (hi : i < 4) (hv : Int32.ofNat (ob_sl.getD i 0) = v) (k : ob_RT sh E y (pc + 1) ls (.int v :: st) σ Q) : ob_RT sh E y pc ls (.ref (120 + i) :: st) σ Q := fun p e s m args below meth c H locs lsM h => va_tlen h.1 h.2.1 (h.2.2.2.2.2.2.2.2.1.2.2.2.1.1 i hi).2.2.2 h.2.2.2.2.2.2.2.2.2.2.2.1 hv d (k p e s m args below meth c H locs lsM h)
theorem ob_strld {sh : ob_Sh} {E : ob_E} {y : ob_M} {pc : Nat} {ls st : List Value} {σ : ob_Mem} {Q : Option Value → ob_Mem → Prop} {i : Nat} {x v : Int32} (d : decode y.2.1 pc = .ok (.baload, 1)) (hi : i < 4) (hin : vp_in x (ob_sl.getD i 0)) (hv : (ob_sb.getD i []).getD x.toNatClampNeg 0 = v) (k : ob_RT sh E y (pc + 1) ls (.int v :: st) σ Q) : ob_RT sh E y pc ls (.int x :: .ref (120 + i) :: st) σ Q := fun p e s m args below meth c H locs lsM h => va_tb h.1 h.2.1 (h.2.2.2.2.2.2.2.2.1.2.2.2.1.1 i hi).2.2.2 h.2.2.2.2.2.2.2.2.2.2.2.1 hin (by rw [← hv]; rfl) d (k p e s m args below meth c H locs lsM h)
theorem ob_copy {sh : ob_Sh} {E : ob_E} {y : ob_M} {pc : Nat} {ls st : List Value} {σ : ob_Mem} {Q : Option Value → ob_Mem → Prop} {j i0 i1 n0 n1 : Nat} {sp dp n : Int32} (d : decode y.2.1 pc = .ok (.invokestatic j, 3)) (hw : Cond.methodLink y.1.cls j arraycopyName ∈ ob_good) (hw2 : Cond.native arraycopyName ∈ ob_good) (hw3 : Cond.static arraycopyName ∈ ob_good) (hw4 : Cond.initialized "java/lang/System" ∈ ob_good) (hs0 : sh[i0]? = some (.inl (0, n0))) (hs1 : sh[i1]? = some (.inl (0, n1))) (a1 : ¬ sp < 0) (a2 : ¬ dp < 0) (a3 : ¬ n < 0) (a4 : sp.toNatClampNeg + n.toNatClampNeg ≤ n0) (a5 : dp.toNatClampNeg + n.toNatClampNeg ≤ n1) (hfr : 1 ≤ y.2.2.2.2.1) (hlo : (st.map fun v => v.category).sum + (nativeFrameWords "java/lang/System" "arraycopy" 5 + 11) ≤ y.2.2.2.2.2)
    (k : ob_RT sh E y (pc + 3) ls st (ob_wA σ i1 (va_cpy (σ.1 i0) (σ.1 i1) sp.toNatClampNeg dp.toNatClampNeg n.toNatClampNeg)) Q) : ob_RT sh E y pc ls (.int n :: .int dp :: .ref i1 :: .int sp :: .ref i0 :: st) σ Q := by
  intro p e s m args below meth c H locs lsM h
  obtain ⟨h1, hb, h3, h4, h5, h6, h7, h8, h9, h10, h11, h12, h13⟩ := h
  refine va_copyi (ty := .int) h1 hb (h5.trans h13.1.symm) h6 (h7 _ (List.mem_cons_of_mem _ hw)) (h7 _ (List.mem_cons_of_mem _ hw2)) (h7 _ (List.mem_cons_of_mem _ hw3)) (h7 _ (List.mem_cons_of_mem _ hw4)) h8 h11 (h10.D σ) h12 i0 i1 0 0 (ob_ws_at hs0) (ob_ws_at hs1) rfl rfl rfl a1 a2 a3 a4 a5 (fun _ _ => rfl) hfr ?_ d (fun H1 locs1 hP1 hD1 hS1 => ?_)
  · rw [List.map_map]
    have : (fun v : Value => v.category) ∘ ob_cv E = fun v => v.category := by funext v; exact ob_cv_cat E v
    rw [this]
    exact hlo
  · rw [ob_ws_A hs1 (by decide)] at hP1
    exact k p e s m args below meth c H1 locs1 lsM ⟨h1, hb, h3, h4, h5, h6, h7, h8, h9, h10, hP1, hS1, h13⟩
theorem ob_iret {sh : ob_Sh} {E : ob_E} {y : ob_M} {pc : Nat} {ls st : List Value} {σ : ob_Mem} {Q : Option Value → ob_Mem → Prop} {x : Int32} (d : decode y.2.1 pc = .ok (.ireturn, 1)) (hr : y.2.2.2.1 = some .int) (k : Q (some (.int x)) σ) : ob_RT sh E y pc ls [.int x] σ Q := by
  intro p e s m args below meth c H locs lsM h
  obtain ⟨h1, hb, h3, h4, h5, h6, h7, h8, h9, h10, h11, h12, h13⟩ := h
  exact W.iret h1 hb (h3.trans hr) (fun t ht hW => ⟨⟨some (.int x), σ, rfl, k, by rw [ht]; exact h11⟩, h12.F ht⟩) h12.2.2 d h4
theorem ob_zret {sh : ob_Sh} {E : ob_E} {y : ob_M} {pc : Nat} {ls st : List Value} {σ : ob_Mem} {Q : Option Value → ob_Mem → Prop} {x : Int32} {ty : FieldType} (d : decode y.2.1 pc = .ok (.ireturn, 1)) (hr : y.2.2.2.1 = some ty) (hn : narrow ty (.int x) = .int x) (k : Q (some (.int x)) σ) : ob_RT sh E y pc ls [.int x] σ Q := by
  intro p e s m args below meth c H locs lsM h
  obtain ⟨h1, hb, h3, h4, h5, h6, h7, h8, h9, h10, h11, h12, h13⟩ := h
  exact W.zret h1 hb (h3.trans hr) hn (fun t ht hW => ⟨⟨some (.int x), σ, rfl, k, by rw [ht]; exact h11⟩, h12.F ht⟩) h12.2.2 d h4
theorem ob_lret {sh : ob_Sh} {E : ob_E} {y : ob_M} {pc : Nat} {ls st : List Value} {σ : ob_Mem} {Q : Option Value → ob_Mem → Prop} {x : Int64} (d : decode y.2.1 pc = .ok (.lreturn, 1)) (hr : y.2.2.2.1 = some .long) (k : Q (some (.long x)) σ) : ob_RT sh E y pc ls [.long x] σ Q := by
  intro p e s m args below meth c H locs lsM h
  obtain ⟨h1, hb, h3, h4, h5, h6, h7, h8, h9, h10, h11, h12, h13⟩ := h
  exact W.lret h1 hb (h3.trans hr) (fun t ht hW => ⟨⟨some (.long x), σ, rfl, k, by rw [ht]; exact h11⟩, h12.F ht⟩) h12.2.2 d h4
theorem ob_vret {sh : ob_Sh} {E : ob_E} {y : ob_M} {pc : Nat} {ls st : List Value} {σ : ob_Mem} {Q : Option Value → ob_Mem → Prop} (d : decode y.2.1 pc = .ok (.return_, 1)) (hr : y.2.2.2.1 = none) (k : Q none σ) : ob_RT sh E y pc ls [] σ Q := by
  intro p e s m args below meth c H locs lsM h
  obtain ⟨h1, hb, h3, h4, h5, h6, h7, h8, h9, h10, h11, h12, h13⟩ := h
  exact W.vret h1 hb (h3.trans hr) (fun t ht hW => ⟨⟨none, σ, rfl, k, by rw [ht]; exact h11⟩, h12.F ht⟩) h12.2.2 d h4
theorem ob_aret {sh : ob_Sh} {E : ob_E} {y : ob_M} {pc : Nat} {ls st : List Value} {σ : ob_Mem} {Q : Option Value → ob_Mem → Prop} {i : Nat} {rt : String} (d : decode y.2.1 pc = .ok (.areturn, 1)) (hr : y.2.2.2.1 = some (.object rt)) (k : Q (some (.ref i)) σ) : ob_RT sh E y pc ls [.ref i] σ Q := by
  intro p e s m args below meth c H locs lsM h
  obtain ⟨h1, hb, h3, h4, h5, h6, h7, h8, h9, h10, h11, h12, h13⟩ := h
  exact W.aret h1 hb (h3.trans hr) (Or.inl ⟨_, rfl⟩) (Or.inr ⟨_, rfl⟩) (fun t ht hW => ⟨⟨some (.ref i), σ, rfl, k, by rw [ht]; exact h11⟩, h12.F ht⟩) h12.2.2 d h4
/-- a method of a class of ours, called on an object: what the tables say of it -/
def ob_MV (z : ob_M) (n : Nat) : Prop := Cond.instanceMethod z.1 ∈ ob_good ∧ Cond.selects z.1.cls z.1 z.1 ∈ ob_good ∧ Cond.initialized z.1.cls ∈ ob_good ∧ Cond.code z.1 z.2.1 z.2.2.1 z.2.2.2.1 ∈ ob_good ∧ z.1.cls ≠ "java/lang/invoke/MethodHandle" ∧ z.1.cls ≠ "java/lang/invoke/VarHandle" ∧ (parseMethodDescriptor z.1.desc).map (fun d => d.parameters.length) = some n
def ob_MS (z : ob_M) (n : Nat) : Prop := Cond.static z.1 ∈ ob_good ∧ Cond.initialized z.1.cls ∈ ob_good ∧ Cond.code z.1 z.2.1 z.2.2.1 z.2.2.2.1 ∈ ob_good ∧ z.1.cls ≠ "java/lang/invoke/MethodHandle" ∧ z.1.cls ≠ "java/lang/invoke/VarHandle" ∧ (parseMethodDescriptor z.1.desc).map (fun d => d.parameters.length) = some n
def ob_room (y z : ob_M) : Bool := Nat.ble (z.2.2.2.2.1 + 1) y.2.2.2.2.1 && Nat.ble (8 + (z.2.2.1 + 11) + z.2.2.2.2.2) y.2.2.2.2.2
theorem ob_room.at {y z : ob_M} (h : ob_room y z = true) : (ob_rm z).frames + 1 ≤ (ob_rm y).frames ∧ 8 + (z.2.2.1 + 11) + (ob_rm z).locals ≤ (ob_rm y).locals := by
  rw [ob_room, Bool.and_eq_true] at h
  exact ⟨Nat.le_of_ble_eq_true h.1, Nat.le_of_ble_eq_true h.2⟩
theorem ob_cats (E : ob_E) (st : List Value) : ((st.map (ob_cv E)).map fun v => v.category).sum = (st.map fun v => v.category).sum := by
  rw [List.map_map]
  have : (fun v : Value => v.category) ∘ ob_cv E = fun v => v.category := by funext v; exact ob_cv_cat E v
  rw [this]
theorem ob_back {sh : ob_Sh} {E : ob_E} {y : ob_M} {pc : Nat} {ls st st0 : List Value} {σ : ob_Mem} {Q Q' : Option Value → ob_Mem → Prop} {p : Program} {e : Env} {s : State} {m : MethodId} {args : Array Value} {below : List Frame} {meth : Method} {c : Code} {H : Heap} {locs : List Loc} {lsM : Array Slot} {a : Array Value} (h : ob_CX sh E y p s m args meth c H locs lsM ls σ)
    (hr : va_Run p E.1 e (ob_rm y) s m args below meth c H locs 0 0 0 0 (F0 m pc lsM st0) (st.map (ob_cv E)) (ob_QQ sh E Q' a) (ob_F sh E)) (k : ∀ r σ', Q' r σ' → ob_RT sh E y (pc + 3) ls (r.toList ++ st) σ' Q) : W p E.1 e (ob_rm y) s m args below meth c H locs 0 0 (MQ below (ob_QQ sh E Q) args s 0 0 (ob_F sh E)) (F0 m pc lsM st0) := by
  obtain ⟨h1, hb, h3, h4, h5, h6, h7, h8, h9, h10, h11, h12, h13⟩ := h
  intro T hT X
  obtain ⟨v, st₀, t, T', L, g0, X', hL, e1, e2, ⟨⟨r, σ', hv, hq, hP1⟩, hz, hk⟩, go⟩ := hr T hT X
  cases hv
  rw [g0] at hz hk
  have hS1 : va_S (ob_F sh E) s.heap T'.heap (locs ++ L) := ⟨Nat.le_trans h12.1 (by rw [e1]; exact hz), fun q q1 q2 => by rw [e1, hk q (Nat.lt_of_lt_of_le q1 h12.1) q2]; exact h12.2.1 q q1 q2, fun q hq => by
      rcases List.mem_append.mp hq with h | h
      · exact h12.2.2 q h
      · exact hL q h⟩
  obtain ⟨t2, a1, b1⟩ := k r σ' hq p e s m args below meth c T'.heap (locs ++ L) lsM ⟨h1, hb, h3, h4, h5, h6, h7, h8, h9, h10, by rw [e1]; exact hP1, hS1, h13⟩ T' rfl X'
  refine ⟨t2, go t2 ?_, b1⟩
  have : (r.map (ob_cv E)).toList ++ st.map (ob_cv E) = (r.toList ++ st).map (ob_cv E) := by cases r <;> rfl
  rw [this]
  exact a1
theorem ob_callV {sh : ob_Sh} {E : ob_E} {y : ob_M} {pc : Nat} {ls st st0 : List Value} {σ : ob_Mem} {Q Q' : Option Value → ob_Mem → Prop} (As : List Value) {z : ob_M} {j i ci : Nat} {rs : List Nat} {q : vw_C} (d : decode y.2.1 pc = .ok (.invokevirtual j, 3)) (hlk : Cond.methodLink y.1.cls j z.1 ∈ ob_good) (hz : ob_MV z As.length) (hR : ob_room y z = true) (hs : sh[i]? = some (.inr (ci, rs))) (hc : vwCl[ci]? = some q) (hcl : q.1 = z.1.cls) (hst : (st.map fun v => v.category).sum ≤ 8) (hk0 : As.reverse ++ .ref i :: st = st0)
    (hm : ob_RM sh E z (.ref i :: As) σ Q') (k : ∀ r σ', Q' r σ' → ob_RT sh E y (pc + 3) ls (r.toList ++ st) σ' Q) : ob_RT sh E y pc ls st0 σ Q := by
  intro p e s m args below meth c H locs lsM h
  have h0 := h
  obtain ⟨h1, hb, h3, h4, h5, h6, h7, h8, h9, h10, h11, h12, h13⟩ := h
  subst hk0
  obtain ⟨z1, z2, z3, z4, z5, z6, z7⟩ := hz
  refine ob_back h0 (va_runV (C := z.1.cls) (b := E.2.2.2 i) (bytes := z.2.1) (maxL := z.2.2.1) (ret := z.2.2.2.1) (n := As.length) (As := As.map (ob_cv E)) (rest := st.map (ob_cv E)) ⟨h1, hb, h5, h6, h7⟩ hm ⟨callB_of As.length h7 (ob_goodIn z4) rfl rfl rfl (h7 _ (List.mem_cons_of_mem _ z3)) (h7 _ (List.mem_cons_of_mem _ hlk)) ⟨z5, z6, z7⟩ (ob_room.at hR), (h7 _ (List.mem_cons_of_mem _ z1)), (h7 _ (List.mem_cons_of_mem _ z2))⟩ ⟨ob_blind sh E _ σ, ?_, (fun U hU hW => ⟨rfl, by rw [hU]; exact h11, va_K.moved hW.alike h8, by rw [hU]; exact (h9.warm hW).kept h12.2.1, h10⟩)⟩ rfl (by rw [List.length_map]) h13.1 (by rw [List.map_append, List.map_reverse, List.map_cons]; rfl) (lv_room (by rw [ob_cats]; exact hst)) d ⟨Nat.le_refl _, Nat.le_refl _⟩) k
  rw [← hcl]
  exact va_recv h8 h11 hc (ob_ws_at hs)
theorem ob_callT {sh : ob_Sh} {E : ob_E} {y : ob_M} {pc : Nat} {ls st st0 : List Value} {σ : ob_Mem} {Q Q' : Option Value → ob_Mem → Prop} (As : List Value) {z : ob_M} {j i : Nat} (d : decode y.2.1 pc = .ok (.invokevirtual j, 3)) (hlk : Cond.methodLink y.1.cls j z.1 ∈ ob_good) (hz : ob_MV z As.length) (hR : ob_room y z = true) (hi : i < 4) (hcl : z.1.cls = "java/lang/String") (hst : (st.map fun v => v.category).sum ≤ 8) (hk0 : As.reverse ++ .ref (110 + i) :: st = st0)
    (hm : ob_RM sh E z (.ref (110 + i) :: As) σ Q') (k : ∀ r σ', Q' r σ' → ob_RT sh E y (pc + 3) ls (r.toList ++ st) σ' Q) : ob_RT sh E y pc ls st0 σ Q := by
  intro p e s m args below meth c H locs lsM h
  have h0 := h
  obtain ⟨h1, hb, h3, h4, h5, h6, h7, h8, h9, h10, h11, h12, h13⟩ := h
  subst hk0
  obtain ⟨z1, z2, z3, z4, z5, z6, z7⟩ := hz
  refine ob_back h0 (va_runV (C := z.1.cls) (b := E.2.2.2 (110 + i)) (bytes := z.2.1) (maxL := z.2.2.1) (ret := z.2.2.2.1) (n := As.length) (As := As.map (ob_cv E)) (rest := st.map (ob_cv E)) ⟨h1, hb, h5, h6, h7⟩ hm ⟨callB_of As.length h7 (ob_goodIn z4) rfl rfl rfl (h7 _ (List.mem_cons_of_mem _ z3)) (h7 _ (List.mem_cons_of_mem _ hlk)) ⟨z5, z6, z7⟩ (ob_room.at hR), (h7 _ (List.mem_cons_of_mem _ z1)), (h7 _ (List.mem_cons_of_mem _ z2))⟩ ⟨ob_blind sh E _ σ, ?_, (fun U hU hW => ⟨rfl, by rw [hU]; exact h11, va_K.moved hW.alike h8, by rw [hU]; exact (h9.warm hW).kept h12.2.1, h10⟩)⟩ rfl (by rw [List.length_map]) h13.1 (by rw [List.map_append, List.map_reverse, List.map_cons]; rfl) (lv_room (by rw [ob_cats]; exact hst)) d ⟨Nat.le_refl _, Nat.le_refl _⟩) k
  rw [hcl]
  exact vk_recv (adK := fun i => E.2.2.2 (110 + i)) (i := i) h9.2.2.2.1 hi h12
theorem ob_callS {sh : ob_Sh} {E : ob_E} {y : ob_M} {pc : Nat} {ls st st0 : List Value} {σ : ob_Mem} {Q Q' : Option Value → ob_Mem → Prop} (As : List Value) {z : ob_M} {j : Nat} (d : decode y.2.1 pc = .ok (.invokestatic j, 3)) (hlk : Cond.methodLink y.1.cls j z.1 ∈ ob_good) (hz : ob_MS z As.length) (hR : ob_room y z = true) (hst : (st.map fun v => v.category).sum ≤ 8) (hk0 : As.reverse ++ st = st0)
    (hm : ob_RM sh E z As σ Q') (k : ∀ r σ', Q' r σ' → ob_RT sh E y (pc + 3) ls (r.toList ++ st) σ' Q) : ob_RT sh E y pc ls st0 σ Q := by
  intro p e s m args below meth c H locs lsM h
  have h0 := h
  obtain ⟨h1, hb, h3, h4, h5, h6, h7, h8, h9, h10, h11, h12, h13⟩ := h
  subst hk0
  obtain ⟨z1, z3, z4, z5, z6, z7⟩ := hz
  exact ob_back h0 (va_runS (bytes := z.2.1) (maxL := z.2.2.1) (ret := z.2.2.2.1) (n := As.length) (As := As.map (ob_cv E)) (rest := st.map (ob_cv E)) ⟨h1, hb, h5, h6, h7⟩ hm ⟨callB_of As.length h7 (ob_goodIn z4) rfl rfl rfl (h7 _ (List.mem_cons_of_mem _ z3)) (h7 _ (List.mem_cons_of_mem _ hlk)) ⟨z5, z6, z7⟩ (ob_room.at hR), (h7 _ (List.mem_cons_of_mem _ z1))⟩ ⟨ob_blind sh E _ σ, (fun U hU hW => ⟨rfl, by rw [hU]; exact h11, va_K.moved hW.alike h8, by rw [hU]; exact (h9.warm hW).kept h12.2.1, h10⟩)⟩ rfl (by rw [List.length_map]) h13.1 (by rw [List.map_append, List.map_reverse]) (lv_room (by rw [ob_cats]; exact hst)) d ⟨Nat.le_refl _, Nat.le_refl _⟩) k
theorem ob_callN {sh : ob_Sh} {E : ob_E} {y : ob_M} {pc : Nat} {ls st st0 : List Value} {σ : ob_Mem} {Q Q' : Option Value → ob_Mem → Prop} (As : List Value) {z : ob_M} (d : decode y.2.1 pc = .ok (.invokestatic 80, 3)) (hy : y.1.cls = RX3) (hzn : z.1 = yX8_isOutside) (hz : ob_MS z As.length) (hR : ob_room y z = true) (hst : (st.map fun v => v.category).sum ≤ 8) (hk0 : As.reverse ++ st = st0)
    (hm : ob_RM sh E z As σ Q') (k : ∀ r σ', Q' r σ' → ob_RT sh E y (pc + 3) ls (r.toList ++ st) σ' Q) : ob_RT sh E y pc ls st0 σ Q := by
  intro p e s m args below meth c H locs lsM h
  have h0 := h
  obtain ⟨h1, hb, h3, h4, h5, h6, h7, h8, h9, h10, h11, h12, h13⟩ := h
  subst hk0
  obtain ⟨z1, z3, z4, z5, z6, z7⟩ := hz
  exact ob_back h0 (va_runSN (host := RX8) (bytes := z.2.1) (maxL := z.2.2.1) (ret := z.2.2.2.1) (n := As.length) (As := As.map (ob_cv E)) (rest := st.map (ob_cv E)) ⟨h1, hb, h5, h6, h7⟩ hm ⟨va_cnB As.length h7 (ob_goodIn z4) rfl rfl rfl (by rw [hy, hzn]; exact h9.2.2.2.2.2.2) (h7 _ (List.mem_cons_of_mem _ z3)) ⟨z5, z6, z7⟩ (ob_room.at hR), (h7 _ (List.mem_cons_of_mem _ z1)), trivial⟩ ⟨ob_blind sh E _ σ, (fun U hU hW => ⟨rfl, by rw [hU]; exact h11, va_K.moved hW.alike h8, by rw [hU]; exact (h9.warm hW).kept h12.2.1, h10⟩)⟩ rfl (by rw [List.length_map]) h13.1 (by rw [List.map_append, List.map_reverse]) (lv_room (by rw [ob_cats]; exact hst)) d ⟨Nat.le_refl _, Nat.le_refl _⟩) k
def ob_qI (Q : Int32 → ob_Mem → Prop) : Option Value → ob_Mem → Prop := fun r σ => ∃ v, r = some (.int v) ∧ Q v σ
def ob_qL (Q : Int64 → ob_Mem → Prop) : Option Value → ob_Mem → Prop := fun r σ => ∃ v, r = some (.long v) ∧ Q v σ
def ob_qR (Q : Nat → ob_Mem → Prop) : Option Value → ob_Mem → Prop := fun r σ => ∃ v, r = some (.ref v) ∧ Q v σ
def ob_qV (Q : ob_Mem → Prop) : Option Value → ob_Mem → Prop := fun r σ => r = none ∧ Q σ
theorem ob_kI {sh : ob_Sh} {E : ob_E} {y : ob_M} {pc : Nat} {ls st : List Value} {Q : Option Value → ob_Mem → Prop} {Q' : Int32 → ob_Mem → Prop} (k : ∀ v σ', Q' v σ' → ob_RT sh E y pc ls (.int v :: st) σ' Q) : ∀ r σ', ob_qI Q' r σ' → ob_RT sh E y pc ls (r.toList ++ st) σ' Q := by
  rintro r σ' ⟨v, rfl, h⟩
  exact k v σ' h
theorem ob_kL {sh : ob_Sh} {E : ob_E} {y : ob_M} {pc : Nat} {ls st : List Value} {Q : Option Value → ob_Mem → Prop} {Q' : Int64 → ob_Mem → Prop} (k : ∀ v σ', Q' v σ' → ob_RT sh E y pc ls (.long v :: st) σ' Q) : ∀ r σ', ob_qL Q' r σ' → ob_RT sh E y pc ls (r.toList ++ st) σ' Q := by
  rintro r σ' ⟨v, rfl, h⟩
  exact k v σ' h
theorem ob_kR {sh : ob_Sh} {E : ob_E} {y : ob_M} {pc : Nat} {ls st : List Value} {Q : Option Value → ob_Mem → Prop} {Q' : Nat → ob_Mem → Prop} (k : ∀ v σ', Q' v σ' → ob_RT sh E y pc ls (.ref v :: st) σ' Q) : ∀ r σ', ob_qR Q' r σ' → ob_RT sh E y pc ls (r.toList ++ st) σ' Q := by
  rintro r σ' ⟨v, rfl, h⟩
  exact k v σ' h
theorem ob_kV {sh : ob_Sh} {E : ob_E} {y : ob_M} {pc : Nat} {ls st : List Value} {Q : Option Value → ob_Mem → Prop} {Q' : ob_Mem → Prop} (k : ∀ σ', Q' σ' → ob_RT sh E y pc ls st σ' Q) : ∀ r σ', ob_qV Q' r σ' → ob_RT sh E y pc ls (r.toList ++ st) σ' Q := by
  rintro r σ' ⟨rfl, h⟩
  exact k σ' h
end
