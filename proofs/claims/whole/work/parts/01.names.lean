-- ===== PART A: goes FIRST, ahead of the names: the tables' words, and 'selects' of the private methods out of them =====
/-- a private method of a class that the tables say can be made, by its rows of tables_1 -/
def lw_okq (q : MethodName × Nat) : Prop := (q.1.cls ≠ "java/lang/invoke/MethodHandle" ∧ q.1.cls ≠ "java/lang/invoke/VarHandle") ∧ Cond.instantiable q.1.cls q.2 ∈ tables_1 ∧ Cond.privateMethod q.1 ∈ tables_1 ∧ Cond.instanceMethod q.1 ∈ tables_1
theorem lw_p0 : lw_okq (⟨"WalkTheDike$Tape", "advance", "()V"⟩, 8) := ⟨⟨by decide +kernel, by decide +kernel⟩, List.mem_of_getElem? (i := 149) (by decide +kernel), List.mem_of_getElem? (i := 438) (by decide +kernel), List.mem_of_getElem? (i := 439) (by decide +kernel)⟩
theorem lw_p1 : lw_okq (⟨"WalkTheDike$Tape", "at", "(I)I"⟩, 8) := ⟨⟨by decide +kernel, by decide +kernel⟩, List.mem_of_getElem? (i := 149) (by decide +kernel), List.mem_of_getElem? (i := 442) (by decide +kernel), List.mem_of_getElem? (i := 443) (by decide +kernel)⟩
theorem lw_p2 : lw_okq (⟨"WalkTheDike$Tape", "wordToken", "()I"⟩, 8) := ⟨⟨by decide +kernel, by decide +kernel⟩, List.mem_of_getElem? (i := 149) (by decide +kernel), List.mem_of_getElem? (i := 449) (by decide +kernel), List.mem_of_getElem? (i := 450) (by decide +kernel)⟩
theorem lw_p3 : lw_okq (⟨"WalkTheDike$Tape", "numberToken", "()I"⟩, 8) := ⟨⟨by decide +kernel, by decide +kernel⟩, List.mem_of_getElem? (i := 149) (by decide +kernel), List.mem_of_getElem? (i := 459) (by decide +kernel), List.mem_of_getElem? (i := 460) (by decide +kernel)⟩
theorem lw_p4 : lw_okq (⟨"WalkTheDike$Tape", "either", "(I)Z"⟩, 8) := ⟨⟨by decide +kernel, by decide +kernel⟩, List.mem_of_getElem? (i := 149) (by decide +kernel), List.mem_of_getElem? (i := 466) (by decide +kernel), List.mem_of_getElem? (i := 467) (by decide +kernel)⟩
theorem lw_p5 : lw_okq (⟨"WalkTheDike$Tape", "both", "(I)Z"⟩, 8) := ⟨⟨by decide +kernel, by decide +kernel⟩, List.mem_of_getElem? (i := 149) (by decide +kernel), List.mem_of_getElem? (i := 470) (by decide +kernel), List.mem_of_getElem? (i := 471) (by decide +kernel)⟩
theorem lw_p6 : lw_okq (⟨"WalkTheDike$Tape", "negation", "(I)Z"⟩, 8) := ⟨⟨by decide +kernel, by decide +kernel⟩, List.mem_of_getElem? (i := 149) (by decide +kernel), List.mem_of_getElem? (i := 474) (by decide +kernel), List.mem_of_getElem? (i := 475) (by decide +kernel)⟩
theorem lw_p7 : lw_okq (⟨"WalkTheDike$Tape", "comparison", "(I)Z"⟩, 8) := ⟨⟨by decide +kernel, by decide +kernel⟩, List.mem_of_getElem? (i := 149) (by decide +kernel), List.mem_of_getElem? (i := 478) (by decide +kernel), List.mem_of_getElem? (i := 479) (by decide +kernel)⟩
theorem lw_p8 : lw_okq (⟨"WalkTheDike$Tape", "sum", "(I)Z"⟩, 8) := ⟨⟨by decide +kernel, by decide +kernel⟩, List.mem_of_getElem? (i := 149) (by decide +kernel), List.mem_of_getElem? (i := 482) (by decide +kernel), List.mem_of_getElem? (i := 483) (by decide +kernel)⟩
theorem lw_p9 : lw_okq (⟨"WalkTheDike$Tape", "term", "(I)Z"⟩, 8) := ⟨⟨by decide +kernel, by decide +kernel⟩, List.mem_of_getElem? (i := 149) (by decide +kernel), List.mem_of_getElem? (i := 486) (by decide +kernel), List.mem_of_getElem? (i := 487) (by decide +kernel)⟩
theorem lw_p10 : lw_okq (⟨"WalkTheDike$Tape", "one", "(I)Z"⟩, 8) := ⟨⟨by decide +kernel, by decide +kernel⟩, List.mem_of_getElem? (i := 149) (by decide +kernel), List.mem_of_getElem? (i := 490) (by decide +kernel), List.mem_of_getElem? (i := 491) (by decide +kernel)⟩
theorem lw_p11 : lw_okq (⟨"WalkTheDike$Tape", "put", "(I)V"⟩, 8) := ⟨⟨by decide +kernel, by decide +kernel⟩, List.mem_of_getElem? (i := 149) (by decide +kernel), List.mem_of_getElem? (i := 494) (by decide +kernel), List.mem_of_getElem? (i := 495) (by decide +kernel)⟩
theorem lw_p12 : lw_okq (⟨"WalkTheDike", "rowRefused", "(III)I"⟩, 11) := ⟨⟨by decide +kernel, by decide +kernel⟩, List.mem_of_getElem? (i := 22) (by decide +kernel), List.mem_of_getElem? (i := 615) (by decide +kernel), List.mem_of_getElem? (i := 616) (by decide +kernel)⟩
theorem lw_p13 : lw_okq (⟨"WalkTheDike$Walk", "othersAt", "(II)I"⟩, 13) := ⟨⟨by decide +kernel, by decide +kernel⟩, List.mem_of_getElem? (i := 203) (by decide +kernel), List.mem_of_getElem? (i := 664) (by decide +kernel), List.mem_of_getElem? (i := 665) (by decide +kernel)⟩
theorem lw_p14 : lw_okq (⟨"WalkTheDike$Walk", "comes", "(II)I"⟩, 13) := ⟨⟨by decide +kernel, by decide +kernel⟩, List.mem_of_getElem? (i := 203) (by decide +kernel), List.mem_of_getElem? (i := 672) (by decide +kernel), List.mem_of_getElem? (i := 673) (by decide +kernel)⟩
theorem lw_p15 : lw_okq (⟨"WalkTheDike$Walk", "towards", "(III)I"⟩, 13) := ⟨⟨by decide +kernel, by decide +kernel⟩, List.mem_of_getElem? (i := 203) (by decide +kernel), List.mem_of_getElem? (i := 680) (by decide +kernel), List.mem_of_getElem? (i := 681) (by decide +kernel)⟩
def lw_privs_1 : List (MethodName × Nat) := [(⟨"WalkTheDike$Tape", "advance", "()V"⟩, 8), (⟨"WalkTheDike$Tape", "at", "(I)I"⟩, 8), (⟨"WalkTheDike$Tape", "wordToken", "()I"⟩, 8), (⟨"WalkTheDike$Tape", "numberToken", "()I"⟩, 8), (⟨"WalkTheDike$Tape", "either", "(I)Z"⟩, 8), (⟨"WalkTheDike$Tape", "both", "(I)Z"⟩, 8), (⟨"WalkTheDike$Tape", "negation", "(I)Z"⟩, 8), (⟨"WalkTheDike$Tape", "comparison", "(I)Z"⟩, 8), (⟨"WalkTheDike$Tape", "sum", "(I)Z"⟩, 8), (⟨"WalkTheDike$Tape", "term", "(I)Z"⟩, 8), (⟨"WalkTheDike$Tape", "one", "(I)Z"⟩, 8), (⟨"WalkTheDike$Tape", "put", "(I)V"⟩, 8), (⟨"WalkTheDike", "rowRefused", "(III)I"⟩, 11), (⟨"WalkTheDike$Walk", "othersAt", "(II)I"⟩, 13), (⟨"WalkTheDike$Walk", "comes", "(II)I"⟩, 13), (⟨"WalkTheDike$Walk", "towards", "(III)I"⟩, 13)]
theorem lw_r1 : ∀ q ∈ lw_privs_1, lw_okq q := List.forall_mem_cons.mpr ⟨lw_p0, List.forall_mem_cons.mpr ⟨lw_p1, List.forall_mem_cons.mpr ⟨lw_p2, List.forall_mem_cons.mpr ⟨lw_p3, List.forall_mem_cons.mpr ⟨lw_p4, List.forall_mem_cons.mpr ⟨lw_p5, List.forall_mem_cons.mpr ⟨lw_p6, List.forall_mem_cons.mpr ⟨lw_p7, List.forall_mem_cons.mpr ⟨lw_p8, List.forall_mem_cons.mpr ⟨lw_p9, List.forall_mem_cons.mpr ⟨lw_p10, List.forall_mem_cons.mpr ⟨lw_p11, List.forall_mem_cons.mpr ⟨lw_p12, List.forall_mem_cons.mpr ⟨lw_p13, List.forall_mem_cons.mpr ⟨lw_p14, List.forall_mem_cons.mpr ⟨lw_p15, fun _ h => absurd h List.not_mem_nil⟩⟩⟩⟩⟩⟩⟩⟩⟩⟩⟩⟩⟩⟩⟩⟩
theorem lw_p16 : lw_okq (⟨"WalkTheDike$Walk", "riskiest", "(III)I"⟩, 13) := ⟨⟨by decide +kernel, by decide +kernel⟩, List.mem_of_getElem? (i := 203) (by decide +kernel), List.mem_of_getElem? (i := 690) (by decide +kernel), List.mem_of_getElem? (i := 691) (by decide +kernel)⟩
theorem lw_p17 : lw_okq (⟨"WalkTheDike", "hoursLookedAt", "(I)I"⟩, 11) := ⟨⟨by decide +kernel, by decide +kernel⟩, List.mem_of_getElem? (i := 22) (by decide +kernel), List.mem_of_getElem? (i := 713) (by decide +kernel), List.mem_of_getElem? (i := 714) (by decide +kernel)⟩
theorem lw_p18 : lw_okq (⟨"WalkTheDike", "longestNotLookedAt", "(I)I"⟩, 11) := ⟨⟨by decide +kernel, by decide +kernel⟩, List.mem_of_getElem? (i := 22) (by decide +kernel), List.mem_of_getElem? (i := 717) (by decide +kernel), List.mem_of_getElem? (i := 718) (by decide +kernel)⟩
theorem lw_p19 : lw_okq (⟨"WalkTheDike$Reckoning", "grow", "(II)V"⟩, 6) := ⟨⟨by decide +kernel, by decide +kernel⟩, List.mem_of_getElem? (i := 256) (by decide +kernel), List.mem_of_getElem? (i := 743) (by decide +kernel), List.mem_of_getElem? (i := 744) (by decide +kernel)⟩
theorem lw_p20 : lw_okq (⟨"WalkTheDike$Reckoning", "look", "(III)V"⟩, 6) := ⟨⟨by decide +kernel, by decide +kernel⟩, List.mem_of_getElem? (i := 256) (by decide +kernel), List.mem_of_getElem? (i := 760) (by decide +kernel), List.mem_of_getElem? (i := 761) (by decide +kernel)⟩
theorem lw_p21 : lw_okq (⟨"WalkTheDike", "allHarm", "()J"⟩, 11) := ⟨⟨by decide +kernel, by decide +kernel⟩, List.mem_of_getElem? (i := 22) (by decide +kernel), List.mem_of_getElem? (i := 793) (by decide +kernel), List.mem_of_getElem? (i := 794) (by decide +kernel)⟩
theorem lw_p22 : lw_okq (⟨"WalkTheDike", "holedOften", "(I)I"⟩, 11) := ⟨⟨by decide +kernel, by decide +kernel⟩, List.mem_of_getElem? (i := 22) (by decide +kernel), List.mem_of_getElem? (i := 865) (by decide +kernel), List.mem_of_getElem? (i := 866) (by decide +kernel)⟩
theorem lw_p23 : lw_okq (⟨"WalkTheDike$Drawing", "grow", "(II)V"⟩, 8) := ⟨⟨by decide +kernel, by decide +kernel⟩, List.mem_of_getElem? (i := 284) (by decide +kernel), List.mem_of_getElem? (i := 885) (by decide +kernel), List.mem_of_getElem? (i := 886) (by decide +kernel)⟩
theorem lw_p24 : lw_okq (⟨"WalkTheDike$Drawing", "nextLot", "()J"⟩, 8) := ⟨⟨by decide +kernel, by decide +kernel⟩, List.mem_of_getElem? (i := 284) (by decide +kernel), List.mem_of_getElem? (i := 889) (by decide +kernel), List.mem_of_getElem? (i := 890) (by decide +kernel)⟩
theorem lw_p25 : lw_okq (⟨"WalkTheDike$Drawing", "look", "(III)V"⟩, 8) := ⟨⟨by decide +kernel, by decide +kernel⟩, List.mem_of_getElem? (i := 284) (by decide +kernel), List.mem_of_getElem? (i := 898) (by decide +kernel), List.mem_of_getElem? (i := 899) (by decide +kernel)⟩
theorem lw_p26 : lw_okq (⟨"WalkTheDikeModel", "first", "(IIIII)V"⟩, 72) := ⟨⟨by decide +kernel, by decide +kernel⟩, List.mem_of_getElem? (i := 951) (by decide +kernel), List.mem_of_getElem? (i := 970) (by decide +kernel), List.mem_of_getElem? (i := 971) (by decide +kernel)⟩
theorem lw_p27 : lw_okq (⟨"WalkTheDikeModel", "isPiece", "(I)Z"⟩, 72) := ⟨⟨by decide +kernel, by decide +kernel⟩, List.mem_of_getElem? (i := 951) (by decide +kernel), List.mem_of_getElem? (i := 1206) (by decide +kernel), List.mem_of_getElem? (i := 1207) (by decide +kernel)⟩
theorem lw_p28 : lw_okq (⟨"WalkTheDikeModel", "next", "()V"⟩, 72) := ⟨⟨by decide +kernel, by decide +kernel⟩, List.mem_of_getElem? (i := 951) (by decide +kernel), List.mem_of_getElem? (i := 1232) (by decide +kernel), List.mem_of_getElem? (i := 1233) (by decide +kernel)⟩
theorem lw_p29 : lw_okq (⟨"WalkTheDikeModel", "letters", "()J"⟩, 72) := ⟨⟨by decide +kernel, by decide +kernel⟩, List.mem_of_getElem? (i := 951) (by decide +kernel), List.mem_of_getElem? (i := 1236) (by decide +kernel), List.mem_of_getElem? (i := 1237) (by decide +kernel)⟩
theorem lw_p30 : lw_okq (⟨"WalkTheDikeModel", "eRead", "()Z"⟩, 72) := ⟨⟨by decide +kernel, by decide +kernel⟩, List.mem_of_getElem? (i := 951) (by decide +kernel), List.mem_of_getElem? (i := 1240) (by decide +kernel), List.mem_of_getElem? (i := 1241) (by decide +kernel)⟩
theorem lw_p31 : lw_okq (⟨"WalkTheDikeModel", "puts", "(I)V"⟩, 72) := ⟨⟨by decide +kernel, by decide +kernel⟩, List.mem_of_getElem? (i := 951) (by decide +kernel), List.mem_of_getElem? (i := 1245) (by decide +kernel), List.mem_of_getElem? (i := 1246) (by decide +kernel)⟩
def lw_privs_2 : List (MethodName × Nat) := [(⟨"WalkTheDike$Walk", "riskiest", "(III)I"⟩, 13), (⟨"WalkTheDike", "hoursLookedAt", "(I)I"⟩, 11), (⟨"WalkTheDike", "longestNotLookedAt", "(I)I"⟩, 11), (⟨"WalkTheDike$Reckoning", "grow", "(II)V"⟩, 6), (⟨"WalkTheDike$Reckoning", "look", "(III)V"⟩, 6), (⟨"WalkTheDike", "allHarm", "()J"⟩, 11), (⟨"WalkTheDike", "holedOften", "(I)I"⟩, 11), (⟨"WalkTheDike$Drawing", "grow", "(II)V"⟩, 8), (⟨"WalkTheDike$Drawing", "nextLot", "()J"⟩, 8), (⟨"WalkTheDike$Drawing", "look", "(III)V"⟩, 8), (⟨"WalkTheDikeModel", "first", "(IIIII)V"⟩, 72), (⟨"WalkTheDikeModel", "isPiece", "(I)Z"⟩, 72), (⟨"WalkTheDikeModel", "next", "()V"⟩, 72), (⟨"WalkTheDikeModel", "letters", "()J"⟩, 72), (⟨"WalkTheDikeModel", "eRead", "()Z"⟩, 72), (⟨"WalkTheDikeModel", "puts", "(I)V"⟩, 72)]
theorem lw_r2 : ∀ q ∈ lw_privs_2, lw_okq q := List.forall_mem_cons.mpr ⟨lw_p16, List.forall_mem_cons.mpr ⟨lw_p17, List.forall_mem_cons.mpr ⟨lw_p18, List.forall_mem_cons.mpr ⟨lw_p19, List.forall_mem_cons.mpr ⟨lw_p20, List.forall_mem_cons.mpr ⟨lw_p21, List.forall_mem_cons.mpr ⟨lw_p22, List.forall_mem_cons.mpr ⟨lw_p23, List.forall_mem_cons.mpr ⟨lw_p24, List.forall_mem_cons.mpr ⟨lw_p25, List.forall_mem_cons.mpr ⟨lw_p26, List.forall_mem_cons.mpr ⟨lw_p27, List.forall_mem_cons.mpr ⟨lw_p28, List.forall_mem_cons.mpr ⟨lw_p29, List.forall_mem_cons.mpr ⟨lw_p30, List.forall_mem_cons.mpr ⟨lw_p31, fun _ h => absurd h List.not_mem_nil⟩⟩⟩⟩⟩⟩⟩⟩⟩⟩⟩⟩⟩⟩⟩⟩
theorem lw_p32 : lw_okq (⟨"WalkTheDikeModel", "unwinds", "(I)V"⟩, 72) := ⟨⟨by decide +kernel, by decide +kernel⟩, List.mem_of_getElem? (i := 951) (by decide +kernel), List.mem_of_getElem? (i := 1249) (by decide +kernel), List.mem_of_getElem? (i := 1250) (by decide +kernel)⟩
theorem lw_p33 : lw_okq (⟨"WalkTheDikeModel", "opensOne", "(I)Z"⟩, 72) := ⟨⟨by decide +kernel, by decide +kernel⟩, List.mem_of_getElem? (i := 951) (by decide +kernel), List.mem_of_getElem? (i := 1256) (by decide +kernel), List.mem_of_getElem? (i := 1257) (by decide +kernel)⟩
theorem lw_p34 : lw_okq (⟨"WalkTheDikeModel", "holds", "(I)V"⟩, 72) := ⟨⟨by decide +kernel, by decide +kernel⟩, List.mem_of_getElem? (i := 951) (by decide +kernel), List.mem_of_getElem? (i := 1260) (by decide +kernel), List.mem_of_getElem? (i := 1261) (by decide +kernel)⟩
theorem lw_p35 : lw_okq (⟨"WalkTheDikeModel", "signOf", "()I"⟩, 72) := ⟨⟨by decide +kernel, by decide +kernel⟩, List.mem_of_getElem? (i := 951) (by decide +kernel), List.mem_of_getElem? (i := 1264) (by decide +kernel), List.mem_of_getElem? (i := 1265) (by decide +kernel)⟩
theorem lw_p36 : lw_okq (⟨"WalkTheDikeModel", "between", "(I)Z"⟩, 72) := ⟨⟨by decide +kernel, by decide +kernel⟩, List.mem_of_getElem? (i := 951) (by decide +kernel), List.mem_of_getElem? (i := 1268) (by decide +kernel), List.mem_of_getElem? (i := 1269) (by decide +kernel)⟩
theorem lw_p37 : lw_okq (⟨"WalkTheDikeModel", "says", "(IIIII)I"⟩, 72) := ⟨⟨by decide +kernel, by decide +kernel⟩, List.mem_of_getElem? (i := 951) (by decide +kernel), List.mem_of_getElem? (i := 1280) (by decide +kernel), List.mem_of_getElem? (i := 1281) (by decide +kernel)⟩
theorem lw_p38 : lw_okq (⟨"WalkTheDikeModel", "worth", "(I)I"⟩, 72) := ⟨⟨by decide +kernel, by decide +kernel⟩, List.mem_of_getElem? (i := 951) (by decide +kernel), List.mem_of_getElem? (i := 1284) (by decide +kernel), List.mem_of_getElem? (i := 1285) (by decide +kernel)⟩
theorem lw_p39 : lw_okq (⟨"WalkTheDikeModel", "isMan", "(I)Z"⟩, 72) := ⟨⟨by decide +kernel, by decide +kernel⟩, List.mem_of_getElem? (i := 951) (by decide +kernel), List.mem_of_getElem? (i := 1299) (by decide +kernel), List.mem_of_getElem? (i := 1300) (by decide +kernel)⟩
theorem lw_p40 : lw_okq (⟨"WalkTheDikeModel", "isHour", "(I)Z"⟩, 72) := ⟨⟨by decide +kernel, by decide +kernel⟩, List.mem_of_getElem? (i := 951) (by decide +kernel), List.mem_of_getElem? (i := 1311) (by decide +kernel), List.mem_of_getElem? (i := 1312) (by decide +kernel)⟩
theorem lw_p41 : lw_okq (⟨"WalkTheDikeModel", "walk", "()V"⟩, 72) := ⟨⟨by decide +kernel, by decide +kernel⟩, List.mem_of_getElem? (i := 951) (by decide +kernel), List.mem_of_getElem? (i := 1315) (by decide +kernel), List.mem_of_getElem? (i := 1316) (by decide +kernel)⟩
theorem lw_p42 : lw_okq (⟨"WalkTheDikeModel", "turns", "(II)V"⟩, 72) := ⟨⟨by decide +kernel, by decide +kernel⟩, List.mem_of_getElem? (i := 951) (by decide +kernel), List.mem_of_getElem? (i := 1319) (by decide +kernel), List.mem_of_getElem? (i := 1320) (by decide +kernel)⟩
theorem lw_p43 : lw_okq (⟨"WalkTheDikeModel", "looks", "(I)V"⟩, 72) := ⟨⟨by decide +kernel, by decide +kernel⟩, List.mem_of_getElem? (i := 951) (by decide +kernel), List.mem_of_getElem? (i := 1323) (by decide +kernel), List.mem_of_getElem? (i := 1324) (by decide +kernel)⟩
theorem lw_p44 : lw_okq (⟨"WalkTheDikeModel", "doesLook", "(II)Z"⟩, 72) := ⟨⟨by decide +kernel, by decide +kernel⟩, List.mem_of_getElem? (i := 951) (by decide +kernel), List.mem_of_getElem? (i := 1327) (by decide +kernel), List.mem_of_getElem? (i := 1328) (by decide +kernel)⟩
theorem lw_p45 : lw_okq (⟨"WalkTheDikeModel", "isVillage", "(II)Z"⟩, 72) := ⟨⟨by decide +kernel, by decide +kernel⟩, List.mem_of_getElem? (i := 951) (by decide +kernel), List.mem_of_getElem? (i := 1331) (by decide +kernel), List.mem_of_getElem? (i := 1332) (by decide +kernel)⟩
theorem lw_p46 : lw_okq (⟨"WalkTheDikeModel", "goesTo", "(II)I"⟩, 72) := ⟨⟨by decide +kernel, by decide +kernel⟩, List.mem_of_getElem? (i := 951) (by decide +kernel), List.mem_of_getElem? (i := 1335) (by decide +kernel), List.mem_of_getElem? (i := 1336) (by decide +kernel)⟩
theorem lw_p47 : lw_okq (⟨"WalkTheDikeModel", "byRisk", "(II)I"⟩, 72) := ⟨⟨by decide +kernel, by decide +kernel⟩, List.mem_of_getElem? (i := 951) (by decide +kernel), List.mem_of_getElem? (i := 1339) (by decide +kernel), List.mem_of_getElem? (i := 1340) (by decide +kernel)⟩
def lw_privs_3 : List (MethodName × Nat) := [(⟨"WalkTheDikeModel", "unwinds", "(I)V"⟩, 72), (⟨"WalkTheDikeModel", "opensOne", "(I)Z"⟩, 72), (⟨"WalkTheDikeModel", "holds", "(I)V"⟩, 72), (⟨"WalkTheDikeModel", "signOf", "()I"⟩, 72), (⟨"WalkTheDikeModel", "between", "(I)Z"⟩, 72), (⟨"WalkTheDikeModel", "says", "(IIIII)I"⟩, 72), (⟨"WalkTheDikeModel", "worth", "(I)I"⟩, 72), (⟨"WalkTheDikeModel", "isMan", "(I)Z"⟩, 72), (⟨"WalkTheDikeModel", "isHour", "(I)Z"⟩, 72), (⟨"WalkTheDikeModel", "walk", "()V"⟩, 72), (⟨"WalkTheDikeModel", "turns", "(II)V"⟩, 72), (⟨"WalkTheDikeModel", "looks", "(I)V"⟩, 72), (⟨"WalkTheDikeModel", "doesLook", "(II)Z"⟩, 72), (⟨"WalkTheDikeModel", "isVillage", "(II)Z"⟩, 72), (⟨"WalkTheDikeModel", "goesTo", "(II)I"⟩, 72), (⟨"WalkTheDikeModel", "byRisk", "(II)I"⟩, 72)]
theorem lw_r3 : ∀ q ∈ lw_privs_3, lw_okq q := List.forall_mem_cons.mpr ⟨lw_p32, List.forall_mem_cons.mpr ⟨lw_p33, List.forall_mem_cons.mpr ⟨lw_p34, List.forall_mem_cons.mpr ⟨lw_p35, List.forall_mem_cons.mpr ⟨lw_p36, List.forall_mem_cons.mpr ⟨lw_p37, List.forall_mem_cons.mpr ⟨lw_p38, List.forall_mem_cons.mpr ⟨lw_p39, List.forall_mem_cons.mpr ⟨lw_p40, List.forall_mem_cons.mpr ⟨lw_p41, List.forall_mem_cons.mpr ⟨lw_p42, List.forall_mem_cons.mpr ⟨lw_p43, List.forall_mem_cons.mpr ⟨lw_p44, List.forall_mem_cons.mpr ⟨lw_p45, List.forall_mem_cons.mpr ⟨lw_p46, List.forall_mem_cons.mpr ⟨lw_p47, fun _ h => absurd h List.not_mem_nil⟩⟩⟩⟩⟩⟩⟩⟩⟩⟩⟩⟩⟩⟩⟩⟩
theorem lw_p48 : lw_okq (⟨"WalkTheDikeModel", "danger", "(II)J"⟩, 72) := ⟨⟨by decide +kernel, by decide +kernel⟩, List.mem_of_getElem? (i := 951) (by decide +kernel), List.mem_of_getElem? (i := 1343) (by decide +kernel), List.mem_of_getElem? (i := 1344) (by decide +kernel)⟩
theorem lw_p49 : lw_okq (⟨"WalkTheDikeModel", "rowWithout", "(I)I"⟩, 72) := ⟨⟨by decide +kernel, by decide +kernel⟩, List.mem_of_getElem? (i := 951) (by decide +kernel), List.mem_of_getElem? (i := 1358) (by decide +kernel), List.mem_of_getElem? (i := 1359) (by decide +kernel)⟩
theorem lw_p50 : lw_okq (⟨"WalkTheDikeModel", "runAll", "(I)J"⟩, 72) := ⟨⟨by decide +kernel, by decide +kernel⟩, List.mem_of_getElem? (i := 951) (by decide +kernel), List.mem_of_getElem? (i := 1370) (by decide +kernel), List.mem_of_getElem? (i := 1371) (by decide +kernel)⟩
theorem lw_p51 : lw_okq (⟨"WalkTheDikeModel", "reckons", "(II)V"⟩, 72) := ⟨⟨by decide +kernel, by decide +kernel⟩, List.mem_of_getElem? (i := 951) (by decide +kernel), List.mem_of_getElem? (i := 1374) (by decide +kernel), List.mem_of_getElem? (i := 1375) (by decide +kernel)⟩
theorem lw_p52 : lw_okq (⟨"WalkTheDikeModel", "lookBy", "(III)V"⟩, 72) := ⟨⟨by decide +kernel, by decide +kernel⟩, List.mem_of_getElem? (i := 951) (by decide +kernel), List.mem_of_getElem? (i := 1380) (by decide +kernel), List.mem_of_getElem? (i := 1381) (by decide +kernel)⟩
theorem lw_p53 : lw_okq (⟨"WalkTheDikeModel", "withLook", "(II)J"⟩, 72) := ⟨⟨by decide +kernel, by decide +kernel⟩, List.mem_of_getElem? (i := 951) (by decide +kernel), List.mem_of_getElem? (i := 1402) (by decide +kernel), List.mem_of_getElem? (i := 1403) (by decide +kernel)⟩
theorem lw_p54 : lw_okq (⟨"WalkTheDikeModel", "calledIn", "(I)J"⟩, 72) := ⟨⟨by decide +kernel, by decide +kernel⟩, List.mem_of_getElem? (i := 951) (by decide +kernel), List.mem_of_getElem? (i := 1458) (by decide +kernel), List.mem_of_getElem? (i := 1459) (by decide +kernel)⟩
theorem lw_p55 : lw_okq (⟨"WalkTheDikeModel", "isLittle", "(III)Z"⟩, 72) := ⟨⟨by decide +kernel, by decide +kernel⟩, List.mem_of_getElem? (i := 951) (by decide +kernel), List.mem_of_getElem? (i := 1470) (by decide +kernel), List.mem_of_getElem? (i := 1471) (by decide +kernel)⟩
theorem lw_p56 : lw_okq (⟨"WalkTheDikeModel", "holesWrong", "(I)I"⟩, 72) := ⟨⟨by decide +kernel, by decide +kernel⟩, List.mem_of_getElem? (i := 951) (by decide +kernel), List.mem_of_getElem? (i := 1478) (by decide +kernel), List.mem_of_getElem? (i := 1479) (by decide +kernel)⟩
theorem lw_p57 : lw_okq (⟨"WalkTheDikeModel", "placesBy", "(I)I"⟩, 72) := ⟨⟨by decide +kernel, by decide +kernel⟩, List.mem_of_getElem? (i := 951) (by decide +kernel), List.mem_of_getElem? (i := 1482) (by decide +kernel), List.mem_of_getElem? (i := 1483) (by decide +kernel)⟩
theorem lw_p58 : lw_okq (⟨"WalkTheDikeModel", "drawsHour", "(II)V"⟩, 72) := ⟨⟨by decide +kernel, by decide +kernel⟩, List.mem_of_getElem? (i := 951) (by decide +kernel), List.mem_of_getElem? (i := 1495) (by decide +kernel), List.mem_of_getElem? (i := 1496) (by decide +kernel)⟩
theorem lw_p59 : lw_okq (⟨"WalkTheDikeModel", "draws", "(I)I"⟩, 72) := ⟨⟨by decide +kernel, by decide +kernel⟩, List.mem_of_getElem? (i := 951) (by decide +kernel), List.mem_of_getElem? (i := 1499) (by decide +kernel), List.mem_of_getElem? (i := 1500) (by decide +kernel)⟩
theorem lw_p60 : lw_okq (⟨"WalkTheDikeModel", "lookDrawn", "(III)V"⟩, 72) := ⟨⟨by decide +kernel, by decide +kernel⟩, List.mem_of_getElem? (i := 951) (by decide +kernel), List.mem_of_getElem? (i := 1505) (by decide +kernel), List.mem_of_getElem? (i := 1506) (by decide +kernel)⟩
def lw_privs_4 : List (MethodName × Nat) := [(⟨"WalkTheDikeModel", "danger", "(II)J"⟩, 72), (⟨"WalkTheDikeModel", "rowWithout", "(I)I"⟩, 72), (⟨"WalkTheDikeModel", "runAll", "(I)J"⟩, 72), (⟨"WalkTheDikeModel", "reckons", "(II)V"⟩, 72), (⟨"WalkTheDikeModel", "lookBy", "(III)V"⟩, 72), (⟨"WalkTheDikeModel", "withLook", "(II)J"⟩, 72), (⟨"WalkTheDikeModel", "calledIn", "(I)J"⟩, 72), (⟨"WalkTheDikeModel", "isLittle", "(III)Z"⟩, 72), (⟨"WalkTheDikeModel", "holesWrong", "(I)I"⟩, 72), (⟨"WalkTheDikeModel", "placesBy", "(I)I"⟩, 72), (⟨"WalkTheDikeModel", "drawsHour", "(II)V"⟩, 72), (⟨"WalkTheDikeModel", "draws", "(I)I"⟩, 72), (⟨"WalkTheDikeModel", "lookDrawn", "(III)V"⟩, 72)]
theorem lw_r4 : ∀ q ∈ lw_privs_4, lw_okq q := List.forall_mem_cons.mpr ⟨lw_p48, List.forall_mem_cons.mpr ⟨lw_p49, List.forall_mem_cons.mpr ⟨lw_p50, List.forall_mem_cons.mpr ⟨lw_p51, List.forall_mem_cons.mpr ⟨lw_p52, List.forall_mem_cons.mpr ⟨lw_p53, List.forall_mem_cons.mpr ⟨lw_p54, List.forall_mem_cons.mpr ⟨lw_p55, List.forall_mem_cons.mpr ⟨lw_p56, List.forall_mem_cons.mpr ⟨lw_p57, List.forall_mem_cons.mpr ⟨lw_p58, List.forall_mem_cons.mpr ⟨lw_p59, List.forall_mem_cons.mpr ⟨lw_p60, fun _ h => absurd h List.not_mem_nil⟩⟩⟩⟩⟩⟩⟩⟩⟩⟩⟩⟩⟩
def lw_privs : List (MethodName × Nat) := lw_privs_1 ++ (lw_privs_2 ++ (lw_privs_3 ++ (lw_privs_4)))
def lw_tbl : List Cond := k2_sels lw_privs ++ tables_1
theorem lw_privs_ok : ∀ q ∈ lw_privs, lw_okq q := by
  show ∀ q ∈ lw_privs_1 ++ (lw_privs_2 ++ (lw_privs_3 ++ (lw_privs_4))), lw_okq q
  exact List.forall_mem_append.mpr ⟨lw_r1, List.forall_mem_append.mpr ⟨lw_r2, List.forall_mem_append.mpr ⟨lw_r3, lw_r4⟩⟩⟩

/-! ===== BEGIN words of one list among another's, by their places ===== -/
theorem goodIn_r {big : List Cond} (ws : List Cond) (ps : List Nat) (hp : ws = ps.filterMap (fun i => big[i]?)) (h : ws.all goodWord = true) : GoodIn big ws := by
  intro w hw
  have h1 := List.all_eq_true.mp h w hw
  rw [hp] at hw
  obtain ⟨i, -, hi⟩ := List.mem_filterMap.mp hw
  have hm : w ∈ big := by first | exact List.mem_of_getElem? hi | exact List.getElem?_mem hi
  exact ⟨hm, good_of_word h1⟩
theorem goodIn_app {big a b : List Cond} (ha : GoodIn big a) (hb : GoodIn big b) : GoodIn big (a ++ b) := fun w h => (List.mem_append.mp h).elim (ha w) (hb w)
theorem goodIn_ca {big a b : List Cond} {c : Cond} (ha : GoodIn big (c :: a)) (hb : GoodIn big b) : GoodIn big (c :: (a ++ b)) := fun w h => (List.mem_cons.mp h).elim (fun e => ha w (List.mem_cons.mpr (Or.inl e))) (fun h => (List.mem_append.mp h).elim (fun h => ha w (List.mem_cons.mpr (Or.inr h))) (hb w))
theorem goodIn_sub {big ws : List Cond} (hm : ∀ w ∈ ws, w ∈ big) (h : ws.all goodWord = true) : GoodIn big ws := fun w hw => ⟨hm w hw, good_of_word (List.all_eq_true.mp h w hw)⟩
/-! ===== END ===== -/
def RX0 : String := "WalkTheDike$Best"
def TX0 : u_T := fun k => match k with
  | 0 => ("WalkTheDike$Best", "which", "I", false)
  | _ => ("WalkTheDike$Best", "least", "J", false)
def tyX0 : Nat → FieldType := fun k => match k with
  | 0 => .int
  | _ => .long
abbrev wsX00 : List Cond := u_ws RX0 TX0 2
theorem nmX0 : ∀ a, a < 2 → ∀ b, b < 2 → a ≠ b → (TX0 a).2.1 ≠ (TX0 b).2.1 := by decide +kernel
theorem tyX0_ok : ∀ k, k < 2 → parseFieldDescriptor (TX0 k).2.2.1 = some (tyX0 k) := by decide +kernel
abbrev cX0_init : ByteArray := prog_2_method_1_code
def yX0_init : MethodName := ⟨RX0, "<init>", "()V"⟩
abbrev cX0_begin : ByteArray := prog_2_method_2_code
def yX0_begin : MethodName := ⟨RX0, "begin", "(J)V"⟩
abbrev cX0_offer : ByteArray := prog_2_method_3_code
def yX0_offer : MethodName := ⟨RX0, "offer", "(IJ)V"⟩
def RX1 : String := "WalkTheDike$Chances"
def TX1 : u_T := fun k => match k with
  | 0 => ("WalkTheDike$Chances", "dike", "LWalkTheDike$Dike;", true)
  | 1 => ("WalkTheDike$Chances", "texts", "LWalkTheDike$Texts;", true)
  | 2 => ("WalkTheDike$Chances", "names", "[I", true)
  | 3 => ("WalkTheDike$Chances", "known", "[I", true)
  | _ => ("WalkTheDike$Chances", "age", "I", false)
def tyX1 : Nat → FieldType := fun k => match k with
  | 0 => .object "WalkTheDike$Dike"
  | 1 => .object "WalkTheDike$Texts"
  | 2 => .array .int
  | 3 => .array .int
  | _ => .int
abbrev wsX10 : List Cond := u_ws RX1 TX1 5
theorem nmX1 : ∀ a, a < 5 → ∀ b, b < 5 → a ≠ b → (TX1 a).2.1 ≠ (TX1 b).2.1 := by decide +kernel
theorem tyX1_ok : ∀ k, k < 5 → parseFieldDescriptor (TX1 k).2.2.1 = some (tyX1 k) := by decide +kernel
abbrev cX1_init : ByteArray := prog_3_method_1_code
def yX1_init : MethodName := ⟨RX1, "<init>", "(LWalkTheDike$Dike;LWalkTheDike$Texts;)V"⟩
abbrev cX1_forget : ByteArray := prog_3_method_2_code
def yX1_forget : MethodName := ⟨RX1, "forget", "()V"⟩
abbrev cX1_ask : ByteArray := prog_3_method_3_code
def yX1_ask : MethodName := ⟨RX1, "ask", "(IIIII)I"⟩
def RX2 : String := "WalkTheDike$Dike"
def TX2 : u_T := fun k => match k with
  | 0 => ("WalkTheDike$Dike", "old", "[I", true)
  | 1 => ("WalkTheDike$Dike", "worth", "[I", true)
  | 2 => ("WalkTheDike$Dike", "sacks", "[I", true)
  | 3 => ("WalkTheDike$Dike", "lamp", "[I", true)
  | 4 => ("WalkTheDike$Dike", "pieces", "I", false)
  | 5 => ("WalkTheDike$Dike", "night", "[I", true)
  | 6 => ("WalkTheDike$Dike", "water", "[I", true)
  | _ => ("WalkTheDike$Dike", "called", "I", false)
def tyX2 : Nat → FieldType := fun k => match k with
  | 0 => .array .int
  | 1 => .array .int
  | 2 => .array .int
  | 3 => .array .int
  | 4 => .int
  | 5 => .array .int
  | 6 => .array .int
  | _ => .int
abbrev wsX20 : List Cond := u_ws RX2 TX2 8
theorem nmX2 : ∀ a, a < 8 → ∀ b, b < 8 → a ≠ b → (TX2 a).2.1 ≠ (TX2 b).2.1 := by decide +kernel
theorem tyX2_ok : ∀ k, k < 8 → parseFieldDescriptor (TX2 k).2.2.1 = some (tyX2 k) := by decide +kernel
abbrev cX2_init : ByteArray := prog_4_method_1_code
def yX2_init : MethodName := ⟨RX2, "<init>", "()V"⟩
abbrev cX2_has : ByteArray := prog_4_method_2_code
def yX2_has : MethodName := ⟨RX2, "has", "(I)Z"⟩
abbrev cX2_hasHour : ByteArray := prog_4_method_3_code
def yX2_hasHour : MethodName := ⟨RX2, "hasHour", "(I)Z"⟩
abbrev cX2_add : ByteArray := prog_4_method_4_code
def yX2_add : MethodName := ⟨RX2, "add", "(II)I"⟩
abbrev cX2_villageAt : ByteArray := prog_4_method_5_code
def yX2_villageAt : MethodName := ⟨RX2, "villageAt", "(II)Z"⟩
abbrev cX2_become : ByteArray := prog_4_method_6_code
def yX2_become : MethodName := ⟨RX2, "become", "(LWalkTheDike$Dike;I)V"⟩
def RX3 : String := "WalkTheDike$Drawing"
def TX3 : u_T := fun k => match k with
  | 0 => ("WalkTheDike$Drawing", "dike", "LWalkTheDike$Dike;", true)
  | 1 => ("WalkTheDike$Drawing", "walk", "LWalkTheDike$Walk;", true)
  | 2 => ("WalkTheDike$Drawing", "chances", "LWalkTheDike$Chances;", true)
  | 3 => ("WalkTheDike$Drawing", "hole", "[I", true)
  | 4 => ("WalkTheDike$Drawing", "lot", "J", false)
  | 5 => ("WalkTheDike$Drawing", "harm", "J", false)
  | 6 => ("WalkTheDike$Drawing", "broke", "I", false)
  | _ => ("WalkTheDike$Drawing", "found", "I", false)
def tyX3 : Nat → FieldType := fun k => match k with
  | 0 => .object "WalkTheDike$Dike"
  | 1 => .object "WalkTheDike$Walk"
  | 2 => .object "WalkTheDike$Chances"
  | 3 => .array .int
  | 4 => .long
  | 5 => .long
  | 6 => .int
  | _ => .int
abbrev wsX30 : List Cond := u_ws RX3 TX3 8
theorem nmX3 : ∀ a, a < 8 → ∀ b, b < 8 → a ≠ b → (TX3 a).2.1 ≠ (TX3 b).2.1 := by decide +kernel
theorem tyX3_ok : ∀ k, k < 8 → parseFieldDescriptor (TX3 k).2.2.1 = some (tyX3 k) := by decide +kernel
abbrev cX3_init : ByteArray := prog_5_method_1_code
def yX3_init : MethodName := ⟨RX3, "<init>", "(LWalkTheDike$Dike;LWalkTheDike$Walk;LWalkTheDike$Chances;)V"⟩
abbrev cX3_go : ByteArray := prog_5_method_2_code
def yX3_go : MethodName := ⟨RX3, "go", "(I)V"⟩
abbrev cX3_grow : ByteArray := prog_5_method_3_code
def yX3_grow : MethodName := ⟨RX3, "grow", "(II)V"⟩
abbrev cX3_look : ByteArray := prog_5_method_4_code
def yX3_look : MethodName := ⟨RX3, "look", "(III)V"⟩
abbrev cX3_nextLot : ByteArray := prog_5_method_5_code
def yX3_nextLot : MethodName := ⟨RX3, "nextLot", "()J"⟩
def RX4 : String := "WalkTheDike$Image"
def TX4 : u_T := fun k => match k with
  | 0 => ("WalkTheDike$Image", "dike", "LWalkTheDike$Dike;", true)
  | 1 => ("WalkTheDike$Image", "pace", "[I", true)
  | 2 => ("WalkTheDike$Image", "men", "I", false)
  | 3 => ("WalkTheDike$Image", "law", "I", false)
  | _ => ("WalkTheDike$Image", "is", "Z", false)
def tyX4 : Nat → FieldType := fun k => match k with
  | 0 => .object "WalkTheDike$Dike"
  | 1 => .array .int
  | 2 => .int
  | 3 => .int
  | _ => .boolean
abbrev wsX40 : List Cond := u_ws RX4 TX4 5
theorem nmX4 : ∀ a, a < 5 → ∀ b, b < 5 → a ≠ b → (TX4 a).2.1 ≠ (TX4 b).2.1 := by decide +kernel
theorem tyX4_ok : ∀ k, k < 5 → parseFieldDescriptor (TX4 k).2.2.1 = some (tyX4 k) := by decide +kernel
abbrev cX4_init : ByteArray := prog_6_method_1_code
def yX4_init : MethodName := ⟨RX4, "<init>", "()V"⟩
def RX5 : String := "WalkTheDike$Men"
def TX5 : u_T := fun k => match k with
  | 0 => ("WalkTheDike$Men", "kind", "[I", true)
  | 1 => ("WalkTheDike$Men", "post", "[I", true)
  | 2 => ("WalkTheDike$Men", "end", "[I", true)
  | 3 => ("WalkTheDike$Men", "pace", "[I", true)
  | 4 => ("WalkTheDike$Men", "more", "[I", true)
  | 5 => ("WalkTheDike$Men", "told", "[I", true)
  | _ => ("WalkTheDike$Men", "count", "I", false)
def tyX5 : Nat → FieldType := fun k => match k with
  | 0 => .array .int
  | 1 => .array .int
  | 2 => .array .int
  | 3 => .array .int
  | 4 => .array .int
  | 5 => .array .int
  | _ => .int
abbrev wsX50 : List Cond := u_ws RX5 TX5 7
theorem nmX5 : ∀ a, a < 7 → ∀ b, b < 7 → a ≠ b → (TX5 a).2.1 ≠ (TX5 b).2.1 := by decide +kernel
theorem tyX5_ok : ∀ k, k < 7 → parseFieldDescriptor (TX5 k).2.2.1 = some (tyX5 k) := by decide +kernel
abbrev cX5_init : ByteArray := prog_7_method_1_code
def yX5_init : MethodName := ⟨RX5, "<init>", "()V"⟩
abbrev cX5_has : ByteArray := prog_7_method_2_code
def yX5_has : MethodName := ⟨RX5, "has", "(I)Z"⟩
abbrev cX5_add : ByteArray := prog_7_method_3_code
def yX5_add : MethodName := ⟨RX5, "add", "(III)I"⟩
abbrev cX5_awake : ByteArray := prog_7_method_4_code
def yX5_awake : MethodName := ⟨RX5, "awake", "(II)Z"⟩
abbrev cX5_hasOf : ByteArray := prog_7_method_5_code
def yX5_hasOf : MethodName := ⟨RX5, "hasOf", "(II)Z"⟩
def RX6 : String := "WalkTheDike$Reckoning"
def TX6 : u_T := fun k => match k with
  | 0 => ("WalkTheDike$Reckoning", "dike", "LWalkTheDike$Dike;", true)
  | 1 => ("WalkTheDike$Reckoning", "walk", "LWalkTheDike$Walk;", true)
  | 2 => ("WalkTheDike$Reckoning", "chances", "LWalkTheDike$Chances;", true)
  | 3 => ("WalkTheDike$Reckoning", "parts", "[J", true)
  | 4 => ("WalkTheDike$Reckoning", "harm", "J", false)
  | _ => ("WalkTheDike$Reckoning", "found", "J", false)
def tyX6 : Nat → FieldType := fun k => match k with
  | 0 => .object "WalkTheDike$Dike"
  | 1 => .object "WalkTheDike$Walk"
  | 2 => .object "WalkTheDike$Chances"
  | 3 => .array .long
  | 4 => .long
  | _ => .long
abbrev wsX60 : List Cond := u_ws RX6 TX6 6
theorem nmX6 : ∀ a, a < 6 → ∀ b, b < 6 → a ≠ b → (TX6 a).2.1 ≠ (TX6 b).2.1 := by decide +kernel
theorem tyX6_ok : ∀ k, k < 6 → parseFieldDescriptor (TX6 k).2.2.1 = some (tyX6 k) := by decide +kernel
abbrev cX6_init : ByteArray := prog_8_method_1_code
def yX6_init : MethodName := ⟨RX6, "<init>", "(LWalkTheDike$Dike;LWalkTheDike$Walk;LWalkTheDike$Chances;)V"⟩
abbrev cX6_told : ByteArray := prog_8_method_2_code
def yX6_told : MethodName := ⟨RX6, "told", "(I)J"⟩
abbrev cX6_reckon : ByteArray := prog_8_method_3_code
def yX6_reckon : MethodName := ⟨RX6, "reckon", "(II)V"⟩
abbrev cX6_grow : ByteArray := prog_8_method_4_code
def yX6_grow : MethodName := ⟨RX6, "grow", "(II)V"⟩
abbrev cX6_look : ByteArray := prog_8_method_5_code
def yX6_look : MethodName := ⟨RX6, "look", "(III)V"⟩
def RX7 : String := "WalkTheDike$Sheets"
def TX7 : u_T := fun k => match k with
  | 0 => ("WalkTheDike$Sheets", "sort", "[I", true)
  | 1 => ("WalkTheDike$Sheets", "size", "[I", true)
  | _ => ("WalkTheDike$Sheets", "cells", "[I", true)
def tyX7 : Nat → FieldType := fun k => match k with
  | 0 => .array .int
  | 1 => .array .int
  | _ => .array .int
abbrev wsX70 : List Cond := u_ws RX7 TX7 3
theorem nmX7 : ∀ a, a < 3 → ∀ b, b < 3 → a ≠ b → (TX7 a).2.1 ≠ (TX7 b).2.1 := by decide +kernel
theorem tyX7_ok : ∀ k, k < 3 → parseFieldDescriptor (TX7 k).2.2.1 = some (tyX7 k) := by decide +kernel
abbrev cX7_init : ByteArray := prog_9_method_1_code
def yX7_init : MethodName := ⟨RX7, "<init>", "()V"⟩
abbrev cX7_has : ByteArray := prog_9_method_2_code
def yX7_has : MethodName := ⟨RX7, "has", "(I)Z"⟩
abbrev cX7_holds : ByteArray := prog_9_method_3_code
def yX7_holds : MethodName := ⟨RX7, "holds", "(II)Z"⟩
abbrev cX7_at : ByteArray := prog_9_method_4_code
def yX7_at : MethodName := ⟨RX7, "at", "(II)I"⟩
abbrev cX7_renew : ByteArray := prog_9_method_5_code
def yX7_renew : MethodName := ⟨RX7, "renew", "(III)V"⟩
def RX8 : String := "WalkTheDike$Tape"
def TX8 : u_T := fun k => match k with
  | 0 => ("WalkTheDike$Tape", "texts", "LWalkTheDike$Texts;", true)
  | 1 => ("WalkTheDike$Tape", "bytes", "[I", true)
  | 2 => ("WalkTheDike$Tape", "size", "I", false)
  | 3 => ("WalkTheDike$Tape", "token", "I", false)
  | 4 => ("WalkTheDike$Tape", "number", "I", false)
  | 5 => ("WalkTheDike$Tape", "place", "I", false)
  | 6 => ("WalkTheDike$Tape", "behind", "I", false)
  | _ => ("WalkTheDike$Tape", "done", "I", false)
def tyX8 : Nat → FieldType := fun k => match k with
  | 0 => .object "WalkTheDike$Texts"
  | 1 => .array .int
  | 2 => .int
  | 3 => .int
  | 4 => .int
  | 5 => .int
  | 6 => .int
  | _ => .int
abbrev wsX80 : List Cond := u_ws RX8 TX8 8
theorem nmX8 : ∀ a, a < 8 → ∀ b, b < 8 → a ≠ b → (TX8 a).2.1 ≠ (TX8 b).2.1 := by decide +kernel
theorem tyX8_ok : ∀ k, k < 8 → parseFieldDescriptor (TX8 k).2.2.1 = some (tyX8 k) := by decide +kernel
abbrev cX8_init : ByteArray := prog_10_method_1_code
def yX8_init : MethodName := ⟨RX8, "<init>", "(LWalkTheDike$Texts;)V"⟩
abbrev cX8_add : ByteArray := prog_10_method_2_code
def yX8_add : MethodName := ⟨RX8, "add", "(I)V"⟩
abbrev cX8_at : ByteArray := prog_10_method_3_code
def yX8_at : MethodName := ⟨RX8, "at", "(I)I"⟩
abbrev cX8_read : ByteArray := prog_10_method_4_code
def yX8_read : MethodName := ⟨RX8, "read", "()I"⟩
abbrev cX8_either : ByteArray := prog_10_method_5_code
def yX8_either : MethodName := ⟨RX8, "either", "(I)Z"⟩
abbrev cX8_both : ByteArray := prog_10_method_6_code
def yX8_both : MethodName := ⟨RX8, "both", "(I)Z"⟩
abbrev cX8_negation : ByteArray := prog_10_method_7_code
def yX8_negation : MethodName := ⟨RX8, "negation", "(I)Z"⟩
abbrev cX8_comparison : ByteArray := prog_10_method_8_code
def yX8_comparison : MethodName := ⟨RX8, "comparison", "(I)Z"⟩
abbrev cX8_sum : ByteArray := prog_10_method_9_code
def yX8_sum : MethodName := ⟨RX8, "sum", "(I)Z"⟩
abbrev cX8_term : ByteArray := prog_10_method_10_code
def yX8_term : MethodName := ⟨RX8, "term", "(I)Z"⟩
abbrev cX8_one : ByteArray := prog_10_method_11_code
def yX8_one : MethodName := ⟨RX8, "one", "(I)Z"⟩
abbrev cX8_put : ByteArray := prog_10_method_12_code
def yX8_put : MethodName := ⟨RX8, "put", "(I)V"⟩
abbrev cX8_advance : ByteArray := prog_10_method_13_code
def yX8_advance : MethodName := ⟨RX8, "advance", "()V"⟩
abbrev cX8_numberToken : ByteArray := prog_10_method_14_code
def yX8_numberToken : MethodName := ⟨RX8, "numberToken", "()I"⟩
abbrev cX8_wordToken : ByteArray := prog_10_method_15_code
def yX8_wordToken : MethodName := ⟨RX8, "wordToken", "()I"⟩
abbrev cX8_isLetter : ByteArray := prog_10_method_16_code
def yX8_isLetter : MethodName := ⟨RX8, "isLetter", "(I)Z"⟩
abbrev cX8_isDigit : ByteArray := prog_10_method_17_code
def yX8_isDigit : MethodName := ⟨RX8, "isDigit", "(I)Z"⟩
abbrev cX8_isSign : ByteArray := prog_10_method_18_code
def yX8_isSign : MethodName := ⟨RX8, "isSign", "(I)Z"⟩
def RX9 : String := "WalkTheDike$Texts"
def TX9 : u_T := fun k => match k with
  | 0 => ("WalkTheDike$Texts", "code", "[I", true)
  | 1 => ("WalkTheDike$Texts", "ends", "[I", true)
  | 2 => ("WalkTheDike$Texts", "count", "I", false)
  | 3 => ("WalkTheDike$Texts", "law", "I", false)
  | _ => ("WalkTheDike$Texts", "stack", "[I", true)
def tyX9 : Nat → FieldType := fun k => match k with
  | 0 => .array .int
  | 1 => .array .int
  | 2 => .int
  | 3 => .int
  | _ => .array .int
abbrev wsX90 : List Cond := u_ws RX9 TX9 5
theorem nmX9 : ∀ a, a < 5 → ∀ b, b < 5 → a ≠ b → (TX9 a).2.1 ≠ (TX9 b).2.1 := by decide +kernel
theorem tyX9_ok : ∀ k, k < 5 → parseFieldDescriptor (TX9 k).2.2.1 = some (tyX9 k) := by decide +kernel
abbrev cX9_init : ByteArray := prog_11_method_1_code
def yX9_init : MethodName := ⟨RX9, "<init>", "()V"⟩
abbrev cX9_valueOf : ByteArray := prog_11_method_2_code
def yX9_valueOf : MethodName := ⟨RX9, "valueOf", "(I[I)I"⟩
abbrev cX9_joined : ByteArray := prog_11_method_3_code
def yX9_joined : MethodName := ⟨RX9, "joined", "(III)I"⟩
abbrev cX9_truth : ByteArray := prog_11_method_4_code
def yX9_truth : MethodName := ⟨RX9, "truth", "(Z)I"⟩
def RX10 : String := "WalkTheDike$Walk"
def TX10 : u_T := fun k => match k with
  | 0 => ("WalkTheDike$Walk", "dike", "LWalkTheDike$Dike;", true)
  | 1 => ("WalkTheDike$Walk", "men", "LWalkTheDike$Men;", true)
  | 2 => ("WalkTheDike$Walk", "chances", "LWalkTheDike$Chances;", true)
  | 3 => ("WalkTheDike$Walk", "place", "[I", true)
  | 4 => ("WalkTheDike$Walk", "lookers", "[I", true)
  | 5 => ("WalkTheDike$Walk", "since", "[I", true)
  | 6 => ("WalkTheDike$Walk", "isBack", "[Z", true)
  | 7 => ("WalkTheDike$Walk", "blind", "I", false)
  | 8 => ("WalkTheDike$Walk", "put", "I", false)
  | 9 => ("WalkTheDike$Walk", "putHour", "I", false)
  | 10 => ("WalkTheDike$Walk", "putPiece", "I", false)
  | 11 => ("WalkTheDike$Walk", "morePiece", "I", false)
  | _ => ("WalkTheDike$Walk", "moreHour", "I", false)
def tyX10 : Nat → FieldType := fun k => match k with
  | 0 => .object "WalkTheDike$Dike"
  | 1 => .object "WalkTheDike$Men"
  | 2 => .object "WalkTheDike$Chances"
  | 3 => .array .int
  | 4 => .array .int
  | 5 => .array .int
  | 6 => .array .boolean
  | 7 => .int
  | 8 => .int
  | 9 => .int
  | 10 => .int
  | 11 => .int
  | _ => .int
abbrev wsX100 : List Cond := u_ws RX10 TX10 13
theorem nmX10 : ∀ a, a < 13 → ∀ b, b < 13 → a ≠ b → (TX10 a).2.1 ≠ (TX10 b).2.1 := by decide +kernel
theorem tyX10_ok : ∀ k, k < 13 → parseFieldDescriptor (TX10 k).2.2.1 = some (tyX10 k) := by decide +kernel
abbrev cX10_init : ByteArray := prog_12_method_1_code
def yX10_init : MethodName := ⟨RX10, "<init>", "(LWalkTheDike$Dike;LWalkTheDike$Men;LWalkTheDike$Chances;)V"⟩
abbrev cX10_lookedAt : ByteArray := prog_12_method_2_code
def yX10_lookedAt : MethodName := ⟨RX10, "lookedAt", "(II)Z"⟩
abbrev cX10_looksAt : ByteArray := prog_12_method_3_code
def yX10_looksAt : MethodName := ⟨RX10, "looksAt", "(III)Z"⟩
abbrev cX10_paceOf : ByteArray := prog_12_method_4_code
def yX10_paceOf : MethodName := ⟨RX10, "paceOf", "(I)I"⟩
abbrev cX10_sinceOf : ByteArray := prog_12_method_5_code
def yX10_sinceOf : MethodName := ⟨RX10, "sinceOf", "(II)I"⟩
abbrev cX10_placeOf : ByteArray := prog_12_method_6_code
def yX10_placeOf : MethodName := ⟨RX10, "placeOf", "(II)I"⟩
abbrev cX10_together : ByteArray := prog_12_method_7_code
def yX10_together : MethodName := ⟨RX10, "together", "(III)Z"⟩
abbrev cX10_go : ByteArray := prog_12_method_8_code
def yX10_go : MethodName := ⟨RX10, "go", "()V"⟩
abbrev cX10_othersAt : ByteArray := prog_12_method_9_code
def yX10_othersAt : MethodName := ⟨RX10, "othersAt", "(II)I"⟩
abbrev cX10_comes : ByteArray := prog_12_method_10_code
def yX10_comes : MethodName := ⟨RX10, "comes", "(II)I"⟩
abbrev cX10_towards : ByteArray := prog_12_method_11_code
def yX10_towards : MethodName := ⟨RX10, "towards", "(III)I"⟩
abbrev cX10_riskiest : ByteArray := prog_12_method_12_code
def yX10_riskiest : MethodName := ⟨RX10, "riskiest", "(III)I"⟩
def RX11 : String := "WalkTheDike"
def TX11 : u_T := fun k => match k with
  | 0 => ("WalkTheDike", "dike", "LWalkTheDike$Dike;", true)
  | 1 => ("WalkTheDike", "men", "LWalkTheDike$Men;", true)
  | 2 => ("WalkTheDike", "texts", "LWalkTheDike$Texts;", true)
  | 3 => ("WalkTheDike", "tape", "LWalkTheDike$Tape;", true)
  | 4 => ("WalkTheDike", "chances", "LWalkTheDike$Chances;", true)
  | 5 => ("WalkTheDike", "walk", "LWalkTheDike$Walk;", true)
  | 6 => ("WalkTheDike", "reckoning", "LWalkTheDike$Reckoning;", true)
  | 7 => ("WalkTheDike", "drawing", "LWalkTheDike$Drawing;", true)
  | 8 => ("WalkTheDike", "sheets", "LWalkTheDike$Sheets;", true)
  | 9 => ("WalkTheDike", "kept", "LWalkTheDike$Image;", true)
  | _ => ("WalkTheDike", "best", "LWalkTheDike$Best;", true)
def tyX11 : Nat → FieldType := fun k => match k with
  | 0 => .object "WalkTheDike$Dike"
  | 1 => .object "WalkTheDike$Men"
  | 2 => .object "WalkTheDike$Texts"
  | 3 => .object "WalkTheDike$Tape"
  | 4 => .object "WalkTheDike$Chances"
  | 5 => .object "WalkTheDike$Walk"
  | 6 => .object "WalkTheDike$Reckoning"
  | 7 => .object "WalkTheDike$Drawing"
  | 8 => .object "WalkTheDike$Sheets"
  | 9 => .object "WalkTheDike$Image"
  | _ => .object "WalkTheDike$Best"
abbrev wsX110 : List Cond := u_ws RX11 TX11 11
theorem nmX11 : ∀ a, a < 11 → ∀ b, b < 11 → a ≠ b → (TX11 a).2.1 ≠ (TX11 b).2.1 := by decide +kernel
theorem tyX11_ok : ∀ k, k < 11 → parseFieldDescriptor (TX11 k).2.2.1 = some (tyX11 k) := by decide +kernel
abbrev cX11_init : ByteArray := prog_1_method_1_code
def yX11_init : MethodName := ⟨RX11, "<init>", "()V"⟩
abbrev cX11_piece : ByteArray := prog_1_method_2_code
def yX11_piece : MethodName := ⟨RX11, "piece", "(II)I"⟩
abbrev cX11_set : ByteArray := prog_1_method_3_code
def yX11_set : MethodName := ⟨RX11, "set", "(III)I"⟩
abbrev cX11_night : ByteArray := prog_1_method_4_code
def yX11_night : MethodName := ⟨RX11, "night", "(II)I"⟩
abbrev cX11_water : ByteArray := prog_1_method_5_code
def yX11_water : MethodName := ⟨RX11, "water", "(II)I"⟩
abbrev cX11_count : ByteArray := prog_1_method_6_code
def yX11_count : MethodName := ⟨RX11, "count", "(I)I"⟩
abbrev cX11_feed : ByteArray := prog_1_method_7_code
def yX11_feed : MethodName := ⟨RX11, "feed", "(JI)I"⟩
abbrev cX11_text : ByteArray := prog_1_method_8_code
def yX11_text : MethodName := ⟨RX11, "text", "()I"⟩
abbrev cX11_force : ByteArray := prog_1_method_9_code
def yX11_force : MethodName := ⟨RX11, "force", "(I)I"⟩
abbrev cX11_asks : ByteArray := prog_1_method_10_code
def yX11_asks : MethodName := ⟨RX11, "asks", "(IIIII)I"⟩
abbrev cX11_man : ByteArray := prog_1_method_11_code
def yX11_man : MethodName := ⟨RX11, "man", "(IIII)I"⟩
abbrev cX11_pace : ByteArray := prog_1_method_12_code
def yX11_pace : MethodName := ⟨RX11, "pace", "(II)I"⟩
abbrev cX11_manTold : ByteArray := prog_1_method_13_code
def yX11_manTold : MethodName := ⟨RX11, "manTold", "(II)I"⟩
abbrev cX11_where : ByteArray := prog_1_method_14_code
def yX11_where : MethodName := ⟨RX11, "where", "(II)I"⟩
abbrev cX11_looked : ByteArray := prog_1_method_15_code
def yX11_looked : MethodName := ⟨RX11, "looked", "(I)I"⟩
abbrev cX11_often : ByteArray := prog_1_method_16_code
def yX11_often : MethodName := ⟨RX11, "often", "(II)I"⟩
abbrev cX11_meet : ByteArray := prog_1_method_17_code
def yX11_meet : MethodName := ⟨RX11, "meet", "(II)I"⟩
abbrev cX11_run : ByteArray := prog_1_method_18_code
def yX11_run : MethodName := ⟨RX11, "run", "(I)J"⟩
abbrev cX11_harm : ByteArray := prog_1_method_19_code
def yX11_harm : MethodName := ⟨RX11, "harm", "(II)J"⟩
abbrev cX11_state : ByteArray := prog_1_method_20_code
def yX11_state : MethodName := ⟨RX11, "state", "(III)J"⟩
abbrev cX11_worst : ByteArray := prog_1_method_21_code
def yX11_worst : MethodName := ⟨RX11, "worst", "()I"⟩
abbrev cX11_more : ByteArray := prog_1_method_22_code
def yX11_more : MethodName := ⟨RX11, "more", "(II)J"⟩
abbrev cX11_bestLook : ByteArray := prog_1_method_23_code
def yX11_bestLook : MethodName := ⟨RX11, "bestLook", "(I)J"⟩
abbrev cX11_lamp : ByteArray := prog_1_method_24_code
def yX11_lamp : MethodName := ⟨RX11, "lamp", "(II)I"⟩
abbrev cX11_ready : ByteArray := prog_1_method_25_code
def yX11_ready : MethodName := ⟨RX11, "ready", "(I)I"⟩
abbrev cX11_rounds : ByteArray := prog_1_method_26_code
def yX11_rounds : MethodName := ⟨RX11, "rounds", "(II)J"⟩
abbrev cX11_quick : ByteArray := prog_1_method_27_code
def yX11_quick : MethodName := ⟨RX11, "quick", "(I)I"⟩
abbrev cX11_next : ByteArray := prog_1_method_28_code
def yX11_next : MethodName := ⟨RX11, "next", "(III)J"⟩
abbrev cX11_spare : ByteArray := prog_1_method_29_code
def yX11_spare : MethodName := ⟨RX11, "spare", "()I"⟩
abbrev cX11_judge : ByteArray := prog_1_method_30_code
def yX11_judge : MethodName := ⟨RX11, "judge", "(II)I"⟩
abbrev cX11_sure : ByteArray := prog_1_method_31_code
def yX11_sure : MethodName := ⟨RX11, "sure", "(I)I"⟩
abbrev cX11_fewest : ByteArray := prog_1_method_32_code
def yX11_fewest : MethodName := ⟨RX11, "fewest", "(I)I"⟩
abbrev cX11_check : ByteArray := prog_1_method_33_code
def yX11_check : MethodName := ⟨RX11, "check", "(I)I"⟩
abbrev cX11_call : ByteArray := prog_1_method_34_code
def yX11_call : MethodName := ⟨RX11, "call", "(I)I"⟩
abbrev cX11_village : ByteArray := prog_1_method_35_code
def yX11_village : MethodName := ⟨RX11, "village", "(I)J"⟩
abbrev cX11_callWhen : ByteArray := prog_1_method_36_code
def yX11_callWhen : MethodName := ⟨RX11, "callWhen", "(I)I"⟩
abbrev cX11_trusts : ByteArray := prog_1_method_37_code
def yX11_trusts : MethodName := ⟨RX11, "trusts", "(II)I"⟩
abbrev cX11_places : ByteArray := prog_1_method_38_code
def yX11_places : MethodName := ⟨RX11, "places", "(I)I"⟩
abbrev cX11_learn : ByteArray := prog_1_method_39_code
def yX11_learn : MethodName := ⟨RX11, "learn", "(I)I"⟩
abbrev cX11_drawn : ByteArray := prog_1_method_40_code
def yX11_drawn : MethodName := ⟨RX11, "drawn", "(II)J"⟩
abbrev cX11_image : ByteArray := prog_1_method_41_code
def yX11_image : MethodName := ⟨RX11, "image", "()I"⟩
abbrev cX11_back : ByteArray := prog_1_method_42_code
def yX11_back : MethodName := ⟨RX11, "back", "()I"⟩
abbrev cX11_sheet : ByteArray := prog_1_method_43_code
def yX11_sheet : MethodName := ⟨RX11, "sheet", "(III)I"⟩
abbrev cX11_cell : ByteArray := prog_1_method_44_code
def yX11_cell : MethodName := ⟨RX11, "cell", "(III)I"⟩
abbrev cX11_copy : ByteArray := prog_1_method_45_code
def yX11_copy : MethodName := ⟨RX11, "copy", "(IIIII)I"⟩
abbrev cX11_piecesBy : ByteArray := prog_1_method_46_code
def yX11_piecesBy : MethodName := ⟨RX11, "piecesBy", "(IIII)I"⟩
abbrev cX11_taken : ByteArray := prog_1_method_47_code
def yX11_taken : MethodName := ⟨RX11, "taken", "(II)I"⟩
abbrev cX11_within : ByteArray := prog_1_method_48_code
def yX11_within : MethodName := ⟨RX11, "within", "(III)Z"⟩
abbrev cX11_allHarm : ByteArray := prog_1_method_49_code
def yX11_allHarm : MethodName := ⟨RX11, "allHarm", "()J"⟩
abbrev cX11_hoursLookedAt : ByteArray := prog_1_method_50_code
def yX11_hoursLookedAt : MethodName := ⟨RX11, "hoursLookedAt", "(I)I"⟩
abbrev cX11_longestNotLookedAt : ByteArray := prog_1_method_51_code
def yX11_longestNotLookedAt : MethodName := ⟨RX11, "longestNotLookedAt", "(I)I"⟩
abbrev cX11_rowRefused : ByteArray := prog_1_method_52_code
def yX11_rowRefused : MethodName := ⟨RX11, "rowRefused", "(III)I"⟩
abbrev cX11_holedOften : ByteArray := prog_1_method_53_code
def yX11_holedOften : MethodName := ⟨RX11, "holedOften", "(I)I"⟩
def RX12 : String := "WalkTheDikeModel"
def TX12 : u_T := fun k => match k with
  | 0 => ("WalkTheDikeModel", "hours", "I", false)
  | 1 => ("WalkTheDikeModel", "breaks", "I", false)
  | 2 => ("WalkTheDikeModel", "blows", "I", false)
  | 3 => ("WalkTheDikeModel", "trust", "I", false)
  | 4 => ("WalkTheDikeModel", "comes", "I", false)
  | 5 => ("WalkTheDikeModel", "called", "I", false)
  | 6 => ("WalkTheDikeModel", "waters", "[I", true)
  | 7 => ("WalkTheDikeModel", "pieces", "I", false)
  | 8 => ("WalkTheDikeModel", "old", "[I", true)
  | 9 => ("WalkTheDikeModel", "prized", "[I", true)
  | 10 => ("WalkTheDikeModel", "sacks", "[I", true)
  | 11 => ("WalkTheDikeModel", "lamps", "[I", true)
  | 12 => ("WalkTheDikeModel", "men", "I", false)
  | 13 => ("WalkTheDikeModel", "kind", "[I", true)
  | 14 => ("WalkTheDikeModel", "post", "[I", true)
  | 15 => ("WalkTheDikeModel", "endOf", "[I", true)
  | 16 => ("WalkTheDikeModel", "paces", "[I", true)
  | 17 => ("WalkTheDikeModel", "more", "[I", true)
  | 18 => ("WalkTheDikeModel", "told", "[I", true)
  | 19 => ("WalkTheDikeModel", "tape", "[I", true)
  | 20 => ("WalkTheDikeModel", "taped", "I", false)
  | 21 => ("WalkTheDikeModel", "codes", "[I", true)
  | 22 => ("WalkTheDikeModel", "starts", "[I", true)
  | 23 => ("WalkTheDikeModel", "texts", "I", false)
  | 24 => ("WalkTheDikeModel", "rule", "I", false)
  | 25 => ("WalkTheDikeModel", "moreAt", "I", false)
  | 26 => ("WalkTheDikeModel", "moreHour", "I", false)
  | 27 => ("WalkTheDikeModel", "setMan", "I", false)
  | 28 => ("WalkTheDikeModel", "setHour", "I", false)
  | 29 => ("WalkTheDikeModel", "setAt", "I", false)
  | 30 => ("WalkTheDikeModel", "blind", "I", false)
  | 31 => ("WalkTheDikeModel", "hasImage", "Z", false)
  | 32 => ("WalkTheDikeModel", "imagePieces", "I", false)
  | 33 => ("WalkTheDikeModel", "imageMen", "I", false)
  | 34 => ("WalkTheDikeModel", "imageHours", "I", false)
  | 35 => ("WalkTheDikeModel", "imageBreaks", "I", false)
  | 36 => ("WalkTheDikeModel", "imageBlows", "I", false)
  | 37 => ("WalkTheDikeModel", "imageTrust", "I", false)
  | 38 => ("WalkTheDikeModel", "imageComes", "I", false)
  | 39 => ("WalkTheDikeModel", "imageCalled", "I", false)
  | 40 => ("WalkTheDikeModel", "imageRule", "I", false)
  | 41 => ("WalkTheDikeModel", "imageWaters", "[I", true)
  | 42 => ("WalkTheDikeModel", "imageOld", "[I", true)
  | 43 => ("WalkTheDikeModel", "imageValue", "[I", true)
  | 44 => ("WalkTheDikeModel", "imageSacks", "[I", true)
  | 45 => ("WalkTheDikeModel", "imageLamps", "[I", true)
  | 46 => ("WalkTheDikeModel", "imagePaces", "[I", true)
  | 47 => ("WalkTheDikeModel", "sheetSort", "[I", true)
  | 48 => ("WalkTheDikeModel", "sheetSize", "[I", true)
  | 49 => ("WalkTheDikeModel", "cells", "[I", true)
  | 50 => ("WalkTheDikeModel", "at", "I", false)
  | 51 => ("WalkTheDikeModel", "begun", "I", false)
  | 52 => ("WalkTheDikeModel", "token", "I", false)
  | 53 => ("WalkTheDikeModel", "value", "I", false)
  | 54 => ("WalkTheDikeModel", "words", "[J", true)
  | 55 => ("WalkTheDikeModel", "held", "[I", true)
  | 56 => ("WalkTheDikeModel", "heldMany", "I", false)
  | 57 => ("WalkTheDikeModel", "opens", "I", false)
  | 58 => ("WalkTheDikeModel", "out", "I", false)
  | 59 => ("WalkTheDikeModel", "stack", "[I", true)
  | 60 => ("WalkTheDikeModel", "named", "[I", true)
  | 61 => ("WalkTheDikeModel", "whereAt", "[I", true)
  | 62 => ("WalkTheDikeModel", "lookedAt", "[I", true)
  | 63 => ("WalkTheDikeModel", "since", "[I", true)
  | 64 => ("WalkTheDikeModel", "isBack", "[Z", true)
  | 65 => ("WalkTheDikeModel", "parts", "[J", true)
  | 66 => ("WalkTheDikeModel", "harmed", "J", false)
  | 67 => ("WalkTheDikeModel", "found", "J", false)
  | 68 => ("WalkTheDikeModel", "lot", "J", false)
  | 69 => ("WalkTheDikeModel", "holes", "[I", true)
  | 70 => ("WalkTheDikeModel", "drawnHarm", "J", false)
  | _ => ("WalkTheDikeModel", "drawnFound", "I", false)
def tyX12 : Nat → FieldType := fun k => match k with
  | 0 => .int
  | 1 => .int
  | 2 => .int
  | 3 => .int
  | 4 => .int
  | 5 => .int
  | 6 => .array .int
  | 7 => .int
  | 8 => .array .int
  | 9 => .array .int
  | 10 => .array .int
  | 11 => .array .int
  | 12 => .int
  | 13 => .array .int
  | 14 => .array .int
  | 15 => .array .int
  | 16 => .array .int
  | 17 => .array .int
  | 18 => .array .int
  | 19 => .array .int
  | 20 => .int
  | 21 => .array .int
  | 22 => .array .int
  | 23 => .int
  | 24 => .int
  | 25 => .int
  | 26 => .int
  | 27 => .int
  | 28 => .int
  | 29 => .int
  | 30 => .int
  | 31 => .boolean
  | 32 => .int
  | 33 => .int
  | 34 => .int
  | 35 => .int
  | 36 => .int
  | 37 => .int
  | 38 => .int
  | 39 => .int
  | 40 => .int
  | 41 => .array .int
  | 42 => .array .int
  | 43 => .array .int
  | 44 => .array .int
  | 45 => .array .int
  | 46 => .array .int
  | 47 => .array .int
  | 48 => .array .int
  | 49 => .array .int
  | 50 => .int
  | 51 => .int
  | 52 => .int
  | 53 => .int
  | 54 => .array .long
  | 55 => .array .int
  | 56 => .int
  | 57 => .int
  | 58 => .int
  | 59 => .array .int
  | 60 => .array .int
  | 61 => .array .int
  | 62 => .array .int
  | 63 => .array .int
  | 64 => .array .boolean
  | 65 => .array .long
  | 66 => .long
  | 67 => .long
  | 68 => .long
  | 69 => .array .int
  | 70 => .long
  | _ => .int
abbrev wsX120 : List Cond := u_ws RX12 TX12 72
theorem nmX12 : ∀ a, a < 72 → ∀ b, b < 72 → a ≠ b → (TX12 a).2.1 ≠ (TX12 b).2.1 := by decide +kernel
theorem tyX12_ok : ∀ k, k < 72 → parseFieldDescriptor (TX12 k).2.2.1 = some (tyX12 k) := by decide +kernel
abbrev cX12_init : ByteArray := prog_14_method_1_code
def yX12_init : MethodName := ⟨RX12, "<init>", "()V"⟩
abbrev cX12_first : ByteArray := prog_14_method_2_code
def yX12_first : MethodName := ⟨RX12, "first", "(IIIII)V"⟩
abbrev cX12_in : ByteArray := prog_14_method_4_code
def yX12_in : MethodName := ⟨RX12, "in", "(III)Z"⟩
abbrev cX12_isPiece : ByteArray := prog_14_method_5_code
def yX12_isPiece : MethodName := ⟨RX12, "isPiece", "(I)Z"⟩
abbrev cX12_isMan : ByteArray := prog_14_method_6_code
def yX12_isMan : MethodName := ⟨RX12, "isMan", "(I)Z"⟩
abbrev cX12_isHour : ByteArray := prog_14_method_7_code
def yX12_isHour : MethodName := ⟨RX12, "isHour", "(I)Z"⟩
abbrev cX12_piece : ByteArray := prog_14_method_8_code
def yX12_piece : MethodName := ⟨RX12, "piece", "(II)I"⟩
abbrev cX12_set : ByteArray := prog_14_method_9_code
def yX12_set : MethodName := ⟨RX12, "set", "(III)I"⟩
abbrev cX12_night : ByteArray := prog_14_method_10_code
def yX12_night : MethodName := ⟨RX12, "night", "(II)I"⟩
abbrev cX12_water : ByteArray := prog_14_method_11_code
def yX12_water : MethodName := ⟨RX12, "water", "(II)I"⟩
abbrev cX12_count : ByteArray := prog_14_method_12_code
def yX12_count : MethodName := ⟨RX12, "count", "(I)I"⟩
abbrev cX12_feed : ByteArray := prog_14_method_13_code
def yX12_feed : MethodName := ⟨RX12, "feed", "(JI)I"⟩
abbrev cX12_letters : ByteArray := prog_14_method_14_code
def yX12_letters : MethodName := ⟨RX12, "letters", "()J"⟩
abbrev cX12_next : ByteArray := prog_14_method_15_code
def yX12_next : MethodName := ⟨RX12, "next", "()V"⟩
abbrev cX12_rank : ByteArray := prog_14_method_16_code
def yX12_rank : MethodName := ⟨RX12, "rank", "(I)I"⟩
abbrev cX12_puts : ByteArray := prog_14_method_17_code
def yX12_puts : MethodName := ⟨RX12, "puts", "(I)V"⟩
abbrev cX12_unwinds : ByteArray := prog_14_method_18_code
def yX12_unwinds : MethodName := ⟨RX12, "unwinds", "(I)V"⟩
abbrev cX12_holds : ByteArray := prog_14_method_19_code
def yX12_holds : MethodName := ⟨RX12, "holds", "(I)V"⟩
abbrev cX12_opensOne : ByteArray := prog_14_method_20_code
def yX12_opensOne : MethodName := ⟨RX12, "opensOne", "(I)Z"⟩
abbrev cX12_between : ByteArray := prog_14_method_21_code
def yX12_between : MethodName := ⟨RX12, "between", "(I)Z"⟩
abbrev cX12_signOf : ByteArray := prog_14_method_22_code
def yX12_signOf : MethodName := ⟨RX12, "signOf", "()I"⟩
abbrev cX12_eRead : ByteArray := prog_14_method_23_code
def yX12_eRead : MethodName := ⟨RX12, "eRead", "()Z"⟩
abbrev cX12_text : ByteArray := prog_14_method_24_code
def yX12_text : MethodName := ⟨RX12, "text", "()I"⟩
abbrev cX12_two : ByteArray := prog_14_method_25_code
def yX12_two : MethodName := ⟨RX12, "two", "(III)I"⟩
abbrev cX12_worth : ByteArray := prog_14_method_26_code
def yX12_worth : MethodName := ⟨RX12, "worth", "(I)I"⟩
abbrev cX12_force : ByteArray := prog_14_method_27_code
def yX12_force : MethodName := ⟨RX12, "force", "(I)I"⟩
abbrev cX12_says : ByteArray := prog_14_method_28_code
def yX12_says : MethodName := ⟨RX12, "says", "(IIIII)I"⟩
abbrev cX12_asks : ByteArray := prog_14_method_29_code
def yX12_asks : MethodName := ⟨RX12, "asks", "(IIIII)I"⟩
abbrev cX12_man : ByteArray := prog_14_method_30_code
def yX12_man : MethodName := ⟨RX12, "man", "(IIII)I"⟩
abbrev cX12_pace : ByteArray := prog_14_method_31_code
def yX12_pace : MethodName := ⟨RX12, "pace", "(II)I"⟩
abbrev cX12_manTold : ByteArray := prog_14_method_32_code
def yX12_manTold : MethodName := ⟨RX12, "manTold", "(II)I"⟩
abbrev cX12_towards : ByteArray := prog_14_method_33_code
def yX12_towards : MethodName := ⟨RX12, "towards", "(III)I"⟩
abbrev cX12_doesLook : ByteArray := prog_14_method_34_code
def yX12_doesLook : MethodName := ⟨RX12, "doesLook", "(II)Z"⟩
abbrev cX12_danger : ByteArray := prog_14_method_35_code
def yX12_danger : MethodName := ⟨RX12, "danger", "(II)J"⟩
abbrev cX12_byRisk : ByteArray := prog_14_method_36_code
def yX12_byRisk : MethodName := ⟨RX12, "byRisk", "(II)I"⟩
abbrev cX12_goesTo : ByteArray := prog_14_method_37_code
def yX12_goesTo : MethodName := ⟨RX12, "goesTo", "(II)I"⟩
abbrev cX12_isVillage : ByteArray := prog_14_method_38_code
def yX12_isVillage : MethodName := ⟨RX12, "isVillage", "(II)Z"⟩
abbrev cX12_turns : ByteArray := prog_14_method_39_code
def yX12_turns : MethodName := ⟨RX12, "turns", "(II)V"⟩
abbrev cX12_looks : ByteArray := prog_14_method_40_code
def yX12_looks : MethodName := ⟨RX12, "looks", "(I)V"⟩
abbrev cX12_walk : ByteArray := prog_14_method_41_code
def yX12_walk : MethodName := ⟨RX12, "walk", "()V"⟩
abbrev cX12_where : ByteArray := prog_14_method_42_code
def yX12_where : MethodName := ⟨RX12, "where", "(II)I"⟩
abbrev cX12_looked : ByteArray := prog_14_method_43_code
def yX12_looked : MethodName := ⟨RX12, "looked", "(I)I"⟩
abbrev cX12_rowWithout : ByteArray := prog_14_method_44_code
def yX12_rowWithout : MethodName := ⟨RX12, "rowWithout", "(I)I"⟩
abbrev cX12_often : ByteArray := prog_14_method_45_code
def yX12_often : MethodName := ⟨RX12, "often", "(II)I"⟩
abbrev cX12_meet : ByteArray := prog_14_method_46_code
def yX12_meet : MethodName := ⟨RX12, "meet", "(II)I"⟩
abbrev cX12_lookBy : ByteArray := prog_14_method_47_code
def yX12_lookBy : MethodName := ⟨RX12, "lookBy", "(III)V"⟩
abbrev cX12_reckons : ByteArray := prog_14_method_48_code
def yX12_reckons : MethodName := ⟨RX12, "reckons", "(II)V"⟩
abbrev cX12_runAll : ByteArray := prog_14_method_49_code
def yX12_runAll : MethodName := ⟨RX12, "runAll", "(I)J"⟩
abbrev cX12_run : ByteArray := prog_14_method_50_code
def yX12_run : MethodName := ⟨RX12, "run", "(I)J"⟩
abbrev cX12_harm : ByteArray := prog_14_method_51_code
def yX12_harm : MethodName := ⟨RX12, "harm", "(II)J"⟩
abbrev cX12_state : ByteArray := prog_14_method_52_code
def yX12_state : MethodName := ⟨RX12, "state", "(III)J"⟩
abbrev cX12_worst : ByteArray := prog_14_method_53_code
def yX12_worst : MethodName := ⟨RX12, "worst", "()I"⟩
abbrev cX12_withLook : ByteArray := prog_14_method_54_code
def yX12_withLook : MethodName := ⟨RX12, "withLook", "(II)J"⟩
abbrev cX12_more : ByteArray := prog_14_method_55_code
def yX12_more : MethodName := ⟨RX12, "more", "(II)J"⟩
abbrev cX12_bestLook : ByteArray := prog_14_method_56_code
def yX12_bestLook : MethodName := ⟨RX12, "bestLook", "(I)J"⟩
abbrev cX12_lamp : ByteArray := prog_14_method_57_code
def yX12_lamp : MethodName := ⟨RX12, "lamp", "(II)I"⟩
abbrev cX12_ready : ByteArray := prog_14_method_58_code
def yX12_ready : MethodName := ⟨RX12, "ready", "(I)I"⟩
abbrev cX12_rounds : ByteArray := prog_14_method_59_code
def yX12_rounds : MethodName := ⟨RX12, "rounds", "(II)J"⟩
abbrev cX12_quick : ByteArray := prog_14_method_60_code
def yX12_quick : MethodName := ⟨RX12, "quick", "(I)I"⟩
abbrev cX12_next_ : ByteArray := prog_14_method_61_code
def yX12_next_ : MethodName := ⟨RX12, "next", "(III)J"⟩
abbrev cX12_spare : ByteArray := prog_14_method_62_code
def yX12_spare : MethodName := ⟨RX12, "spare", "()I"⟩
abbrev cX12_judge : ByteArray := prog_14_method_63_code
def yX12_judge : MethodName := ⟨RX12, "judge", "(II)I"⟩
abbrev cX12_sure : ByteArray := prog_14_method_64_code
def yX12_sure : MethodName := ⟨RX12, "sure", "(I)I"⟩
abbrev cX12_fewest : ByteArray := prog_14_method_65_code
def yX12_fewest : MethodName := ⟨RX12, "fewest", "(I)I"⟩
abbrev cX12_check : ByteArray := prog_14_method_66_code
def yX12_check : MethodName := ⟨RX12, "check", "(I)I"⟩
abbrev cX12_call : ByteArray := prog_14_method_67_code
def yX12_call : MethodName := ⟨RX12, "call", "(I)I"⟩
abbrev cX12_calledIn : ByteArray := prog_14_method_68_code
def yX12_calledIn : MethodName := ⟨RX12, "calledIn", "(I)J"⟩
abbrev cX12_village : ByteArray := prog_14_method_69_code
def yX12_village : MethodName := ⟨RX12, "village", "(I)J"⟩
abbrev cX12_callWhen : ByteArray := prog_14_method_70_code
def yX12_callWhen : MethodName := ⟨RX12, "callWhen", "(I)I"⟩
abbrev cX12_isLittle : ByteArray := prog_14_method_71_code
def yX12_isLittle : MethodName := ⟨RX12, "isLittle", "(III)Z"⟩
abbrev cX12_trusts : ByteArray := prog_14_method_72_code
def yX12_trusts : MethodName := ⟨RX12, "trusts", "(II)I"⟩
abbrev cX12_placesBy : ByteArray := prog_14_method_73_code
def yX12_placesBy : MethodName := ⟨RX12, "placesBy", "(I)I"⟩
abbrev cX12_holesWrong : ByteArray := prog_14_method_74_code
def yX12_holesWrong : MethodName := ⟨RX12, "holesWrong", "(I)I"⟩
abbrev cX12_places : ByteArray := prog_14_method_75_code
def yX12_places : MethodName := ⟨RX12, "places", "(I)I"⟩
abbrev cX12_learn : ByteArray := prog_14_method_76_code
def yX12_learn : MethodName := ⟨RX12, "learn", "(I)I"⟩
abbrev cX12_draws : ByteArray := prog_14_method_77_code
def yX12_draws : MethodName := ⟨RX12, "draws", "(I)I"⟩
abbrev cX12_lookDrawn : ByteArray := prog_14_method_78_code
def yX12_lookDrawn : MethodName := ⟨RX12, "lookDrawn", "(III)V"⟩
abbrev cX12_drawsHour : ByteArray := prog_14_method_79_code
def yX12_drawsHour : MethodName := ⟨RX12, "drawsHour", "(II)V"⟩
abbrev cX12_drawn : ByteArray := prog_14_method_80_code
def yX12_drawn : MethodName := ⟨RX12, "drawn", "(II)J"⟩
abbrev cX12_image : ByteArray := prog_14_method_81_code
def yX12_image : MethodName := ⟨RX12, "image", "()I"⟩
abbrev cX12_back : ByteArray := prog_14_method_82_code
def yX12_back : MethodName := ⟨RX12, "back", "()I"⟩
abbrev cX12_sheet : ByteArray := prog_14_method_83_code
def yX12_sheet : MethodName := ⟨RX12, "sheet", "(III)I"⟩
abbrev cX12_cell : ByteArray := prog_14_method_84_code
def yX12_cell : MethodName := ⟨RX12, "cell", "(III)I"⟩
abbrev cX12_copy : ByteArray := prog_14_method_85_code
def yX12_copy : MethodName := ⟨RX12, "copy", "(IIIII)I"⟩
abbrev cX12_piecesBy : ByteArray := prog_14_method_86_code
def yX12_piecesBy : MethodName := ⟨RX12, "piecesBy", "(IIII)I"⟩
abbrev cX12_isUnder : ByteArray := prog_14_method_87_code
def yX12_isUnder : MethodName := ⟨RX12, "isUnder", "(II)Z"⟩
abbrev cX12_taken : ByteArray := prog_14_method_88_code
def yX12_taken : MethodName := ⟨RX12, "taken", "(II)I"⟩
def RJx145de : String := "java/io/Serializable"
def TJx145de : u_T := fun k => match k with
  | _ => ("", "", "", false)
def tyJx145de : Nat → FieldType := fun k => match k with
  | _ => .int
abbrev wsJx145de0 : List Cond := u_ws RJx145de TJx145de 0
theorem nmJx145de : ∀ a, a < 0 → ∀ b, b < 0 → a ≠ b → (TJx145de a).2.1 ≠ (TJx145de b).2.1 := by decide +kernel
theorem tyJx145de_ok : ∀ k, k < 0 → parseFieldDescriptor (TJx145de k).2.2.1 = some (tyJx145de k) := by decide +kernel
def RJx9f9b0 : String := "java/lang/CharSequence"
def TJx9f9b0 : u_T := fun k => match k with
  | _ => ("", "", "", false)
def tyJx9f9b0 : Nat → FieldType := fun k => match k with
  | _ => .int
abbrev wsJx9f9b00 : List Cond := u_ws RJx9f9b0 TJx9f9b0 0
theorem nmJx9f9b0 : ∀ a, a < 0 → ∀ b, b < 0 → a ≠ b → (TJx9f9b0 a).2.1 ≠ (TJx9f9b0 b).2.1 := by decide +kernel
theorem tyJx9f9b0_ok : ∀ k, k < 0 → parseFieldDescriptor (TJx9f9b0 k).2.2.1 = some (tyJx9f9b0 k) := by decide +kernel
def RJxb160c : String := "java/lang/Comparable"
def TJxb160c : u_T := fun k => match k with
  | _ => ("", "", "", false)
def tyJxb160c : Nat → FieldType := fun k => match k with
  | _ => .int
abbrev wsJxb160c0 : List Cond := u_ws RJxb160c TJxb160c 0
theorem nmJxb160c : ∀ a, a < 0 → ∀ b, b < 0 → a ≠ b → (TJxb160c a).2.1 ≠ (TJxb160c b).2.1 := by decide +kernel
theorem tyJxb160c_ok : ∀ k, k < 0 → parseFieldDescriptor (TJxb160c k).2.2.1 = some (tyJxb160c k) := by decide +kernel
def RJ9 : String := "java/lang/Math"
def TJ9 : u_T := fun k => match k with
  | _ => ("", "", "", false)
def tyJ9 : Nat → FieldType := fun k => match k with
  | _ => .int
abbrev wsJ90 : List Cond := u_ws RJ9 TJ9 0
theorem nmJ9 : ∀ a, a < 0 → ∀ b, b < 0 → a ≠ b → (TJ9 a).2.1 ≠ (TJ9 b).2.1 := by decide +kernel
theorem tyJ9_ok : ∀ k, k < 0 → parseFieldDescriptor (TJ9 k).2.2.1 = some (tyJ9 k) := by decide +kernel
abbrev cJ9_abs_0f7a4 : ByteArray := prog_15_method_59_code
def yJ9_abs_0f7a4 : MethodName := ⟨RJ9, "abs", "(I)I"⟩
abbrev cJ9_max_7cf53 : ByteArray := prog_15_method_65_code
def yJ9_max_7cf53 : MethodName := ⟨RJ9, "max", "(II)I"⟩
abbrev cJ9_min_7cf53 : ByteArray := prog_15_method_69_code
def yJ9_min_7cf53 : MethodName := ⟨RJ9, "min", "(II)I"⟩
def RJ0 : String := "java/lang/String"
def TJ0 : u_T := fun k => match k with
  | _ => ("", "", "", false)
def tyJ0 : Nat → FieldType := fun k => match k with
  | _ => .int
abbrev wsJ00 : List Cond := u_ws RJ0 TJ0 0
theorem nmJ0 : ∀ a, a < 0 → ∀ b, b < 0 → a ≠ b → (TJ0 a).2.1 ≠ (TJ0 b).2.1 := by decide +kernel
theorem tyJ0_ok : ∀ k, k < 0 → parseFieldDescriptor (TJ0 k).2.2.1 = some (tyJ0 k) := by decide +kernel
abbrev cJ0_length_8abf5 : ByteArray := prog_16_method_54_code
def yJ0_length_8abf5 : MethodName := ⟨RJ0, "length", "()I"⟩
abbrev cJ0_charAt_5068e : ByteArray := prog_16_method_56_code
def yJ0_charAt_5068e : MethodName := ⟨RJ0, "charAt", "(I)C"⟩
abbrev cJ0_coder_7d493 : ByteArray := prog_16_method_152_code
def yJ0_coder_7d493 : MethodName := ⟨RJ0, "coder", "()B"⟩
abbrev cJ0_isLatin1_aae02 : ByteArray := prog_16_method_154_code
def yJ0_isLatin1_aae02 : MethodName := ⟨RJ0, "isLatin1", "()Z"⟩
abbrev cJ0_checkIndex_df160 : ByteArray := prog_16_method_155_code
def yJ0_checkIndex_df160 : MethodName := ⟨RJ0, "checkIndex", "(II)V"⟩
def RJ1 : String := "java/lang/StringLatin1"
def TJ1 : u_T := fun k => match k with
  | _ => ("", "", "", false)
def tyJ1 : Nat → FieldType := fun k => match k with
  | _ => .int
abbrev wsJ10 : List Cond := u_ws RJ1 TJ1 0
theorem nmJ1 : ∀ a, a < 0 → ∀ b, b < 0 → a ≠ b → (TJ1 a).2.1 ≠ (TJ1 b).2.1 := by decide +kernel
theorem tyJ1_ok : ∀ k, k < 0 → parseFieldDescriptor (TJ1 k).2.2.1 = some (tyJ1 k) := by decide +kernel
abbrev cJ1_charAt_3b067 : ByteArray := prog_17_method_2_code
def yJ1_charAt_3b067 : MethodName := ⟨RJ1, "charAt", "([BI)C"⟩
def RJ2 : String := "java/lang/StringUTF16"
def TJ2 : u_T := fun k => match k with
  | _ => ("", "", "", false)
def tyJ2 : Nat → FieldType := fun k => match k with
  | _ => .int
abbrev wsJ20 : List Cond := u_ws RJ2 TJ2 0
theorem nmJ2 : ∀ a, a < 0 → ∀ b, b < 0 → a ≠ b → (TJ2 a).2.1 ≠ (TJ2 b).2.1 := by decide +kernel
theorem tyJ2_ok : ∀ k, k < 0 → parseFieldDescriptor (TJ2 k).2.2.1 = some (tyJ2 k) := by decide +kernel
abbrev cJ2_getChar_3b067 : ByteArray := prog_18_method_5_code
def yJ2_getChar_3b067 : MethodName := ⟨RJ2, "getChar", "([BI)C"⟩
abbrev cJ2_length_9d52b : ByteArray := prog_18_method_6_code
def yJ2_length_9d52b : MethodName := ⟨RJ2, "length", "([B)I"⟩
abbrev cJ2_charAt_3b067 : ByteArray := prog_18_method_83_code
def yJ2_charAt_3b067 : MethodName := ⟨RJ2, "charAt", "([BI)C"⟩
abbrev cJ2_checkIndex_2214a : ByteArray := prog_18_method_91_code
def yJ2_checkIndex_2214a : MethodName := ⟨RJ2, "checkIndex", "(I[B)V"⟩
def RJ10 : String := "java/lang/System"
def TJ10 : u_T := fun k => match k with
  | _ => ("", "", "", false)
def tyJ10 : Nat → FieldType := fun k => match k with
  | _ => .int
abbrev wsJ100 : List Cond := u_ws RJ10 TJ10 0
theorem nmJ10 : ∀ a, a < 0 → ∀ b, b < 0 → a ≠ b → (TJ10 a).2.1 ≠ (TJ10 b).2.1 := by decide +kernel
theorem tyJ10_ok : ∀ k, k < 0 → parseFieldDescriptor (TJ10 k).2.2.1 = some (tyJ10 k) := by decide +kernel
def RJxfd54e : String := "java/lang/constant/Constable"
def TJxfd54e : u_T := fun k => match k with
  | _ => ("", "", "", false)
def tyJxfd54e : Nat → FieldType := fun k => match k with
  | _ => .int
abbrev wsJxfd54e0 : List Cond := u_ws RJxfd54e TJxfd54e 0
theorem nmJxfd54e : ∀ a, a < 0 → ∀ b, b < 0 → a ≠ b → (TJxfd54e a).2.1 ≠ (TJxfd54e b).2.1 := by decide +kernel
theorem tyJxfd54e_ok : ∀ k, k < 0 → parseFieldDescriptor (TJxfd54e k).2.2.1 = some (tyJxfd54e k) := by decide +kernel
def RJx3cf43 : String := "java/lang/constant/ConstantDesc"
def TJx3cf43 : u_T := fun k => match k with
  | _ => ("", "", "", false)
def tyJx3cf43 : Nat → FieldType := fun k => match k with
  | _ => .int
abbrev wsJx3cf430 : List Cond := u_ws RJx3cf43 TJx3cf43 0
theorem nmJx3cf43 : ∀ a, a < 0 → ∀ b, b < 0 → a ≠ b → (TJx3cf43 a).2.1 ≠ (TJx3cf43 b).2.1 := by decide +kernel
theorem tyJx3cf43_ok : ∀ k, k < 0 → parseFieldDescriptor (TJx3cf43 k).2.2.1 = some (tyJx3cf43 k) := by decide +kernel
def RJ7 : String := "java/util/Arrays"
def TJ7 : u_T := fun k => match k with
  | _ => ("", "", "", false)
def tyJ7 : Nat → FieldType := fun k => match k with
  | _ => .int
abbrev wsJ70 : List Cond := u_ws RJ7 TJ7 0
theorem nmJ7 : ∀ a, a < 0 → ∀ b, b < 0 → a ≠ b → (TJ7 a).2.1 ≠ (TJ7 b).2.1 := by decide +kernel
theorem tyJ7_ok : ∀ k, k < 0 → parseFieldDescriptor (TJ7 k).2.2.1 = some (tyJ7 k) := by decide +kernel
abbrev cJ7_fill_d0a16 : ByteArray := prog_20_method_101_code
def yJ7_fill_d0a16 : MethodName := ⟨RJ7, "fill", "([JJ)V"⟩
abbrev cJ7_fill_53178 : ByteArray := prog_20_method_103_code
def yJ7_fill_53178 : MethodName := ⟨RJ7, "fill", "([II)V"⟩
def RJ3 : String := "jdk/internal/util/Preconditions"
def TJ3 : u_T := fun k => match k with
  | _ => ("", "", "", false)
def tyJ3 : Nat → FieldType := fun k => match k with
  | _ => .int
abbrev wsJ30 : List Cond := u_ws RJ3 TJ3 0
theorem nmJ3 : ∀ a, a < 0 → ∀ b, b < 0 → a ≠ b → (TJ3 a).2.1 ≠ (TJ3 b).2.1 := by decide +kernel
theorem tyJ3_ok : ∀ k, k < 0 → parseFieldDescriptor (TJ3 k).2.2.1 = some (tyJ3 k) := by decide +kernel
abbrev cJ3_checkIndex_8e157 : ByteArray := prog_21_method_11_code
def yJ3_checkIndex_8e157 : MethodName := ⟨RJ3, "checkIndex", "(IILjava/util/function/BiFunction;)I"⟩
def RL : String := "WalkTheDikeLaw"
abbrev cL_law : ByteArray := code
def yL_law : MethodName := ⟨RL, "law", "([I)Z"⟩
abbrev vwCl : List vw_C := [(RX0, TX0, 2), (RX1, TX1, 5), (RX2, TX2, 8), (RX3, TX3, 8), (RX4, TX4, 5), (RX5, TX5, 7), (RX6, TX6, 6), (RX7, TX7, 3), (RX8, TX8, 8), (RX9, TX9, 5), (RX10, TX10, 13), (RX11, TX11, 11), (RX12, TX12, 72)]
