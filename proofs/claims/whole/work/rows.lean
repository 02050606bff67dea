section
-- ===== PART A: goes FIRST, ahead of the names: the tables' words, and 'selects' of the private methods out of them =====
/-- a private method of a class that the tables say can be made, by its rows of tables_1 -/
def lw_okq (q : MethodName × Nat) : Prop := (q.1.cls ≠ "java/lang/invoke/MethodHandle" ∧ q.1.cls ≠ "java/lang/invoke/VarHandle") ∧ Cond.instantiable q.1.cls q.2 ∈ tables_1 ∧ Cond.privateMethod q.1 ∈ tables_1 ∧ Cond.instanceMethod q.1 ∈ tables_1
theorem lw_p0 : lw_okq (⟨"WalkTheDike$Tape", "advance", "()V"⟩, 8) := ⟨⟨by decide +kernel, by decide +kernel⟩, List.mem_of_getElem? (i := 149) (by decide +kernel), List.mem_of_getElem? (i := 438) (by decide +kernel), List.mem_of_getElem? (i := 439) (by decide +kernel)⟩
theorem lw_p1 : lw_okq (⟨"WalkTheDike$Tape", "at", "(I)I"⟩, 8) := ⟨⟨by decide +kernel, by decide +kernel⟩, List.mem_of_getElem? (i := 149) (by decide +kernel), List.mem_of_getElem? (i := 442) (by decide +kernel), List.mem_of_getElem? (i := 443) (by decide +kernel)⟩
theorem lw_p2 : lw_okq (⟨"WalkTheDike$Tape", "wordToken", "()I"⟩, 8) := ⟨⟨by decide +kernel, by decide +kernel⟩, List.mem_of_getElem? (i := 149) (by decide +kernel), List.mem_of_getElem? (i := 449) (by decide +kernel), List.mem_of_getElem? (i := 450) (by decide +kernel)⟩
theorem lw_p3 : lw_okq (⟨"WalkTheDike$Tape", "numberToken", "()I"⟩, 8) := ⟨⟨by decide +kernel, by decide +kernel⟩, List.mem_of_getElem? (i := 149) (by decide +kernel), List.mem_of_getElem? (i := 459) (by decide +kernel), List.mem_of_getElem? (i := 460) (by decide +kernel)⟩
theorem lw_p4 : lw_okq (⟨"WalkTheDike$Tape", "either", "(I)Z"⟩, 8) := ⟨⟨by decide +kernel, by decide +kernel⟩, List.mem_of_getElem? (i := 149) (by decide +kernel), List.mem_of_getElem? (i := 466) (by decide +kernel), List.mem_of_getElem? (i := 467) (by decide +kernel)⟩
theorem lw_p5 : lw_okq (⟨"WalkTheDike$Tape", "both", "(I)Z"⟩, 8) := ⟨⟨by decide +kernel, by decide +kernel⟩, List.mem_of_getElem? (i := 149) (by decide +kernel), List.mem_of_getElem? (i := 470) (by decide +kernel), List.mem_of_getElem? (i := 471) (by decide +kernel)⟩
theorem lw_p6 : lw_okq (⟨"WalkTheDike$Tape", "negation", "(I)Z"⟩, 8) := ⟨⟨by decide +kernel, by decide +kernel⟩, List.mem_of_getElem? (i := 149) (by decide +kernel), List.mem_of_getElem? (i := 474) (by decide +kernel), List.mem_of_getElem? (i := 475) (by decide +kernel)⟩
theorem lw_p7 : lw_okq (⟨"WalkTheDike$Tape", "comparison", "(I)Z"⟩, 8) := ⟨⟨by decide +kernel, by decide +kernel⟩, List.mem_of_getElem? (i := 149) (by decide +kernel), List.mem_of_getElem? (i := 478) (by decide +kernel), List.mem_of_getElem? (i := 479) (by decide +kernel)⟩
theorem lw_p8 : lw_okq (⟨"WalkTheDike$Tape", "sum", "(I)Z"⟩, 8) := ⟨⟨by decide +kernel, by decide +kernel⟩, List.mem_of_getElem? (i := 149) (by decide +kernel), List.mem_of_getElem? (i := 482) (by decide +kernel), List.mem_of_getElem? (i := 483) (by decide +kernel)⟩
theorem lw_p9 : lw_okq (⟨"WalkTheDike$Tape", "term", "(I)Z"⟩, 8) := ⟨⟨by decide +kernel, by decide +kernel⟩, List.mem_of_getElem? (i := 149) (by decide +kernel), List.mem_of_getElem? (i := 486) (by decide +kernel), List.mem_of_getElem? (i := 487) (by decide +kernel)⟩
theorem lw_p10 : lw_okq (⟨"WalkTheDike$Tape", "one", "(I)Z"⟩, 8) := ⟨⟨by decide +kernel, by decide +kernel⟩, List.mem_of_getElem? (i := 149) (by decide +kernel), List.mem_of_getElem? (i := 490) (by decide +kernel), List.mem_of_getElem? (i := 491) (by decide +kernel)⟩
theorem lw_p11 : lw_okq (⟨"WalkTheDike$Tape", "put", "(I)V"⟩, 8) := ⟨⟨by decide +kernel, by decide +kernel⟩, List.mem_of_getElem? (i := 149) (by decide +kernel), List.mem_of_getElem? (i := 494) (by decide +kernel), List.mem_of_getElem? (i := 495) (by decide +kernel)⟩
theorem lw_p12 : lw_okq (⟨"WalkTheDike", "rowRefused", "(III)I"⟩, 11) := ⟨⟨by decide +kernel, by decide +kernel⟩, List.mem_of_getElem? (i := 22) (by decide +kernel), List.mem_of_getElem? (i := 615) (by decide +kernel), List.mem_of_getElem? (i := 616) (by decide +kernel)⟩
theorem lw_p13 : lw_okq (⟨"WalkTheDike$Walk", "othersAt", "(II)I"⟩, 13) := ⟨⟨by decide +kernel, by decide +kernel⟩, List.mem_of_getElem? (i := 203) (by decide +kernel), List.mem_of_getElem? (i := 664) (by decide +kernel), List.mem_of_getElem? (i := 665) (by decide +kernel)⟩
theorem lw_p14 : lw_okq (⟨"WalkTheDike$Walk", "comes", "(II)I"⟩, 13) := ⟨⟨by decide +kernel, by decide +kernel⟩, List.mem_of_getElem? (i := 203) (by decide +kernel), List.mem_of_getElem? (i := 672) (by decide +kernel), List.mem_of_getElem? (i := 673) (by decide +kernel)⟩
theorem lw_p15 : lw_okq (⟨"WalkTheDike$Walk", "towards", "(III)I"⟩, 13) := ⟨⟨by decide +kernel, by decide +kernel⟩, List.mem_of_getElem? (i := 203) (by decide +kernel), List.mem_of_getElem? (i := 680) (by decide +kernel), List.mem_of_getElem? (i := 681) (by decide +kernel)⟩
def lw_privs_1 : List (MethodName × Nat) := [(⟨"WalkTheDike$Tape", "advance", "()V"⟩, 8), (⟨"WalkTheDike$Tape", "at", "(I)I"⟩, 8), (⟨"WalkTheDike$Tape", "wordToken", "()I"⟩, 8), (⟨"WalkTheDike$Tape", "numberToken", "()I"⟩, 8), (⟨"WalkTheDike$Tape", "either", "(I)Z"⟩, 8), (⟨"WalkTheDike$Tape", "both", "(I)Z"⟩, 8), (⟨"WalkTheDike$Tape", "negation", "(I)Z"⟩, 8), (⟨"WalkTheDike$Tape", "comparison", "(I)Z"⟩, 8), (⟨"WalkTheDike$Tape", "sum", "(I)Z"⟩, 8), (⟨"WalkTheDike$Tape", "term", "(I)Z"⟩, 8), (⟨"WalkTheDike$Tape", "one", "(I)Z"⟩, 8), (⟨"WalkTheDike$Tape", "put", "(I)V"⟩, 8), (⟨"WalkTheDike", "rowRefused", "(III)I"⟩, 11), (⟨"WalkTheDike$Walk", "othersAt", "(II)I"⟩, 13), (⟨"WalkTheDike$Walk", "comes", "(II)I"⟩, 13), (⟨"WalkTheDike$Walk", "towards", "(III)I"⟩, 13)]
theorem lw_r1 : ∀ q ∈ lw_privs_1, lw_okq q := List.forall_mem_cons.mpr ⟨lw_p0, List.forall_mem_cons.mpr ⟨lw_p1, List.forall_mem_cons.mpr ⟨lw_p2, List.forall_mem_cons.mpr ⟨lw_p3, List.forall_mem_cons.mpr ⟨lw_p4, List.forall_mem_cons.mpr ⟨lw_p5, List.forall_mem_cons.mpr ⟨lw_p6, List.forall_mem_cons.mpr ⟨lw_p7, List.forall_mem_cons.mpr ⟨lw_p8, List.forall_mem_cons.mpr ⟨lw_p9, List.forall_mem_cons.mpr ⟨lw_p10, List.forall_mem_cons.mpr ⟨lw_p11, List.forall_mem_cons.mpr ⟨lw_p12, List.forall_mem_cons.mpr ⟨lw_p13, List.forall_mem_cons.mpr ⟨lw_p14, List.forall_mem_cons.mpr ⟨lw_p15, fun _ h => absurd h List.not_mem_nil⟩⟩⟩⟩⟩⟩⟩⟩⟩⟩⟩⟩⟩⟩⟩⟩
theorem lw_p16 : lw_okq (⟨"WalkTheDike$Walk", "riskiest", "(III)I"⟩, 13) := ⟨⟨by decide +kernel, by decide +kernel⟩, List.mem_of_getElem? (i := 203) (by decide +kernel), List.mem_of_getElem? (i := 690) (by decide +kernel), List.mem_of_getElem? (i := 691) (by decide +kernel)⟩
theorem lw_p17 : lw_okq (⟨"WalkTheDike", "hoursLookedAt", "(I)I"⟩, 11) := ⟨⟨by decide +kernel, by decide +kernel⟩, List.mem_of_getElem? (i := 22) (by decide +kernel), List.mem_of_getElem? (i := 713) (by decide +kernel), List.mem_of_getElem? (i := 714) (by decide +kernel)⟩
theorem lw_p18 : lw_okq (⟨"WalkTheDike", "longestNotLookedAt", "(I)I"⟩, 11) := ⟨⟨by decide +kernel, by decide +kernel⟩, List.mem_of_getElem? (i := 22) (by decide +kernel), List.mem_of_getElem? (i := 717) (by decide +kernel), List.mem_of_getElem? (i := 718) (by decide +kernel)⟩
theorem lw_p19 : lw_okq (⟨"WalkTheDike$Reckoning", "grow", "(II)V"⟩, 6) := ⟨⟨by decide +kernel, by decide +kernel⟩, List.mem_of_getElem? (i := 256) (by decide +kernel), List.mem_of_getElem? (i := 743) (by decide +kernel), List.mem_of_getElem? (i := 744) (by decide +kernel)⟩
theorem lw_p20 : lw_okq (⟨"WalkTheDike$Reckoning", "look", "(III)V"⟩, 6) := ⟨⟨by decide +kernel, by decide +kernel⟩, List.mem_of_getElem? (i := 256) (by decide +kernel), List.mem_of_getElem? (i := 760) (by decide +kernel), List.mem_of_getElem? (i := 761) (by decide +kernel)⟩
theorem lw_p21 : lw_okq (⟨"WalkTheDike", "allHarm", "()J"⟩, 11) := ⟨⟨by decide +kernel, by decide +kernel⟩, List.mem_of_getElem? (i := 22) (by decide +kernel), List.mem_of_getElem? (i := 793) (by decide +kernel), List.mem_of_getElem? (i := 794) (by decide +kernel)⟩
theorem lw_p22 : lw_okq (⟨"WalkTheDike", "holedOften", "(I)I"⟩, 11) := ⟨⟨by decide +kernel, by decide +kernel⟩, List.mem_of_getElem? (i := 22) (by decide +kernel), List.mem_of_getElem? (i := 865) (by decide +kernel), List.mem_of_getElem? (i := 866) (by decide +kernel)⟩
theorem lw_p23 : lw_okq (⟨"WalkTheDike$Drawing", "grow", "(II)V"⟩, 8) := ⟨⟨by decide +kernel, by decide +kernel⟩, List.mem_of_getElem? (i := 284) (by decide +kernel), List.mem_of_getElem? (i := 885) (by decide +kernel), List.mem_of_getElem? (i := 886) (by decide +kernel)⟩
theorem lw_p24 : lw_okq (⟨"WalkTheDike$Drawing", "nextLot", "()J"⟩, 8) := ⟨⟨by decide +kernel, by decide +kernel⟩, List.mem_of_getElem? (i := 284) (by decide +kernel), List.mem_of_getElem? (i := 889) (by decide +kernel), List.mem_of_getElem? (i := 890) (by decide +kernel)⟩
theorem lw_p25 : lw_okq (⟨"WalkTheDike$Drawing", "look", "(III)V"⟩, 8) := ⟨⟨by decide +kernel, by decide +kernel⟩, List.mem_of_getElem? (i := 284) (by decide +kernel), List.mem_of_getElem? (i := 898) (by decide +kernel), List.mem_of_getElem? (i := 899) (by decide +kernel)⟩
theorem lw_p26 : lw_okq (⟨"WalkTheDikeModel", "first", "(IIIII)V"⟩, 72) := ⟨⟨by decide +kernel, by decide +kernel⟩, List.mem_of_getElem? (i := 951) (by decide +kernel), List.mem_of_getElem? (i := 970) (by decide +kernel), List.mem_of_getElem? (i := 971) (by decide +kernel)⟩
theorem lw_p27 : lw_okq (⟨"WalkTheDikeModel", "isPiece", "(I)Z"⟩, 72) := ⟨⟨by decide +kernel, by decide +kernel⟩, List.mem_of_getElem? (i := 951) (by decide +kernel), List.mem_of_getElem? (i := 1206) (by decide +kernel), List.mem_of_getElem? (i := 1207) (by decide +kernel)⟩
theorem lw_p28 : lw_okq (⟨"WalkTheDikeModel", "next", "()V"⟩, 72) := ⟨⟨by decide +kernel, by decide +kernel⟩, List.mem_of_getElem? (i := 951) (by decide +kernel), List.mem_of_getElem? (i := 1232) (by decide +kernel), List.mem_of_getElem? (i := 1233) (by decide +kernel)⟩
theorem lw_p29 : lw_okq (⟨"WalkTheDikeModel", "letters", "()J"⟩, 72) := ⟨⟨by decide +kernel, by decide +kernel⟩, List.mem_of_getElem? (i := 951) (by decide +kernel), List.mem_of_getElem? (i := 1236) (by decide +kernel), List.mem_of_getElem? (i := 1237) (by decide +kernel)⟩
theorem lw_p30 : lw_okq (⟨"WalkTheDikeModel", "eRead", "()Z"⟩, 72) := ⟨⟨by decide +kernel, by decide +kernel⟩, List.mem_of_getElem? (i := 951) (by decide +kernel), List.mem_of_getElem? (i := 1240) (by decide +kernel), List.mem_of_getElem? (i := 1241) (by decide +kernel)⟩
theorem lw_p31 : lw_okq (⟨"WalkTheDikeModel", "puts", "(I)V"⟩, 72) := ⟨⟨by decide +kernel, by decide +kernel⟩, List.mem_of_getElem? (i := 951) (by decide +kernel), List.mem_of_getElem? (i := 1245) (by decide +kernel), List.mem_of_getElem? (i := 1246) (by decide +kernel)⟩
def lw_privs_2 : List (MethodName × Nat) := [(⟨"WalkTheDike$Walk", "riskiest", "(III)I"⟩, 13), (⟨"WalkTheDike", "hoursLookedAt", "(I)I"⟩, 11), (⟨"WalkTheDike", "longestNotLookedAt", "(I)I"⟩, 11), (⟨"WalkTheDike$Reckoning", "grow", "(II)V"⟩, 6), (⟨"WalkTheDike$Reckoning", "look", "(III)V"⟩, 6), (⟨"WalkTheDike", "allHarm", "()J"⟩, 11), (⟨"WalkTheDike", "holedOften", "(I)I"⟩, 11), (⟨"WalkTheDike$Drawing", "grow", "(II)V"⟩, 8), (⟨"WalkTheDike$Drawing", "nextLot", "()J"⟩, 8), (⟨"WalkTheDike$Drawing", "look", "(III)V"⟩, 8), (⟨"WalkTheDikeModel", "first", "(IIIII)V"⟩, 72), (⟨"WalkTheDikeModel", "isPiece", "(I)Z"⟩, 72), (⟨"WalkTheDikeModel", "next", "()V"⟩, 72), (⟨"WalkTheDikeModel", "letters", "()J"⟩, 72), (⟨"WalkTheDikeModel", "eRead", "()Z"⟩, 72), (⟨"WalkTheDikeModel", "puts", "(I)V"⟩, 72)]
theorem lw_r2 : ∀ q ∈ lw_privs_2, lw_okq q := List.forall_mem_cons.mpr ⟨lw_p16, List.forall_mem_cons.mpr ⟨lw_p17, List.forall_mem_cons.mpr ⟨lw_p18, List.forall_mem_cons.mpr ⟨lw_p19, List.forall_mem_cons.mpr ⟨lw_p20, List.forall_mem_cons.mpr ⟨lw_p21, List.forall_mem_cons.mpr ⟨lw_p22, List.forall_mem_cons.mpr ⟨lw_p23, List.forall_mem_cons.mpr ⟨lw_p24, List.forall_mem_cons.mpr ⟨lw_p25, List.forall_mem_cons.mpr ⟨lw_p26, List.forall_mem_cons.mpr ⟨lw_p27, List.forall_mem_cons.mpr ⟨lw_p28, List.forall_mem_cons.mpr ⟨lw_p29, List.forall_mem_cons.mpr ⟨lw_p30, List.forall_mem_cons.mpr ⟨lw_p31, fun _ h => absurd h List.not_mem_nil⟩⟩⟩⟩⟩⟩⟩⟩⟩⟩⟩⟩⟩⟩⟩⟩
theorem lw_p32 : lw_okq (⟨"WalkTheDikeModel", "unwinds", "(I)V"⟩, 72) := ⟨⟨by decide +kernel, by decide +kernel⟩, List.mem_of_getElem? (i := 951) (by decide +kernel), List.mem_of_getElem? (i := 1249) (by decide +kernel), List.mem_of_getElem? (i := 1250) (by decide +kernel)⟩
theorem lw_p33 : lw_okq (⟨"WalkTheDikeModel", "opensOne", "(I)Z"⟩, 72) := ⟨⟨by decide +kernel, by decide +kernel⟩, List.mem_of_getElem? (i := 951) (by decide +kernel), List.mem_of_getElem? (i := 1256) (by decide +kernel), List.mem_of_getElem? (i := 1257) (by decide +kernel)⟩
theorem lw_p34 : lw_okq (⟨"WalkTheDikeModel", "holds", "(I)V"⟩, 72) := ⟨⟨by decide +kernel, by decide +kernel⟩, List.mem_of_getElem? (i := 951) (by decide +kernel), List.mem_of_getElem? (i := 1260) (by decide +kernel), List.mem_of_getElem? (i := 1261) (by decide +kernel)⟩
theorem lw_p35 : lw_okq (⟨"WalkTheDikeModel", "signOf", "()I"⟩, 72) := ⟨⟨by decide +kernel, by decide +kernel⟩, List.mem_of_getElem? (i := 951) (by decide +kernel), List.mem_of_getElem? (i := 1264) (by decide +kernel), List.mem_of_getElem? (i := 1265) (by decide +kernel)⟩
theorem lw_p36 : lw_okq (⟨"WalkTheDikeModel", "between", "(I)Z"⟩, 72) := ⟨⟨by decide +kernel, by decide +kernel⟩, List.mem_of_getElem? (i := 951) (by decide +kernel), List.mem_of_getElem? (i := 1268) (by decide +kernel), List.mem_of_getElem? (i := 1269) (by decide +kernel)⟩
theorem lw_p37 : lw_okq (⟨"WalkTheDikeModel", "says", "(IIIII)I"⟩, 72) := ⟨⟨by decide +kernel, by decide +kernel⟩, List.mem_of_getElem? (i := 951) (by decide +kernel), List.mem_of_getElem? (i := 1280) (by decide +kernel), List.mem_of_getElem? (i := 1281) (by decide +kernel)⟩
theorem lw_p38 : lw_okq (⟨"WalkTheDikeModel", "worth", "(I)I"⟩, 72) := ⟨⟨by decide +kernel, by decide +kernel⟩, List.mem_of_getElem? (i := 951) (by decide +kernel), List.mem_of_getElem? (i := 1284) (by decide +kernel), List.mem_of_getElem? (i := 1285) (by decide +kernel)⟩
theorem lw_p39 : lw_okq (⟨"WalkTheDikeModel", "isMan", "(I)Z"⟩, 72) := ⟨⟨by decide +kernel, by decide +kernel⟩, List.mem_of_getElem? (i := 951) (by decide +kernel), List.mem_of_getElem? (i := 1299) (by decide +kernel), List.mem_of_getElem? (i := 1300) (by decide +kernel)⟩
theorem lw_p40 : lw_okq (⟨"WalkTheDikeModel", "isHour", "(I)Z"⟩, 72) := ⟨⟨by decide +kernel, by decide +kernel⟩, List.mem_of_getElem? (i := 951) (by decide +kernel), List.mem_of_getElem? (i := 1311) (by decide +kernel), List.mem_of_getElem? (i := 1312) (by decide +kernel)⟩
theorem lw_p41 : lw_okq (⟨"WalkTheDikeModel", "walk", "()V"⟩, 72) := ⟨⟨by decide +kernel, by decide +kernel⟩, List.mem_of_getElem? (i := 951) (by decide +kernel), List.mem_of_getElem? (i := 1315) (by decide +kernel), List.mem_of_getElem? (i := 1316) (by decide +kernel)⟩
theorem lw_p42 : lw_okq (⟨"WalkTheDikeModel", "turns", "(II)V"⟩, 72) := ⟨⟨by decide +kernel, by decide +kernel⟩, List.mem_of_getElem? (i := 951) (by decide +kernel), List.mem_of_getElem? (i := 1319) (by decide +kernel), List.mem_of_getElem? (i := 1320) (by decide +kernel)⟩
theorem lw_p43 : lw_okq (⟨"WalkTheDikeModel", "looks", "(I)V"⟩, 72) := ⟨⟨by decide +kernel, by decide +kernel⟩, List.mem_of_getElem? (i := 951) (by decide +kernel), List.mem_of_getElem? (i := 1323) (by decide +kernel), List.mem_of_getElem? (i := 1324) (by decide +kernel)⟩
theorem lw_p44 : lw_okq (⟨"WalkTheDikeModel", "doesLook", "(II)Z"⟩, 72) := ⟨⟨by decide +kernel, by decide +kernel⟩, List.mem_of_getElem? (i := 951) (by decide +kernel), List.mem_of_getElem? (i := 1327) (by decide +kernel), List.mem_of_getElem? (i := 1328) (by decide +kernel)⟩
theorem lw_p45 : lw_okq (⟨"WalkTheDikeModel", "isVillage", "(II)Z"⟩, 72) := ⟨⟨by decide +kernel, by decide +kernel⟩, List.mem_of_getElem? (i := 951) (by decide +kernel), List.mem_of_getElem? (i := 1331) (by decide +kernel), List.mem_of_getElem? (i := 1332) (by decide +kernel)⟩
theorem lw_p46 : lw_okq (⟨"WalkTheDikeModel", "goesTo", "(II)I"⟩, 72) := ⟨⟨by decide +kernel, by decide +kernel⟩, List.mem_of_getElem? (i := 951) (by decide +kernel), List.mem_of_getElem? (i := 1335) (by decide +kernel), List.mem_of_getElem? (i := 1336) (by decide +kernel)⟩
theorem lw_p47 : lw_okq (⟨"WalkTheDikeModel", "byRisk", "(II)I"⟩, 72) := ⟨⟨by decide +kernel, by decide +kernel⟩, List.mem_of_getElem? (i := 951) (by decide +kernel), List.mem_of_getElem? (i := 1339) (by decide +kernel), List.mem_of_getElem? (i := 1340) (by decide +kernel)⟩
def lw_privs_3 : List (MethodName × Nat) := [(⟨"WalkTheDikeModel", "unwinds", "(I)V"⟩, 72), (⟨"WalkTheDikeModel", "opensOne", "(I)Z"⟩, 72), (⟨"WalkTheDikeModel", "holds", "(I)V"⟩, 72), (⟨"WalkTheDikeModel", "signOf", "()I"⟩, 72), (⟨"WalkTheDikeModel", "between", "(I)Z"⟩, 72), (⟨"WalkTheDikeModel", "says", "(IIIII)I"⟩, 72), (⟨"WalkTheDikeModel", "worth", "(I)I"⟩, 72), (⟨"WalkTheDikeModel", "isMan", "(I)Z"⟩, 72), (⟨"WalkTheDikeModel", "isHour", "(I)Z"⟩, 72), (⟨"WalkTheDikeModel", "walk", "()V"⟩, 72), (⟨"WalkTheDikeModel", "turns", "(II)V"⟩, 72), (⟨"WalkTheDikeModel", "looks", "(I)V"⟩, 72), (⟨"WalkTheDikeModel", "doesLook", "(II)Z"⟩, 72), (⟨"WalkTheDikeModel", "isVillage", "(II)Z"⟩, 72), (⟨"WalkTheDikeModel", "goesTo", "(II)I"⟩, 72), (⟨"WalkTheDikeModel", "byRisk", "(II)I"⟩, 72)]
theorem lw_r3 : ∀ q ∈ lw_privs_3, lw_okq q := List.forall_mem_cons.mpr ⟨lw_p32, List.forall_mem_cons.mpr ⟨lw_p33, List.forall_mem_cons.mpr ⟨lw_p34, List.forall_mem_cons.mpr ⟨lw_p35, List.forall_mem_cons.mpr ⟨lw_p36, List.forall_mem_cons.mpr ⟨lw_p37, List.forall_mem_cons.mpr ⟨lw_p38, List.forall_mem_cons.mpr ⟨lw_p39, List.forall_mem_cons.mpr ⟨lw_p40, List.forall_mem_cons.mpr ⟨lw_p41, List.forall_mem_cons.mpr ⟨lw_p42, List.forall_mem_cons.mpr ⟨lw_p43, List.forall_mem_cons.mpr ⟨lw_p44, List.forall_mem_cons.mpr ⟨lw_p45, List.forall_mem_cons.mpr ⟨lw_p46, List.forall_mem_cons.mpr ⟨lw_p47, fun _ h => absurd h List.not_mem_nil⟩⟩⟩⟩⟩⟩⟩⟩⟩⟩⟩⟩⟩⟩⟩⟩
theorem lw_p48 : lw_okq (⟨"WalkTheDikeModel", "danger", "(II)J"⟩, 72) := ⟨⟨by decide +kernel, by decide +kernel⟩, List.mem_of_getElem? (i := 951) (by decide +kernel), List.mem_of_getElem? (i := 1343) (by decide +kernel), List.mem_of_getElem? (i := 1344) (by decide +kernel)⟩
theorem lw_p49 : lw_okq (⟨"WalkTheDikeModel", "rowWithout", "(I)I"⟩, 72) := ⟨⟨by decide +kernel, by decide +kernel⟩, List.mem_of_getElem? (i := 951) (by decide +kernel), List.mem_of_getElem? (i := 1358) (by decide +kernel), List.mem_of_getElem? (i := 1359) (by decide +kernel)⟩
theorem lw_p50 : lw_okq (⟨"WalkTheDikeModel", "runAll", "(I)J"⟩, 72) := ⟨⟨by decide +kernel, by decide +kernel⟩, List.mem_of_getElem? (i := 951) (by decide +kernel), List.mem_of_getElem? (i := 1370) (by decide +kernel), List.mem_of_getElem? (i := 1371) (by decide +kernel)⟩
theorem lw_p51 : lw_okq (⟨"WalkTheDikeModel", "reckons", "(II)V"⟩, 72) := ⟨⟨by decide +kernel, by decide +kernel⟩, List.mem_of_getElem? (i := 951) (by decide +kernel), List.mem_of_getElem? (i := 1374) (by decide +kernel), List.mem_of_getElem? (i := 1375) (by decide +kernel)⟩
theorem lw_p52 : lw_okq (⟨"WalkTheDikeModel", "lookBy", "(III)V"⟩, 72) := ⟨⟨by decide +kernel, by decide +kernel⟩, List.mem_of_getElem? (i := 951) (by decide +kernel), List.mem_of_getElem? (i := 1380) (by decide +kernel), List.mem_of_getElem? (i := 1381) (by decide +kernel)⟩
theorem lw_p53 : lw_okq (⟨"WalkTheDikeModel", "withLook", "(II)J"⟩, 72) := ⟨⟨by decide +kernel, by decide +kernel⟩, List.mem_of_getElem? (i := 951) (by decide +kernel), List.mem_of_getElem? (i := 1402) (by decide +kernel), List.mem_of_getElem? (i := 1403) (by decide +kernel)⟩
theorem lw_p54 : lw_okq (⟨"WalkTheDikeModel", "calledIn", "(I)J"⟩, 72) := ⟨⟨by decide +kernel, by decide +kernel⟩, List.mem_of_getElem? (i := 951) (by decide +kernel), List.mem_of_getElem? (i := 1458) (by decide +kernel), List.mem_of_getElem? (i := 1459) (by decide +kernel)⟩
theorem lw_p55 : lw_okq (⟨"WalkTheDikeModel", "isLittle", "(III)Z"⟩, 72) := ⟨⟨by decide +kernel, by decide +kernel⟩, List.mem_of_getElem? (i := 951) (by decide +kernel), List.mem_of_getElem? (i := 1470) (by decide +kernel), List.mem_of_getElem? (i := 1471) (by decide +kernel)⟩
theorem lw_p56 : lw_okq (⟨"WalkTheDikeModel", "holesWrong", "(I)I"⟩, 72) := ⟨⟨by decide +kernel, by decide +kernel⟩, List.mem_of_getElem? (i := 951) (by decide +kernel), List.mem_of_getElem? (i := 1478) (by decide +kernel), List.mem_of_getElem? (i := 1479) (by decide +kernel)⟩
theorem lw_p57 : lw_okq (⟨"WalkTheDikeModel", "placesBy", "(I)I"⟩, 72) := ⟨⟨by decide +kernel, by decide +kernel⟩, List.mem_of_getElem? (i := 951) (by decide +kernel), List.mem_of_getElem? (i := 1482) (by decide +kernel), List.mem_of_getElem? (i := 1483) (by decide +kernel)⟩
theorem lw_p58 : lw_okq (⟨"WalkTheDikeModel", "drawsHour", "(II)V"⟩, 72) := ⟨⟨by decide +kernel, by decide +kernel⟩, List.mem_of_getElem? (i := 951) (by decide +kernel), List.mem_of_getElem? (i := 1495) (by decide +kernel), List.mem_of_getElem? (i := 1496) (by decide +kernel)⟩
theorem lw_p59 : lw_okq (⟨"WalkTheDikeModel", "draws", "(I)I"⟩, 72) := ⟨⟨by decide +kernel, by decide +kernel⟩, List.mem_of_getElem? (i := 951) (by decide +kernel), List.mem_of_getElem? (i := 1499) (by decide +kernel), List.mem_of_getElem? (i := 1500) (by decide +kernel)⟩
theorem lw_p60 : lw_okq (⟨"WalkTheDikeModel", "lookDrawn", "(III)V"⟩, 72) := ⟨⟨by decide +kernel, by decide +kernel⟩, List.mem_of_getElem? (i := 951) (by decide +kernel), List.mem_of_getElem? (i := 1505) (by decide +kernel), List.mem_of_getElem? (i := 1506) (by decide +kernel)⟩
def lw_privs_4 : List (MethodName × Nat) := [(⟨"WalkTheDikeModel", "danger", "(II)J"⟩, 72), (⟨"WalkTheDikeModel", "rowWithout", "(I)I"⟩, 72), (⟨"WalkTheDikeModel", "runAll", "(I)J"⟩, 72), (⟨"WalkTheDikeModel", "reckons", "(II)V"⟩, 72), (⟨"WalkTheDikeModel", "lookBy", "(III)V"⟩, 72), (⟨"WalkTheDikeModel", "withLook", "(II)J"⟩, 72), (⟨"WalkTheDikeModel", "calledIn", "(I)J"⟩, 72), (⟨"WalkTheDikeModel", "isLittle", "(III)Z"⟩, 72), (⟨"WalkTheDikeModel", "holesWrong", "(I)I"⟩, 72), (⟨"WalkTheDikeModel", "placesBy", "(I)I"⟩, 72), (⟨"WalkTheDikeModel", "drawsHour", "(II)V"⟩, 72), (⟨"WalkTheDikeModel", "draws", "(I)I"⟩, 72), (⟨"WalkTheDikeModel", "lookDrawn", "(III)V"⟩, 72)]
theorem lw_r4 : ∀ q ∈ lw_privs_4, lw_okq q := List.forall_mem_cons.mpr ⟨lw_p48, List.forall_mem_cons.mpr ⟨lw_p49, List.forall_mem_cons.mpr ⟨lw_p50, List.forall_mem_cons.mpr ⟨lw_p51, List.forall_mem_cons.mpr ⟨lw_p52, List.forall_mem_cons.mpr ⟨lw_p53, List.forall_mem_cons.mpr ⟨lw_p54, List.forall_mem_cons.mpr ⟨lw_p55, List.forall_mem_cons.mpr ⟨lw_p56, List.forall_mem_cons.mpr ⟨lw_p57, List.forall_mem_cons.mpr ⟨lw_p58, List.forall_mem_cons.mpr ⟨lw_p59, List.forall_mem_cons.mpr ⟨lw_p60, fun _ h => absurd h List.not_mem_nil⟩⟩⟩⟩⟩⟩⟩⟩⟩⟩⟩⟩⟩
def lw_privs : List (MethodName × Nat) := lw_privs_1 ++ (lw_privs_2 ++ (lw_privs_3 ++ (lw_privs_4)))
def lw_tbl : List Cond := k2_sels lw_privs ++ tables_1
theorem lw_privs_ok : ∀ q ∈ lw_privs, lw_okq q := by
  show ∀ q ∈ lw_privs_1 ++ (lw_privs_2 ++ (lw_privs_3 ++ (lw_privs_4))), lw_okq q
  exact List.forall_mem_append.mpr ⟨lw_r1, List.forall_mem_append.mpr ⟨lw_r2, List.forall_mem_append.mpr ⟨lw_r3, lw_r4⟩⟩⟩

/-! ===== BEGIN words of one list among another's, by their places ===== -/
theorem goodIn_r {big : List Cond} (ws : List Cond) (ps : List Nat) (hp : ws = ps.filterMap (fun i => big[i]?)) (h : ws.all goodWord = true) : GoodIn big ws := by
  intro w hw
  have h1 := List.all_eq_true.mp h w hw
  rw [hp] at hw
  obtain ⟨i, -, hi⟩ := List.mem_filterMap.mp hw
  have hm : w ∈ big := by first | exact List.mem_of_getElem? hi | exact List.getElem?_mem hi
  exact ⟨hm, good_of_word h1⟩
theorem goodIn_app {big a b : List Cond} (ha : GoodIn big a) (hb : GoodIn big b) : GoodIn big (a ++ b) := fun w h => (List.mem_append.mp h).elim (ha w) (hb w)
theorem goodIn_ca {big a b : List Cond} {c : Cond} (ha : GoodIn big (c :: a)) (hb : GoodIn big b) : GoodIn big (c :: (a ++ b)) := fun w h => (List.mem_cons.mp h).elim (fun e => ha w (List.mem_cons.mpr (Or.inl e))) (fun h => (List.mem_append.mp h).elim (fun h => ha w (List.mem_cons.mpr (Or.inr h))) (hb w))
theorem goodIn_sub {big ws : List Cond} (hm : ∀ w ∈ ws, w ∈ big) (h : ws.all goodWord = true) : GoodIn big ws := fun w hw => ⟨hm w hw, good_of_word (List.all_eq_true.mp h w hw)⟩
/-! ===== END ===== -/
def RX0 : String := "WalkTheDike$Best"
def TX0 : u_T := fun k => match k with
  | 0 => ("WalkTheDike$Best", "which", "I", false)
  | _ => ("WalkTheDike$Best", "least", "J", false)
def tyX0 : Nat → FieldType := fun k => match k with
  | 0 => .int
  | _ => .long
abbrev wsX00 : List Cond := u_ws RX0 TX0 2
theorem nmX0 : ∀ a, a < 2 → ∀ b, b < 2 → a ≠ b → (TX0 a).2.1 ≠ (TX0 b).2.1 := by decide +kernel
theorem tyX0_ok : ∀ k, k < 2 → parseFieldDescriptor (TX0 k).2.2.1 = some (tyX0 k) := by decide +kernel
abbrev cX0_init : ByteArray := prog_2_method_1_code
def yX0_init : MethodName := ⟨RX0, "<init>", "()V"⟩
abbrev cX0_begin : ByteArray := prog_2_method_2_code
def yX0_begin : MethodName := ⟨RX0, "begin", "(J)V"⟩
abbrev cX0_offer : ByteArray := prog_2_method_3_code
def yX0_offer : MethodName := ⟨RX0, "offer", "(IJ)V"⟩
def RX1 : String := "WalkTheDike$Chances"
def TX1 : u_T := fun k => match k with
  | 0 => ("WalkTheDike$Chances", "dike", "LWalkTheDike$Dike;", true)
  | 1 => ("WalkTheDike$Chances", "texts", "LWalkTheDike$Texts;", true)
  | 2 => ("WalkTheDike$Chances", "names", "[I", true)
  | 3 => ("WalkTheDike$Chances", "known", "[I", true)
  | _ => ("WalkTheDike$Chances", "age", "I", false)
def tyX1 : Nat → FieldType := fun k => match k with
  | 0 => .object "WalkTheDike$Dike"
  | 1 => .object "WalkTheDike$Texts"
  | 2 => .array .int
  | 3 => .array .int
  | _ => .int
abbrev wsX10 : List Cond := u_ws RX1 TX1 5
theorem nmX1 : ∀ a, a < 5 → ∀ b, b < 5 → a ≠ b → (TX1 a).2.1 ≠ (TX1 b).2.1 := by decide +kernel
theorem tyX1_ok : ∀ k, k < 5 → parseFieldDescriptor (TX1 k).2.2.1 = some (tyX1 k) := by decide +kernel
abbrev cX1_init : ByteArray := prog_3_method_1_code
def yX1_init : MethodName := ⟨RX1, "<init>", "(LWalkTheDike$Dike;LWalkTheDike$Texts;)V"⟩
abbrev cX1_forget : ByteArray := prog_3_method_2_code
def yX1_forget : MethodName := ⟨RX1, "forget", "()V"⟩
abbrev cX1_ask : ByteArray := prog_3_method_3_code
def yX1_ask : MethodName := ⟨RX1, "ask", "(IIIII)I"⟩
def RX2 : String := "WalkTheDike$Dike"
def TX2 : u_T := fun k => match k with
  | 0 => ("WalkTheDike$Dike", "old", "[I", true)
  | 1 => ("WalkTheDike$Dike", "worth", "[I", true)
  | 2 => ("WalkTheDike$Dike", "sacks", "[I", true)
  | 3 => ("WalkTheDike$Dike", "lamp", "[I", true)
  | 4 => ("WalkTheDike$Dike", "pieces", "I", false)
  | 5 => ("WalkTheDike$Dike", "night", "[I", true)
  | 6 => ("WalkTheDike$Dike", "water", "[I", true)
  | _ => ("WalkTheDike$Dike", "called", "I", false)
def tyX2 : Nat → FieldType := fun k => match k with
  | 0 => .array .int
  | 1 => .array .int
  | 2 => .array .int
  | 3 => .array .int
  | 4 => .int
  | 5 => .array .int
  | 6 => .array .int
  | _ => .int
abbrev wsX20 : List Cond := u_ws RX2 TX2 8
theorem nmX2 : ∀ a, a < 8 → ∀ b, b < 8 → a ≠ b → (TX2 a).2.1 ≠ (TX2 b).2.1 := by decide +kernel
theorem tyX2_ok : ∀ k, k < 8 → parseFieldDescriptor (TX2 k).2.2.1 = some (tyX2 k) := by decide +kernel
abbrev cX2_init : ByteArray := prog_4_method_1_code
def yX2_init : MethodName := ⟨RX2, "<init>", "()V"⟩
abbrev cX2_has : ByteArray := prog_4_method_2_code
def yX2_has : MethodName := ⟨RX2, "has", "(I)Z"⟩
abbrev cX2_hasHour : ByteArray := prog_4_method_3_code
def yX2_hasHour : MethodName := ⟨RX2, "hasHour", "(I)Z"⟩
abbrev cX2_add : ByteArray := prog_4_method_4_code
def yX2_add : MethodName := ⟨RX2, "add", "(II)I"⟩
abbrev cX2_villageAt : ByteArray := prog_4_method_5_code
def yX2_villageAt : MethodName := ⟨RX2, "villageAt", "(II)Z"⟩
abbrev cX2_become : ByteArray := prog_4_method_6_code
def yX2_become : MethodName := ⟨RX2, "become", "(LWalkTheDike$Dike;I)V"⟩
def RX3 : String := "WalkTheDike$Drawing"
def TX3 : u_T := fun k => match k with
  | 0 => ("WalkTheDike$Drawing", "dike", "LWalkTheDike$Dike;", true)
  | 1 => ("WalkTheDike$Drawing", "walk", "LWalkTheDike$Walk;", true)
  | 2 => ("WalkTheDike$Drawing", "chances", "LWalkTheDike$Chances;", true)
  | 3 => ("WalkTheDike$Drawing", "hole", "[I", true)
  | 4 => ("WalkTheDike$Drawing", "lot", "J", false)
  | 5 => ("WalkTheDike$Drawing", "harm", "J", false)
  | 6 => ("WalkTheDike$Drawing", "broke", "I", false)
  | _ => ("WalkTheDike$Drawing", "found", "I", false)
def tyX3 : Nat → FieldType := fun k => match k with
  | 0 => .object "WalkTheDike$Dike"
  | 1 => .object "WalkTheDike$Walk"
  | 2 => .object "WalkTheDike$Chances"
  | 3 => .array .int
  | 4 => .long
  | 5 => .long
  | 6 => .int
  | _ => .int
abbrev wsX30 : List Cond := u_ws RX3 TX3 8
theorem nmX3 : ∀ a, a < 8 → ∀ b, b < 8 → a ≠ b → (TX3 a).2.1 ≠ (TX3 b).2.1 := by decide +kernel
theorem tyX3_ok : ∀ k, k < 8 → parseFieldDescriptor (TX3 k).2.2.1 = some (tyX3 k) := by decide +kernel
abbrev cX3_init : ByteArray := prog_5_method_1_code
def yX3_init : MethodName := ⟨RX3, "<init>", "(LWalkTheDike$Dike;LWalkTheDike$Walk;LWalkTheDike$Chances;)V"⟩
abbrev cX3_go : ByteArray := prog_5_method_2_code
def yX3_go : MethodName := ⟨RX3, "go", "(I)V"⟩
abbrev cX3_grow : ByteArray := prog_5_method_3_code
def yX3_grow : MethodName := ⟨RX3, "grow", "(II)V"⟩
abbrev cX3_look : ByteArray := prog_5_method_4_code
def yX3_look : MethodName := ⟨RX3, "look", "(III)V"⟩
abbrev cX3_nextLot : ByteArray := prog_5_method_5_code
def yX3_nextLot : MethodName := ⟨RX3, "nextLot", "()J"⟩
def RX4 : String := "WalkTheDike$Image"
def TX4 : u_T := fun k => match k with
  | 0 => ("WalkTheDike$Image", "dike", "LWalkTheDike$Dike;", true)
  | 1 => ("WalkTheDike$Image", "pace", "[I", true)
  | 2 => ("WalkTheDike$Image", "men", "I", false)
  | 3 => ("WalkTheDike$Image", "law", "I", false)
  | _ => ("WalkTheDike$Image", "is", "Z", false)
def tyX4 : Nat → FieldType := fun k => match k with
  | 0 => .object "WalkTheDike$Dike"
  | 1 => .array .int
  | 2 => .int
  | 3 => .int
  | _ => .boolean
abbrev wsX40 : List Cond := u_ws RX4 TX4 5
theorem nmX4 : ∀ a, a < 5 → ∀ b, b < 5 → a ≠ b → (TX4 a).2.1 ≠ (TX4 b).2.1 := by decide +kernel
theorem tyX4_ok : ∀ k, k < 5 → parseFieldDescriptor (TX4 k).2.2.1 = some (tyX4 k) := by decide +kernel
abbrev cX4_init : ByteArray := prog_6_method_1_code
def yX4_init : MethodName := ⟨RX4, "<init>", "()V"⟩
def RX5 : String := "WalkTheDike$Men"
def TX5 : u_T := fun k => match k with
  | 0 => ("WalkTheDike$Men", "kind", "[I", true)
  | 1 => ("WalkTheDike$Men", "post", "[I", true)
  | 2 => ("WalkTheDike$Men", "end", "[I", true)
  | 3 => ("WalkTheDike$Men", "pace", "[I", true)
  | 4 => ("WalkTheDike$Men", "more", "[I", true)
  | 5 => ("WalkTheDike$Men", "told", "[I", true)
  | _ => ("WalkTheDike$Men", "count", "I", false)
def tyX5 : Nat → FieldType := fun k => match k with
  | 0 => .array .int
  | 1 => .array .int
  | 2 => .array .int
  | 3 => .array .int
  | 4 => .array .int
  | 5 => .array .int
  | _ => .int
abbrev wsX50 : List Cond := u_ws RX5 TX5 7
theorem nmX5 : ∀ a, a < 7 → ∀ b, b < 7 → a ≠ b → (TX5 a).2.1 ≠ (TX5 b).2.1 := by decide +kernel
theorem tyX5_ok : ∀ k, k < 7 → parseFieldDescriptor (TX5 k).2.2.1 = some (tyX5 k) := by decide +kernel
abbrev cX5_init : ByteArray := prog_7_method_1_code
def yX5_init : MethodName := ⟨RX5, "<init>", "()V"⟩
abbrev cX5_has : ByteArray := prog_7_method_2_code
def yX5_has : MethodName := ⟨RX5, "has", "(I)Z"⟩
abbrev cX5_add : ByteArray := prog_7_method_3_code
def yX5_add : MethodName := ⟨RX5, "add", "(III)I"⟩
abbrev cX5_awake : ByteArray := prog_7_method_4_code
def yX5_awake : MethodName := ⟨RX5, "awake", "(II)Z"⟩
abbrev cX5_hasOf : ByteArray := prog_7_method_5_code
def yX5_hasOf : MethodName := ⟨RX5, "hasOf", "(II)Z"⟩
def RX6 : String := "WalkTheDike$Reckoning"
def TX6 : u_T := fun k => match k with
  | 0 => ("WalkTheDike$Reckoning", "dike", "LWalkTheDike$Dike;", true)
  | 1 => ("WalkTheDike$Reckoning", "walk", "LWalkTheDike$Walk;", true)
  | 2 => ("WalkTheDike$Reckoning", "chances", "LWalkTheDike$Chances;", true)
  | 3 => ("WalkTheDike$Reckoning", "parts", "[J", true)
  | 4 => ("WalkTheDike$Reckoning", "harm", "J", false)
  | _ => ("WalkTheDike$Reckoning", "found", "J", false)
def tyX6 : Nat → FieldType := fun k => match k with
  | 0 => .object "WalkTheDike$Dike"
  | 1 => .object "WalkTheDike$Walk"
  | 2 => .object "WalkTheDike$Chances"
  | 3 => .array .long
  | 4 => .long
  | _ => .long
abbrev wsX60 : List Cond := u_ws RX6 TX6 6
theorem nmX6 : ∀ a, a < 6 → ∀ b, b < 6 → a ≠ b → (TX6 a).2.1 ≠ (TX6 b).2.1 := by decide +kernel
theorem tyX6_ok : ∀ k, k < 6 → parseFieldDescriptor (TX6 k).2.2.1 = some (tyX6 k) := by decide +kernel
abbrev cX6_init : ByteArray := prog_8_method_1_code
def yX6_init : MethodName := ⟨RX6, "<init>", "(LWalkTheDike$Dike;LWalkTheDike$Walk;LWalkTheDike$Chances;)V"⟩
abbrev cX6_told : ByteArray := prog_8_method_2_code
def yX6_told : MethodName := ⟨RX6, "told", "(I)J"⟩
abbrev cX6_reckon : ByteArray := prog_8_method_3_code
def yX6_reckon : MethodName := ⟨RX6, "reckon", "(II)V"⟩
abbrev cX6_grow : ByteArray := prog_8_method_4_code
def yX6_grow : MethodName := ⟨RX6, "grow", "(II)V"⟩
abbrev cX6_look : ByteArray := prog_8_method_5_code
def yX6_look : MethodName := ⟨RX6, "look", "(III)V"⟩
def RX7 : String := "WalkTheDike$Sheets"
def TX7 : u_T := fun k => match k with
  | 0 => ("WalkTheDike$Sheets", "sort", "[I", true)
  | 1 => ("WalkTheDike$Sheets", "size", "[I", true)
  | _ => ("WalkTheDike$Sheets", "cells", "[I", true)
def tyX7 : Nat → FieldType := fun k => match k with
  | 0 => .array .int
  | 1 => .array .int
  | _ => .array .int
abbrev wsX70 : List Cond := u_ws RX7 TX7 3
theorem nmX7 : ∀ a, a < 3 → ∀ b, b < 3 → a ≠ b → (TX7 a).2.1 ≠ (TX7 b).2.1 := by decide +kernel
theorem tyX7_ok : ∀ k, k < 3 → parseFieldDescriptor (TX7 k).2.2.1 = some (tyX7 k) := by decide +kernel
abbrev cX7_init : ByteArray := prog_9_method_1_code
def yX7_init : MethodName := ⟨RX7, "<init>", "()V"⟩
abbrev cX7_has : ByteArray := prog_9_method_2_code
def yX7_has : MethodName := ⟨RX7, "has", "(I)Z"⟩
abbrev cX7_holds : ByteArray := prog_9_method_3_code
def yX7_holds : MethodName := ⟨RX7, "holds", "(II)Z"⟩
abbrev cX7_at : ByteArray := prog_9_method_4_code
def yX7_at : MethodName := ⟨RX7, "at", "(II)I"⟩
abbrev cX7_renew : ByteArray := prog_9_method_5_code
def yX7_renew : MethodName := ⟨RX7, "renew", "(III)V"⟩
def RX8 : String := "WalkTheDike$Tape"
def TX8 : u_T := fun k => match k with
  | 0 => ("WalkTheDike$Tape", "texts", "LWalkTheDike$Texts;", true)
  | 1 => ("WalkTheDike$Tape", "bytes", "[I", true)
  | 2 => ("WalkTheDike$Tape", "size", "I", false)
  | 3 => ("WalkTheDike$Tape", "token", "I", false)
  | 4 => ("WalkTheDike$Tape", "number", "I", false)
  | 5 => ("WalkTheDike$Tape", "place", "I", false)
  | 6 => ("WalkTheDike$Tape", "behind", "I", false)
  | _ => ("WalkTheDike$Tape", "done", "I", false)
def tyX8 : Nat → FieldType := fun k => match k with
  | 0 => .object "WalkTheDike$Texts"
  | 1 => .array .int
  | 2 => .int
  | 3 => .int
  | 4 => .int
  | 5 => .int
  | 6 => .int
  | _ => .int
abbrev wsX80 : List Cond := u_ws RX8 TX8 8
theorem nmX8 : ∀ a, a < 8 → ∀ b, b < 8 → a ≠ b → (TX8 a).2.1 ≠ (TX8 b).2.1 := by decide +kernel
theorem tyX8_ok : ∀ k, k < 8 → parseFieldDescriptor (TX8 k).2.2.1 = some (tyX8 k) := by decide +kernel
abbrev cX8_init : ByteArray := prog_10_method_1_code
def yX8_init : MethodName := ⟨RX8, "<init>", "(LWalkTheDike$Texts;)V"⟩
abbrev cX8_add : ByteArray := prog_10_method_2_code
def yX8_add : MethodName := ⟨RX8, "add", "(I)V"⟩
abbrev cX8_at : ByteArray := prog_10_method_3_code
def yX8_at : MethodName := ⟨RX8, "at", "(I)I"⟩
abbrev cX8_read : ByteArray := prog_10_method_4_code
def yX8_read : MethodName := ⟨RX8, "read", "()I"⟩
abbrev cX8_either : ByteArray := prog_10_method_5_code
def yX8_either : MethodName := ⟨RX8, "either", "(I)Z"⟩
abbrev cX8_both : ByteArray := prog_10_method_6_code
def yX8_both : MethodName := ⟨RX8, "both", "(I)Z"⟩
abbrev cX8_negation : ByteArray := prog_10_method_7_code
def yX8_negation : MethodName := ⟨RX8, "negation", "(I)Z"⟩
abbrev cX8_comparison : ByteArray := prog_10_method_8_code
def yX8_comparison : MethodName := ⟨RX8, "comparison", "(I)Z"⟩
abbrev cX8_sum : ByteArray := prog_10_method_9_code
def yX8_sum : MethodName := ⟨RX8, "sum", "(I)Z"⟩
abbrev cX8_term : ByteArray := prog_10_method_10_code
def yX8_term : MethodName := ⟨RX8, "term", "(I)Z"⟩
abbrev cX8_one : ByteArray := prog_10_method_11_code
def yX8_one : MethodName := ⟨RX8, "one", "(I)Z"⟩
abbrev cX8_put : ByteArray := prog_10_method_12_code
def yX8_put : MethodName := ⟨RX8, "put", "(I)V"⟩
abbrev cX8_advance : ByteArray := prog_10_method_13_code
def yX8_advance : MethodName := ⟨RX8, "advance", "()V"⟩
abbrev cX8_numberToken : ByteArray := prog_10_method_14_code
def yX8_numberToken : MethodName := ⟨RX8, "numberToken", "()I"⟩
abbrev cX8_wordToken : ByteArray := prog_10_method_15_code
def yX8_wordToken : MethodName := ⟨RX8, "wordToken", "()I"⟩
abbrev cX8_isLetter : ByteArray := prog_10_method_16_code
def yX8_isLetter : MethodName := ⟨RX8, "isLetter", "(I)Z"⟩
abbrev cX8_isDigit : ByteArray := prog_10_method_17_code
def yX8_isDigit : MethodName := ⟨RX8, "isDigit", "(I)Z"⟩
abbrev cX8_isSign : ByteArray := prog_10_method_18_code
def yX8_isSign : MethodName := ⟨RX8, "isSign", "(I)Z"⟩
def RX9 : String := "WalkTheDike$Texts"
def TX9 : u_T := fun k => match k with
  | 0 => ("WalkTheDike$Texts", "code", "[I", true)
  | 1 => ("WalkTheDike$Texts", "ends", "[I", true)
  | 2 => ("WalkTheDike$Texts", "count", "I", false)
  | 3 => ("WalkTheDike$Texts", "law", "I", false)
  | _ => ("WalkTheDike$Texts", "stack", "[I", true)
def tyX9 : Nat → FieldType := fun k => match k with
  | 0 => .array .int
  | 1 => .array .int
  | 2 => .int
  | 3 => .int
  | _ => .array .int
abbrev wsX90 : List Cond := u_ws RX9 TX9 5
theorem nmX9 : ∀ a, a < 5 → ∀ b, b < 5 → a ≠ b → (TX9 a).2.1 ≠ (TX9 b).2.1 := by decide +kernel
theorem tyX9_ok : ∀ k, k < 5 → parseFieldDescriptor (TX9 k).2.2.1 = some (tyX9 k) := by decide +kernel
abbrev cX9_init : ByteArray := prog_11_method_1_code
def yX9_init : MethodName := ⟨RX9, "<init>", "()V"⟩
abbrev cX9_valueOf : ByteArray := prog_11_method_2_code
def yX9_valueOf : MethodName := ⟨RX9, "valueOf", "(I[I)I"⟩
abbrev cX9_joined : ByteArray := prog_11_method_3_code
def yX9_joined : MethodName := ⟨RX9, "joined", "(III)I"⟩
abbrev cX9_truth : ByteArray := prog_11_method_4_code
def yX9_truth : MethodName := ⟨RX9, "truth", "(Z)I"⟩
def RX10 : String := "WalkTheDike$Walk"
def TX10 : u_T := fun k => match k with
  | 0 => ("WalkTheDike$Walk", "dike", "LWalkTheDike$Dike;", true)
  | 1 => ("WalkTheDike$Walk", "men", "LWalkTheDike$Men;", true)
  | 2 => ("WalkTheDike$Walk", "chances", "LWalkTheDike$Chances;", true)
  | 3 => ("WalkTheDike$Walk", "place", "[I", true)
  | 4 => ("WalkTheDike$Walk", "lookers", "[I", true)
  | 5 => ("WalkTheDike$Walk", "since", "[I", true)
  | 6 => ("WalkTheDike$Walk", "isBack", "[Z", true)
  | 7 => ("WalkTheDike$Walk", "blind", "I", false)
  | 8 => ("WalkTheDike$Walk", "put", "I", false)
  | 9 => ("WalkTheDike$Walk", "putHour", "I", false)
  | 10 => ("WalkTheDike$Walk", "putPiece", "I", false)
  | 11 => ("WalkTheDike$Walk", "morePiece", "I", false)
  | _ => ("WalkTheDike$Walk", "moreHour", "I", false)
def tyX10 : Nat → FieldType := fun k => match k with
  | 0 => .object "WalkTheDike$Dike"
  | 1 => .object "WalkTheDike$Men"
  | 2 => .object "WalkTheDike$Chances"
  | 3 => .array .int
  | 4 => .array .int
  | 5 => .array .int
  | 6 => .array .boolean
  | 7 => .int
  | 8 => .int
  | 9 => .int
  | 10 => .int
  | 11 => .int
  | _ => .int
abbrev wsX100 : List Cond := u_ws RX10 TX10 13
theorem nmX10 : ∀ a, a < 13 → ∀ b, b < 13 → a ≠ b → (TX10 a).2.1 ≠ (TX10 b).2.1 := by decide +kernel
theorem tyX10_ok : ∀ k, k < 13 → parseFieldDescriptor (TX10 k).2.2.1 = some (tyX10 k) := by decide +kernel
abbrev cX10_init : ByteArray := prog_12_method_1_code
def yX10_init : MethodName := ⟨RX10, "<init>", "(LWalkTheDike$Dike;LWalkTheDike$Men;LWalkTheDike$Chances;)V"⟩
abbrev cX10_lookedAt : ByteArray := prog_12_method_2_code
def yX10_lookedAt : MethodName := ⟨RX10, "lookedAt", "(II)Z"⟩
abbrev cX10_looksAt : ByteArray := prog_12_method_3_code
def yX10_looksAt : MethodName := ⟨RX10, "looksAt", "(III)Z"⟩
abbrev cX10_paceOf : ByteArray := prog_12_method_4_code
def yX10_paceOf : MethodName := ⟨RX10, "paceOf", "(I)I"⟩
abbrev cX10_sinceOf : ByteArray := prog_12_method_5_code
def yX10_sinceOf : MethodName := ⟨RX10, "sinceOf", "(II)I"⟩
abbrev cX10_placeOf : ByteArray := prog_12_method_6_code
def yX10_placeOf : MethodName := ⟨RX10, "placeOf", "(II)I"⟩
abbrev cX10_together : ByteArray := prog_12_method_7_code
def yX10_together : MethodName := ⟨RX10, "together", "(III)Z"⟩
abbrev cX10_go : ByteArray := prog_12_method_8_code
def yX10_go : MethodName := ⟨RX10, "go", "()V"⟩
abbrev cX10_othersAt : ByteArray := prog_12_method_9_code
def yX10_othersAt : MethodName := ⟨RX10, "othersAt", "(II)I"⟩
abbrev cX10_comes : ByteArray := prog_12_method_10_code
def yX10_comes : MethodName := ⟨RX10, "comes", "(II)I"⟩
abbrev cX10_towards : ByteArray := prog_12_method_11_code
def yX10_towards : MethodName := ⟨RX10, "towards", "(III)I"⟩
abbrev cX10_riskiest : ByteArray := prog_12_method_12_code
def yX10_riskiest : MethodName := ⟨RX10, "riskiest", "(III)I"⟩
def RX11 : String := "WalkTheDike"
def TX11 : u_T := fun k => match k with
  | 0 => ("WalkTheDike", "dike", "LWalkTheDike$Dike;", true)
  | 1 => ("WalkTheDike", "men", "LWalkTheDike$Men;", true)
  | 2 => ("WalkTheDike", "texts", "LWalkTheDike$Texts;", true)
  | 3 => ("WalkTheDike", "tape", "LWalkTheDike$Tape;", true)
  | 4 => ("WalkTheDike", "chances", "LWalkTheDike$Chances;", true)
  | 5 => ("WalkTheDike", "walk", "LWalkTheDike$Walk;", true)
  | 6 => ("WalkTheDike", "reckoning", "LWalkTheDike$Reckoning;", true)
  | 7 => ("WalkTheDike", "drawing", "LWalkTheDike$Drawing;", true)
  | 8 => ("WalkTheDike", "sheets", "LWalkTheDike$Sheets;", true)
  | 9 => ("WalkTheDike", "kept", "LWalkTheDike$Image;", true)
  | _ => ("WalkTheDike", "best", "LWalkTheDike$Best;", true)
def tyX11 : Nat → FieldType := fun k => match k with
  | 0 => .object "WalkTheDike$Dike"
  | 1 => .object "WalkTheDike$Men"
  | 2 => .object "WalkTheDike$Texts"
  | 3 => .object "WalkTheDike$Tape"
  | 4 => .object "WalkTheDike$Chances"
  | 5 => .object "WalkTheDike$Walk"
  | 6 => .object "WalkTheDike$Reckoning"
  | 7 => .object "WalkTheDike$Drawing"
  | 8 => .object "WalkTheDike$Sheets"
  | 9 => .object "WalkTheDike$Image"
  | _ => .object "WalkTheDike$Best"
abbrev wsX110 : List Cond := u_ws RX11 TX11 11
theorem nmX11 : ∀ a, a < 11 → ∀ b, b < 11 → a ≠ b → (TX11 a).2.1 ≠ (TX11 b).2.1 := by decide +kernel
theorem tyX11_ok : ∀ k, k < 11 → parseFieldDescriptor (TX11 k).2.2.1 = some (tyX11 k) := by decide +kernel
abbrev cX11_init : ByteArray := prog_1_method_1_code
def yX11_init : MethodName := ⟨RX11, "<init>", "()V"⟩
abbrev cX11_piece : ByteArray := prog_1_method_2_code
def yX11_piece : MethodName := ⟨RX11, "piece", "(II)I"⟩
abbrev cX11_set : ByteArray := prog_1_method_3_code
def yX11_set : MethodName := ⟨RX11, "set", "(III)I"⟩
abbrev cX11_night : ByteArray := prog_1_method_4_code
def yX11_night : MethodName := ⟨RX11, "night", "(II)I"⟩
abbrev cX11_water : ByteArray := prog_1_method_5_code
def yX11_water : MethodName := ⟨RX11, "water", "(II)I"⟩
abbrev cX11_count : ByteArray := prog_1_method_6_code
def yX11_count : MethodName := ⟨RX11, "count", "(I)I"⟩
abbrev cX11_feed : ByteArray := prog_1_method_7_code
def yX11_feed : MethodName := ⟨RX11, "feed", "(JI)I"⟩
abbrev cX11_text : ByteArray := prog_1_method_8_code
def yX11_text : MethodName := ⟨RX11, "text", "()I"⟩
abbrev cX11_force : ByteArray := prog_1_method_9_code
def yX11_force : MethodName := ⟨RX11, "force", "(I)I"⟩
abbrev cX11_asks : ByteArray := prog_1_method_10_code
def yX11_asks : MethodName := ⟨RX11, "asks", "(IIIII)I"⟩
abbrev cX11_man : ByteArray := prog_1_method_11_code
def yX11_man : MethodName := ⟨RX11, "man", "(IIII)I"⟩
abbrev cX11_pace : ByteArray := prog_1_method_12_code
def yX11_pace : MethodName := ⟨RX11, "pace", "(II)I"⟩
abbrev cX11_manTold : ByteArray := prog_1_method_13_code
def yX11_manTold : MethodName := ⟨RX11, "manTold", "(II)I"⟩
abbrev cX11_where : ByteArray := prog_1_method_14_code
def yX11_where : MethodName := ⟨RX11, "where", "(II)I"⟩
abbrev cX11_looked : ByteArray := prog_1_method_15_code
def yX11_looked : MethodName := ⟨RX11, "looked", "(I)I"⟩
abbrev cX11_often : ByteArray := prog_1_method_16_code
def yX11_often : MethodName := ⟨RX11, "often", "(II)I"⟩
abbrev cX11_meet : ByteArray := prog_1_method_17_code
def yX11_meet : MethodName := ⟨RX11, "meet", "(II)I"⟩
abbrev cX11_run : ByteArray := prog_1_method_18_code
def yX11_run : MethodName := ⟨RX11, "run", "(I)J"⟩
abbrev cX11_harm : ByteArray := prog_1_method_19_code
def yX11_harm : MethodName := ⟨RX11, "harm", "(II)J"⟩
abbrev cX11_state : ByteArray := prog_1_method_20_code
def yX11_state : MethodName := ⟨RX11, "state", "(III)J"⟩
abbrev cX11_worst : ByteArray := prog_1_method_21_code
def yX11_worst : MethodName := ⟨RX11, "worst", "()I"⟩
abbrev cX11_more : ByteArray := prog_1_method_22_code
def yX11_more : MethodName := ⟨RX11, "more", "(II)J"⟩
abbrev cX11_bestLook : ByteArray := prog_1_method_23_code
def yX11_bestLook : MethodName := ⟨RX11, "bestLook", "(I)J"⟩
abbrev cX11_lamp : ByteArray := prog_1_method_24_code
def yX11_lamp : MethodName := ⟨RX11, "lamp", "(II)I"⟩
abbrev cX11_ready : ByteArray := prog_1_method_25_code
def yX11_ready : MethodName := ⟨RX11, "ready", "(I)I"⟩
abbrev cX11_rounds : ByteArray := prog_1_method_26_code
def yX11_rounds : MethodName := ⟨RX11, "rounds", "(II)J"⟩
abbrev cX11_quick : ByteArray := prog_1_method_27_code
def yX11_quick : MethodName := ⟨RX11, "quick", "(I)I"⟩
abbrev cX11_next : ByteArray := prog_1_method_28_code
def yX11_next : MethodName := ⟨RX11, "next", "(III)J"⟩
abbrev cX11_spare : ByteArray := prog_1_method_29_code
def yX11_spare : MethodName := ⟨RX11, "spare", "()I"⟩
abbrev cX11_judge : ByteArray := prog_1_method_30_code
def yX11_judge : MethodName := ⟨RX11, "judge", "(II)I"⟩
abbrev cX11_sure : ByteArray := prog_1_method_31_code
def yX11_sure : MethodName := ⟨RX11, "sure", "(I)I"⟩
abbrev cX11_fewest : ByteArray := prog_1_method_32_code
def yX11_fewest : MethodName := ⟨RX11, "fewest", "(I)I"⟩
abbrev cX11_check : ByteArray := prog_1_method_33_code
def yX11_check : MethodName := ⟨RX11, "check", "(I)I"⟩
abbrev cX11_call : ByteArray := prog_1_method_34_code
def yX11_call : MethodName := ⟨RX11, "call", "(I)I"⟩
abbrev cX11_village : ByteArray := prog_1_method_35_code
def yX11_village : MethodName := ⟨RX11, "village", "(I)J"⟩
abbrev cX11_callWhen : ByteArray := prog_1_method_36_code
def yX11_callWhen : MethodName := ⟨RX11, "callWhen", "(I)I"⟩
abbrev cX11_trusts : ByteArray := prog_1_method_37_code
def yX11_trusts : MethodName := ⟨RX11, "trusts", "(II)I"⟩
abbrev cX11_places : ByteArray := prog_1_method_38_code
def yX11_places : MethodName := ⟨RX11, "places", "(I)I"⟩
abbrev cX11_learn : ByteArray := prog_1_method_39_code
def yX11_learn : MethodName := ⟨RX11, "learn", "(I)I"⟩
abbrev cX11_drawn : ByteArray := prog_1_method_40_code
def yX11_drawn : MethodName := ⟨RX11, "drawn", "(II)J"⟩
abbrev cX11_image : ByteArray := prog_1_method_41_code
def yX11_image : MethodName := ⟨RX11, "image", "()I"⟩
abbrev cX11_back : ByteArray := prog_1_method_42_code
def yX11_back : MethodName := ⟨RX11, "back", "()I"⟩
abbrev cX11_sheet : ByteArray := prog_1_method_43_code
def yX11_sheet : MethodName := ⟨RX11, "sheet", "(III)I"⟩
abbrev cX11_cell : ByteArray := prog_1_method_44_code
def yX11_cell : MethodName := ⟨RX11, "cell", "(III)I"⟩
abbrev cX11_copy : ByteArray := prog_1_method_45_code
def yX11_copy : MethodName := ⟨RX11, "copy", "(IIIII)I"⟩
abbrev cX11_piecesBy : ByteArray := prog_1_method_46_code
def yX11_piecesBy : MethodName := ⟨RX11, "piecesBy", "(IIII)I"⟩
abbrev cX11_taken : ByteArray := prog_1_method_47_code
def yX11_taken : MethodName := ⟨RX11, "taken", "(II)I"⟩
abbrev cX11_within : ByteArray := prog_1_method_48_code
def yX11_within : MethodName := ⟨RX11, "within", "(III)Z"⟩
abbrev cX11_allHarm : ByteArray := prog_1_method_49_code
def yX11_allHarm : MethodName := ⟨RX11, "allHarm", "()J"⟩
abbrev cX11_hoursLookedAt : ByteArray := prog_1_method_50_code
def yX11_hoursLookedAt : MethodName := ⟨RX11, "hoursLookedAt", "(I)I"⟩
abbrev cX11_longestNotLookedAt : ByteArray := prog_1_method_51_code
def yX11_longestNotLookedAt : MethodName := ⟨RX11, "longestNotLookedAt", "(I)I"⟩
abbrev cX11_rowRefused : ByteArray := prog_1_method_52_code
def yX11_rowRefused : MethodName := ⟨RX11, "rowRefused", "(III)I"⟩
abbrev cX11_holedOften : ByteArray := prog_1_method_53_code
def yX11_holedOften : MethodName := ⟨RX11, "holedOften", "(I)I"⟩
def RX12 : String := "WalkTheDikeModel"
def TX12 : u_T := fun k => match k with
  | 0 => ("WalkTheDikeModel", "hours", "I", false)
  | 1 => ("WalkTheDikeModel", "breaks", "I", false)
  | 2 => ("WalkTheDikeModel", "blows", "I", false)
  | 3 => ("WalkTheDikeModel", "trust", "I", false)
  | 4 => ("WalkTheDikeModel", "comes", "I", false)
  | 5 => ("WalkTheDikeModel", "called", "I", false)
  | 6 => ("WalkTheDikeModel", "waters", "[I", true)
  | 7 => ("WalkTheDikeModel", "pieces", "I", false)
  | 8 => ("WalkTheDikeModel", "old", "[I", true)
  | 9 => ("WalkTheDikeModel", "prized", "[I", true)
  | 10 => ("WalkTheDikeModel", "sacks", "[I", true)
  | 11 => ("WalkTheDikeModel", "lamps", "[I", true)
  | 12 => ("WalkTheDikeModel", "men", "I", false)
  | 13 => ("WalkTheDikeModel", "kind", "[I", true)
  | 14 => ("WalkTheDikeModel", "post", "[I", true)
  | 15 => ("WalkTheDikeModel", "endOf", "[I", true)
  | 16 => ("WalkTheDikeModel", "paces", "[I", true)
  | 17 => ("WalkTheDikeModel", "more", "[I", true)
  | 18 => ("WalkTheDikeModel", "told", "[I", true)
  | 19 => ("WalkTheDikeModel", "tape", "[I", true)
  | 20 => ("WalkTheDikeModel", "taped", "I", false)
  | 21 => ("WalkTheDikeModel", "codes", "[I", true)
  | 22 => ("WalkTheDikeModel", "starts", "[I", true)
  | 23 => ("WalkTheDikeModel", "texts", "I", false)
  | 24 => ("WalkTheDikeModel", "rule", "I", false)
  | 25 => ("WalkTheDikeModel", "moreAt", "I", false)
  | 26 => ("WalkTheDikeModel", "moreHour", "I", false)
  | 27 => ("WalkTheDikeModel", "setMan", "I", false)
  | 28 => ("WalkTheDikeModel", "setHour", "I", false)
  | 29 => ("WalkTheDikeModel", "setAt", "I", false)
  | 30 => ("WalkTheDikeModel", "blind", "I", false)
  | 31 => ("WalkTheDikeModel", "hasImage", "Z", false)
  | 32 => ("WalkTheDikeModel", "imagePieces", "I", false)
  | 33 => ("WalkTheDikeModel", "imageMen", "I", false)
  | 34 => ("WalkTheDikeModel", "imageHours", "I", false)
  | 35 => ("WalkTheDikeModel", "imageBreaks", "I", false)
  | 36 => ("WalkTheDikeModel", "imageBlows", "I", false)
  | 37 => ("WalkTheDikeModel", "imageTrust", "I", false)
  | 38 => ("WalkTheDikeModel", "imageComes", "I", false)
  | 39 => ("WalkTheDikeModel", "imageCalled", "I", false)
  | 40 => ("WalkTheDikeModel", "imageRule", "I", false)
  | 41 => ("WalkTheDikeModel", "imageWaters", "[I", true)
  | 42 => ("WalkTheDikeModel", "imageOld", "[I", true)
  | 43 => ("WalkTheDikeModel", "imageValue", "[I", true)
  | 44 => ("WalkTheDikeModel", "imageSacks", "[I", true)
  | 45 => ("WalkTheDikeModel", "imageLamps", "[I", true)
  | 46 => ("WalkTheDikeModel", "imagePaces", "[I", true)
  | 47 => ("WalkTheDikeModel", "sheetSort", "[I", true)
  | 48 => ("WalkTheDikeModel", "sheetSize", "[I", true)
  | 49 => ("WalkTheDikeModel", "cells", "[I", true)
  | 50 => ("WalkTheDikeModel", "at", "I", false)
  | 51 => ("WalkTheDikeModel", "begun", "I", false)
  | 52 => ("WalkTheDikeModel", "token", "I", false)
  | 53 => ("WalkTheDikeModel", "value", "I", false)
  | 54 => ("WalkTheDikeModel", "words", "[J", true)
  | 55 => ("WalkTheDikeModel", "held", "[I", true)
  | 56 => ("WalkTheDikeModel", "heldMany", "I", false)
  | 57 => ("WalkTheDikeModel", "opens", "I", false)
  | 58 => ("WalkTheDikeModel", "out", "I", false)
  | 59 => ("WalkTheDikeModel", "stack", "[I", true)
  | 60 => ("WalkTheDikeModel", "named", "[I", true)
  | 61 => ("WalkTheDikeModel", "whereAt", "[I", true)
  | 62 => ("WalkTheDikeModel", "lookedAt", "[I", true)
  | 63 => ("WalkTheDikeModel", "since", "[I", true)
  | 64 => ("WalkTheDikeModel", "isBack", "[Z", true)
  | 65 => ("WalkTheDikeModel", "parts", "[J", true)
  | 66 => ("WalkTheDikeModel", "harmed", "J", false)
  | 67 => ("WalkTheDikeModel", "found", "J", false)
  | 68 => ("WalkTheDikeModel", "lot", "J", false)
  | 69 => ("WalkTheDikeModel", "holes", "[I", true)
  | 70 => ("WalkTheDikeModel", "drawnHarm", "J", false)
  | _ => ("WalkTheDikeModel", "drawnFound", "I", false)
def tyX12 : Nat → FieldType := fun k => match k with
  | 0 => .int
  | 1 => .int
  | 2 => .int
  | 3 => .int
  | 4 => .int
  | 5 => .int
  | 6 => .array .int
  | 7 => .int
  | 8 => .array .int
  | 9 => .array .int
  | 10 => .array .int
  | 11 => .array .int
  | 12 => .int
  | 13 => .array .int
  | 14 => .array .int
  | 15 => .array .int
  | 16 => .array .int
  | 17 => .array .int
  | 18 => .array .int
  | 19 => .array .int
  | 20 => .int
  | 21 => .array .int
  | 22 => .array .int
  | 23 => .int
  | 24 => .int
  | 25 => .int
  | 26 => .int
  | 27 => .int
  | 28 => .int
  | 29 => .int
  | 30 => .int
  | 31 => .boolean
  | 32 => .int
  | 33 => .int
  | 34 => .int
  | 35 => .int
  | 36 => .int
  | 37 => .int
  | 38 => .int
  | 39 => .int
  | 40 => .int
  | 41 => .array .int
  | 42 => .array .int
  | 43 => .array .int
  | 44 => .array .int
  | 45 => .array .int
  | 46 => .array .int
  | 47 => .array .int
  | 48 => .array .int
  | 49 => .array .int
  | 50 => .int
  | 51 => .int
  | 52 => .int
  | 53 => .int
  | 54 => .array .long
  | 55 => .array .int
  | 56 => .int
  | 57 => .int
  | 58 => .int
  | 59 => .array .int
  | 60 => .array .int
  | 61 => .array .int
  | 62 => .array .int
  | 63 => .array .int
  | 64 => .array .boolean
  | 65 => .array .long
  | 66 => .long
  | 67 => .long
  | 68 => .long
  | 69 => .array .int
  | 70 => .long
  | _ => .int
abbrev wsX120 : List Cond := u_ws RX12 TX12 72
theorem nmX12 : ∀ a, a < 72 → ∀ b, b < 72 → a ≠ b → (TX12 a).2.1 ≠ (TX12 b).2.1 := by decide +kernel
theorem tyX12_ok : ∀ k, k < 72 → parseFieldDescriptor (TX12 k).2.2.1 = some (tyX12 k) := by decide +kernel
abbrev cX12_init : ByteArray := prog_14_method_1_code
def yX12_init : MethodName := ⟨RX12, "<init>", "()V"⟩
abbrev cX12_first : ByteArray := prog_14_method_2_code
def yX12_first : MethodName := ⟨RX12, "first", "(IIIII)V"⟩
abbrev cX12_in : ByteArray := prog_14_method_4_code
def yX12_in : MethodName := ⟨RX12, "in", "(III)Z"⟩
abbrev cX12_isPiece : ByteArray := prog_14_method_5_code
def yX12_isPiece : MethodName := ⟨RX12, "isPiece", "(I)Z"⟩
abbrev cX12_isMan : ByteArray := prog_14_method_6_code
def yX12_isMan : MethodName := ⟨RX12, "isMan", "(I)Z"⟩
abbrev cX12_isHour : ByteArray := prog_14_method_7_code
def yX12_isHour : MethodName := ⟨RX12, "isHour", "(I)Z"⟩
abbrev cX12_piece : ByteArray := prog_14_method_8_code
def yX12_piece : MethodName := ⟨RX12, "piece", "(II)I"⟩
abbrev cX12_set : ByteArray := prog_14_method_9_code
def yX12_set : MethodName := ⟨RX12, "set", "(III)I"⟩
abbrev cX12_night : ByteArray := prog_14_method_10_code
def yX12_night : MethodName := ⟨RX12, "night", "(II)I"⟩
abbrev cX12_water : ByteArray := prog_14_method_11_code
def yX12_water : MethodName := ⟨RX12, "water", "(II)I"⟩
abbrev cX12_count : ByteArray := prog_14_method_12_code
def yX12_count : MethodName := ⟨RX12, "count", "(I)I"⟩
abbrev cX12_feed : ByteArray := prog_14_method_13_code
def yX12_feed : MethodName := ⟨RX12, "feed", "(JI)I"⟩
abbrev cX12_letters : ByteArray := prog_14_method_14_code
def yX12_letters : MethodName := ⟨RX12, "letters", "()J"⟩
abbrev cX12_next : ByteArray := prog_14_method_15_code
def yX12_next : MethodName := ⟨RX12, "next", "()V"⟩
abbrev cX12_rank : ByteArray := prog_14_method_16_code
def yX12_rank : MethodName := ⟨RX12, "rank", "(I)I"⟩
abbrev cX12_puts : ByteArray := prog_14_method_17_code
def yX12_puts : MethodName := ⟨RX12, "puts", "(I)V"⟩
abbrev cX12_unwinds : ByteArray := prog_14_method_18_code
def yX12_unwinds : MethodName := ⟨RX12, "unwinds", "(I)V"⟩
abbrev cX12_holds : ByteArray := prog_14_method_19_code
def yX12_holds : MethodName := ⟨RX12, "holds", "(I)V"⟩
abbrev cX12_opensOne : ByteArray := prog_14_method_20_code
def yX12_opensOne : MethodName := ⟨RX12, "opensOne", "(I)Z"⟩
abbrev cX12_between : ByteArray := prog_14_method_21_code
def yX12_between : MethodName := ⟨RX12, "between", "(I)Z"⟩
abbrev cX12_signOf : ByteArray := prog_14_method_22_code
def yX12_signOf : MethodName := ⟨RX12, "signOf", "()I"⟩
abbrev cX12_eRead : ByteArray := prog_14_method_23_code
def yX12_eRead : MethodName := ⟨RX12, "eRead", "()Z"⟩
abbrev cX12_text : ByteArray := prog_14_method_24_code
def yX12_text : MethodName := ⟨RX12, "text", "()I"⟩
abbrev cX12_two : ByteArray := prog_14_method_25_code
def yX12_two : MethodName := ⟨RX12, "two", "(III)I"⟩
abbrev cX12_worth : ByteArray := prog_14_method_26_code
def yX12_worth : MethodName := ⟨RX12, "worth", "(I)I"⟩
abbrev cX12_force : ByteArray := prog_14_method_27_code
def yX12_force : MethodName := ⟨RX12, "force", "(I)I"⟩
abbrev cX12_says : ByteArray := prog_14_method_28_code
def yX12_says : MethodName := ⟨RX12, "says", "(IIIII)I"⟩
abbrev cX12_asks : ByteArray := prog_14_method_29_code
def yX12_asks : MethodName := ⟨RX12, "asks", "(IIIII)I"⟩
abbrev cX12_man : ByteArray := prog_14_method_30_code
def yX12_man : MethodName := ⟨RX12, "man", "(IIII)I"⟩
abbrev cX12_pace : ByteArray := prog_14_method_31_code
def yX12_pace : MethodName := ⟨RX12, "pace", "(II)I"⟩
abbrev cX12_manTold : ByteArray := prog_14_method_32_code
def yX12_manTold : MethodName := ⟨RX12, "manTold", "(II)I"⟩
abbrev cX12_towards : ByteArray := prog_14_method_33_code
def yX12_towards : MethodName := ⟨RX12, "towards", "(III)I"⟩
abbrev cX12_doesLook : ByteArray := prog_14_method_34_code
def yX12_doesLook : MethodName := ⟨RX12, "doesLook", "(II)Z"⟩
abbrev cX12_danger : ByteArray := prog_14_method_35_code
def yX12_danger : MethodName := ⟨RX12, "danger", "(II)J"⟩
abbrev cX12_byRisk : ByteArray := prog_14_method_36_code
def yX12_byRisk : MethodName := ⟨RX12, "byRisk", "(II)I"⟩
abbrev cX12_goesTo : ByteArray := prog_14_method_37_code
def yX12_goesTo : MethodName := ⟨RX12, "goesTo", "(II)I"⟩
abbrev cX12_isVillage : ByteArray := prog_14_method_38_code
def yX12_isVillage : MethodName := ⟨RX12, "isVillage", "(II)Z"⟩
abbrev cX12_turns : ByteArray := prog_14_method_39_code
def yX12_turns : MethodName := ⟨RX12, "turns", "(II)V"⟩
abbrev cX12_looks : ByteArray := prog_14_method_40_code
def yX12_looks : MethodName := ⟨RX12, "looks", "(I)V"⟩
abbrev cX12_walk : ByteArray := prog_14_method_41_code
def yX12_walk : MethodName := ⟨RX12, "walk", "()V"⟩
abbrev cX12_where : ByteArray := prog_14_method_42_code
def yX12_where : MethodName := ⟨RX12, "where", "(II)I"⟩
abbrev cX12_looked : ByteArray := prog_14_method_43_code
def yX12_looked : MethodName := ⟨RX12, "looked", "(I)I"⟩
abbrev cX12_rowWithout : ByteArray := prog_14_method_44_code
def yX12_rowWithout : MethodName := ⟨RX12, "rowWithout", "(I)I"⟩
abbrev cX12_often : ByteArray := prog_14_method_45_code
def yX12_often : MethodName := ⟨RX12, "often", "(II)I"⟩
abbrev cX12_meet : ByteArray := prog_14_method_46_code
def yX12_meet : MethodName := ⟨RX12, "meet", "(II)I"⟩
abbrev cX12_lookBy : ByteArray := prog_14_method_47_code
def yX12_lookBy : MethodName := ⟨RX12, "lookBy", "(III)V"⟩
abbrev cX12_reckons : ByteArray := prog_14_method_48_code
def yX12_reckons : MethodName := ⟨RX12, "reckons", "(II)V"⟩
abbrev cX12_runAll : ByteArray := prog_14_method_49_code
def yX12_runAll : MethodName := ⟨RX12, "runAll", "(I)J"⟩
abbrev cX12_run : ByteArray := prog_14_method_50_code
def yX12_run : MethodName := ⟨RX12, "run", "(I)J"⟩
abbrev cX12_harm : ByteArray := prog_14_method_51_code
def yX12_harm : MethodName := ⟨RX12, "harm", "(II)J"⟩
abbrev cX12_state : ByteArray := prog_14_method_52_code
def yX12_state : MethodName := ⟨RX12, "state", "(III)J"⟩
abbrev cX12_worst : ByteArray := prog_14_method_53_code
def yX12_worst : MethodName := ⟨RX12, "worst", "()I"⟩
abbrev cX12_withLook : ByteArray := prog_14_method_54_code
def yX12_withLook : MethodName := ⟨RX12, "withLook", "(II)J"⟩
abbrev cX12_more : ByteArray := prog_14_method_55_code
def yX12_more : MethodName := ⟨RX12, "more", "(II)J"⟩
abbrev cX12_bestLook : ByteArray := prog_14_method_56_code
def yX12_bestLook : MethodName := ⟨RX12, "bestLook", "(I)J"⟩
abbrev cX12_lamp : ByteArray := prog_14_method_57_code
def yX12_lamp : MethodName := ⟨RX12, "lamp", "(II)I"⟩
abbrev cX12_ready : ByteArray := prog_14_method_58_code
def yX12_ready : MethodName := ⟨RX12, "ready", "(I)I"⟩
abbrev cX12_rounds : ByteArray := prog_14_method_59_code
def yX12_rounds : MethodName := ⟨RX12, "rounds", "(II)J"⟩
abbrev cX12_quick : ByteArray := prog_14_method_60_code
def yX12_quick : MethodName := ⟨RX12, "quick", "(I)I"⟩
abbrev cX12_next_ : ByteArray := prog_14_method_61_code
def yX12_next_ : MethodName := ⟨RX12, "next", "(III)J"⟩
abbrev cX12_spare : ByteArray := prog_14_method_62_code
def yX12_spare : MethodName := ⟨RX12, "spare", "()I"⟩
abbrev cX12_judge : ByteArray := prog_14_method_63_code
def yX12_judge : MethodName := ⟨RX12, "judge", "(II)I"⟩
abbrev cX12_sure : ByteArray := prog_14_method_64_code
def yX12_sure : MethodName := ⟨RX12, "sure", "(I)I"⟩
abbrev cX12_fewest : ByteArray := prog_14_method_65_code
def yX12_fewest : MethodName := ⟨RX12, "fewest", "(I)I"⟩
abbrev cX12_check : ByteArray := prog_14_method_66_code
def yX12_check : MethodName := ⟨RX12, "check", "(I)I"⟩
abbrev cX12_call : ByteArray := prog_14_method_67_code
def yX12_call : MethodName := ⟨RX12, "call", "(I)I"⟩
abbrev cX12_calledIn : ByteArray := prog_14_method_68_code
def yX12_calledIn : MethodName := ⟨RX12, "calledIn", "(I)J"⟩
abbrev cX12_village : ByteArray := prog_14_method_69_code
def yX12_village : MethodName := ⟨RX12, "village", "(I)J"⟩
abbrev cX12_callWhen : ByteArray := prog_14_method_70_code
def yX12_callWhen : MethodName := ⟨RX12, "callWhen", "(I)I"⟩
abbrev cX12_isLittle : ByteArray := prog_14_method_71_code
def yX12_isLittle : MethodName := ⟨RX12, "isLittle", "(III)Z"⟩
abbrev cX12_trusts : ByteArray := prog_14_method_72_code
def yX12_trusts : MethodName := ⟨RX12, "trusts", "(II)I"⟩
abbrev cX12_placesBy : ByteArray := prog_14_method_73_code
def yX12_placesBy : MethodName := ⟨RX12, "placesBy", "(I)I"⟩
abbrev cX12_holesWrong : ByteArray := prog_14_method_74_code
def yX12_holesWrong : MethodName := ⟨RX12, "holesWrong", "(I)I"⟩
abbrev cX12_places : ByteArray := prog_14_method_75_code
def yX12_places : MethodName := ⟨RX12, "places", "(I)I"⟩
abbrev cX12_learn : ByteArray := prog_14_method_76_code
def yX12_learn : MethodName := ⟨RX12, "learn", "(I)I"⟩
abbrev cX12_draws : ByteArray := prog_14_method_77_code
def yX12_draws : MethodName := ⟨RX12, "draws", "(I)I"⟩
abbrev cX12_lookDrawn : ByteArray := prog_14_method_78_code
def yX12_lookDrawn : MethodName := ⟨RX12, "lookDrawn", "(III)V"⟩
abbrev cX12_drawsHour : ByteArray := prog_14_method_79_code
def yX12_drawsHour : MethodName := ⟨RX12, "drawsHour", "(II)V"⟩
abbrev cX12_drawn : ByteArray := prog_14_method_80_code
def yX12_drawn : MethodName := ⟨RX12, "drawn", "(II)J"⟩
abbrev cX12_image : ByteArray := prog_14_method_81_code
def yX12_image : MethodName := ⟨RX12, "image", "()I"⟩
abbrev cX12_back : ByteArray := prog_14_method_82_code
def yX12_back : MethodName := ⟨RX12, "back", "()I"⟩
abbrev cX12_sheet : ByteArray := prog_14_method_83_code
def yX12_sheet : MethodName := ⟨RX12, "sheet", "(III)I"⟩
abbrev cX12_cell : ByteArray := prog_14_method_84_code
def yX12_cell : MethodName := ⟨RX12, "cell", "(III)I"⟩
abbrev cX12_copy : ByteArray := prog_14_method_85_code
def yX12_copy : MethodName := ⟨RX12, "copy", "(IIIII)I"⟩
abbrev cX12_piecesBy : ByteArray := prog_14_method_86_code
def yX12_piecesBy : MethodName := ⟨RX12, "piecesBy", "(IIII)I"⟩
abbrev cX12_isUnder : ByteArray := prog_14_method_87_code
def yX12_isUnder : MethodName := ⟨RX12, "isUnder", "(II)Z"⟩
abbrev cX12_taken : ByteArray := prog_14_method_88_code
def yX12_taken : MethodName := ⟨RX12, "taken", "(II)I"⟩
def RJx145de : String := "java/io/Serializable"
def TJx145de : u_T := fun k => match k with
  | _ => ("", "", "", false)
def tyJx145de : Nat → FieldType := fun k => match k with
  | _ => .int
abbrev wsJx145de0 : List Cond := u_ws RJx145de TJx145de 0
theorem nmJx145de : ∀ a, a < 0 → ∀ b, b < 0 → a ≠ b → (TJx145de a).2.1 ≠ (TJx145de b).2.1 := by decide +kernel
theorem tyJx145de_ok : ∀ k, k < 0 → parseFieldDescriptor (TJx145de k).2.2.1 = some (tyJx145de k) := by decide +kernel
def RJx9f9b0 : String := "java/lang/CharSequence"
def TJx9f9b0 : u_T := fun k => match k with
  | _ => ("", "", "", false)
def tyJx9f9b0 : Nat → FieldType := fun k => match k with
  | _ => .int
abbrev wsJx9f9b00 : List Cond := u_ws RJx9f9b0 TJx9f9b0 0
theorem nmJx9f9b0 : ∀ a, a < 0 → ∀ b, b < 0 → a ≠ b → (TJx9f9b0 a).2.1 ≠ (TJx9f9b0 b).2.1 := by decide +kernel
theorem tyJx9f9b0_ok : ∀ k, k < 0 → parseFieldDescriptor (TJx9f9b0 k).2.2.1 = some (tyJx9f9b0 k) := by decide +kernel
def RJxb160c : String := "java/lang/Comparable"
def TJxb160c : u_T := fun k => match k with
  | _ => ("", "", "", false)
def tyJxb160c : Nat → FieldType := fun k => match k with
  | _ => .int
abbrev wsJxb160c0 : List Cond := u_ws RJxb160c TJxb160c 0
theorem nmJxb160c : ∀ a, a < 0 → ∀ b, b < 0 → a ≠ b → (TJxb160c a).2.1 ≠ (TJxb160c b).2.1 := by decide +kernel
theorem tyJxb160c_ok : ∀ k, k < 0 → parseFieldDescriptor (TJxb160c k).2.2.1 = some (tyJxb160c k) := by decide +kernel
def RJ9 : String := "java/lang/Math"
def TJ9 : u_T := fun k => match k with
  | _ => ("", "", "", false)
def tyJ9 : Nat → FieldType := fun k => match k with
  | _ => .int
abbrev wsJ90 : List Cond := u_ws RJ9 TJ9 0
theorem nmJ9 : ∀ a, a < 0 → ∀ b, b < 0 → a ≠ b → (TJ9 a).2.1 ≠ (TJ9 b).2.1 := by decide +kernel
theorem tyJ9_ok : ∀ k, k < 0 → parseFieldDescriptor (TJ9 k).2.2.1 = some (tyJ9 k) := by decide +kernel
abbrev cJ9_abs_0f7a4 : ByteArray := prog_15_method_59_code
def yJ9_abs_0f7a4 : MethodName := ⟨RJ9, "abs", "(I)I"⟩
abbrev cJ9_max_7cf53 : ByteArray := prog_15_method_65_code
def yJ9_max_7cf53 : MethodName := ⟨RJ9, "max", "(II)I"⟩
abbrev cJ9_min_7cf53 : ByteArray := prog_15_method_69_code
def yJ9_min_7cf53 : MethodName := ⟨RJ9, "min", "(II)I"⟩
def RJ0 : String := "java/lang/String"
def TJ0 : u_T := fun k => match k with
  | _ => ("", "", "", false)
def tyJ0 : Nat → FieldType := fun k => match k with
  | _ => .int
abbrev wsJ00 : List Cond := u_ws RJ0 TJ0 0
theorem nmJ0 : ∀ a, a < 0 → ∀ b, b < 0 → a ≠ b → (TJ0 a).2.1 ≠ (TJ0 b).2.1 := by decide +kernel
theorem tyJ0_ok : ∀ k, k < 0 → parseFieldDescriptor (TJ0 k).2.2.1 = some (tyJ0 k) := by decide +kernel
abbrev cJ0_length_8abf5 : ByteArray := prog_16_method_54_code
def yJ0_length_8abf5 : MethodName := ⟨RJ0, "length", "()I"⟩
abbrev cJ0_charAt_5068e : ByteArray := prog_16_method_56_code
def yJ0_charAt_5068e : MethodName := ⟨RJ0, "charAt", "(I)C"⟩
abbrev cJ0_coder_7d493 : ByteArray := prog_16_method_152_code
def yJ0_coder_7d493 : MethodName := ⟨RJ0, "coder", "()B"⟩
abbrev cJ0_isLatin1_aae02 : ByteArray := prog_16_method_154_code
def yJ0_isLatin1_aae02 : MethodName := ⟨RJ0, "isLatin1", "()Z"⟩
abbrev cJ0_checkIndex_df160 : ByteArray := prog_16_method_155_code
def yJ0_checkIndex_df160 : MethodName := ⟨RJ0, "checkIndex", "(II)V"⟩
def RJ1 : String := "java/lang/StringLatin1"
def TJ1 : u_T := fun k => match k with
  | _ => ("", "", "", false)
def tyJ1 : Nat → FieldType := fun k => match k with
  | _ => .int
abbrev wsJ10 : List Cond := u_ws RJ1 TJ1 0
theorem nmJ1 : ∀ a, a < 0 → ∀ b, b < 0 → a ≠ b → (TJ1 a).2.1 ≠ (TJ1 b).2.1 := by decide +kernel
theorem tyJ1_ok : ∀ k, k < 0 → parseFieldDescriptor (TJ1 k).2.2.1 = some (tyJ1 k) := by decide +kernel
abbrev cJ1_charAt_3b067 : ByteArray := prog_17_method_2_code
def yJ1_charAt_3b067 : MethodName := ⟨RJ1, "charAt", "([BI)C"⟩
def RJ2 : String := "java/lang/StringUTF16"
def TJ2 : u_T := fun k => match k with
  | _ => ("", "", "", false)
def tyJ2 : Nat → FieldType := fun k => match k with
  | _ => .int
abbrev wsJ20 : List Cond := u_ws RJ2 TJ2 0
theorem nmJ2 : ∀ a, a < 0 → ∀ b, b < 0 → a ≠ b → (TJ2 a).2.1 ≠ (TJ2 b).2.1 := by decide +kernel
theorem tyJ2_ok : ∀ k, k < 0 → parseFieldDescriptor (TJ2 k).2.2.1 = some (tyJ2 k) := by decide +kernel
abbrev cJ2_getChar_3b067 : ByteArray := prog_18_method_5_code
def yJ2_getChar_3b067 : MethodName := ⟨RJ2, "getChar", "([BI)C"⟩
abbrev cJ2_length_9d52b : ByteArray := prog_18_method_6_code
def yJ2_length_9d52b : MethodName := ⟨RJ2, "length", "([B)I"⟩
abbrev cJ2_charAt_3b067 : ByteArray := prog_18_method_83_code
def yJ2_charAt_3b067 : MethodName := ⟨RJ2, "charAt", "([BI)C"⟩
abbrev cJ2_checkIndex_2214a : ByteArray := prog_18_method_91_code
def yJ2_checkIndex_2214a : MethodName := ⟨RJ2, "checkIndex", "(I[B)V"⟩
def RJ10 : String := "java/lang/System"
def TJ10 : u_T := fun k => match k with
  | _ => ("", "", "", false)
def tyJ10 : Nat → FieldType := fun k => match k with
  | _ => .int
abbrev wsJ100 : List Cond := u_ws RJ10 TJ10 0
theorem nmJ10 : ∀ a, a < 0 → ∀ b, b < 0 → a ≠ b → (TJ10 a).2.1 ≠ (TJ10 b).2.1 := by decide +kernel
theorem tyJ10_ok : ∀ k, k < 0 → parseFieldDescriptor (TJ10 k).2.2.1 = some (tyJ10 k) := by decide +kernel
def RJxfd54e : String := "java/lang/constant/Constable"
def TJxfd54e : u_T := fun k => match k with
  | _ => ("", "", "", false)
def tyJxfd54e : Nat → FieldType := fun k => match k with
  | _ => .int
abbrev wsJxfd54e0 : List Cond := u_ws RJxfd54e TJxfd54e 0
theorem nmJxfd54e : ∀ a, a < 0 → ∀ b, b < 0 → a ≠ b → (TJxfd54e a).2.1 ≠ (TJxfd54e b).2.1 := by decide +kernel
theorem tyJxfd54e_ok : ∀ k, k < 0 → parseFieldDescriptor (TJxfd54e k).2.2.1 = some (tyJxfd54e k) := by decide +kernel
def RJx3cf43 : String := "java/lang/constant/ConstantDesc"
def TJx3cf43 : u_T := fun k => match k with
  | _ => ("", "", "", false)
def tyJx3cf43 : Nat → FieldType := fun k => match k with
  | _ => .int
abbrev wsJx3cf430 : List Cond := u_ws RJx3cf43 TJx3cf43 0
theorem nmJx3cf43 : ∀ a, a < 0 → ∀ b, b < 0 → a ≠ b → (TJx3cf43 a).2.1 ≠ (TJx3cf43 b).2.1 := by decide +kernel
theorem tyJx3cf43_ok : ∀ k, k < 0 → parseFieldDescriptor (TJx3cf43 k).2.2.1 = some (tyJx3cf43 k) := by decide +kernel
def RJ7 : String := "java/util/Arrays"
def TJ7 : u_T := fun k => match k with
  | _ => ("", "", "", false)
def tyJ7 : Nat → FieldType := fun k => match k with
  | _ => .int
abbrev wsJ70 : List Cond := u_ws RJ7 TJ7 0
theorem nmJ7 : ∀ a, a < 0 → ∀ b, b < 0 → a ≠ b → (TJ7 a).2.1 ≠ (TJ7 b).2.1 := by decide +kernel
theorem tyJ7_ok : ∀ k, k < 0 → parseFieldDescriptor (TJ7 k).2.2.1 = some (tyJ7 k) := by decide +kernel
abbrev cJ7_fill_d0a16 : ByteArray := prog_20_method_101_code
def yJ7_fill_d0a16 : MethodName := ⟨RJ7, "fill", "([JJ)V"⟩
abbrev cJ7_fill_53178 : ByteArray := prog_20_method_103_code
def yJ7_fill_53178 : MethodName := ⟨RJ7, "fill", "([II)V"⟩
def RJ3 : String := "jdk/internal/util/Preconditions"
def TJ3 : u_T := fun k => match k with
  | _ => ("", "", "", false)
def tyJ3 : Nat → FieldType := fun k => match k with
  | _ => .int
abbrev wsJ30 : List Cond := u_ws RJ3 TJ3 0
theorem nmJ3 : ∀ a, a < 0 → ∀ b, b < 0 → a ≠ b → (TJ3 a).2.1 ≠ (TJ3 b).2.1 := by decide +kernel
theorem tyJ3_ok : ∀ k, k < 0 → parseFieldDescriptor (TJ3 k).2.2.1 = some (tyJ3 k) := by decide +kernel
abbrev cJ3_checkIndex_8e157 : ByteArray := prog_21_method_11_code
def yJ3_checkIndex_8e157 : MethodName := ⟨RJ3, "checkIndex", "(IILjava/util/function/BiFunction;)I"⟩
def RL : String := "WalkTheDikeLaw"
abbrev cL_law : ByteArray := code
def yL_law : MethodName := ⟨RL, "law", "([I)Z"⟩
abbrev vwCl : List vw_C := [(RX0, TX0, 2), (RX1, TX1, 5), (RX2, TX2, 8), (RX3, TX3, 8), (RX4, TX4, 5), (RX5, TX5, 7), (RX6, TX6, 6), (RX7, TX7, 3), (RX8, TX8, 8), (RX9, TX9, 5), (RX10, TX10, 13), (RX11, TX11, 11), (RX12, TX12, 72)]
end
section
/-! THE ABSTRACT MACHINE: memory M (ints) and N (longs) by cell and place; a predicate transformer a method; one instruction = one step -/
abbrev ab_M : Type := Nat → Nat → Int32
abbrev ab_N : Type := Nat → Nat → Int64
abbrev ab_K : Type := Nat → List (Option Value) → List Value → ab_M → ab_N → Prop
abbrev ab_R : Type := Option Value → ab_M → ab_N → Prop
abbrev ab_T : Type := List Value → ab_M → ab_N → ab_R → Prop
/-- a cell: an object (its class, its fields: a reference to a cell, or a type), or an array (type, length) -/
abbrev ab_L : Type := (Nat × List (Nat ⊕ FieldType)) ⊕ (FieldType × Nat)
abbrev ab_Q : Type := Instr × Nat × List Nat × List Int32
abbrev ab_P : Type := List (Nat × ab_Q)
/-- cells, tables, fields by index, constants by index, statics by index, calls by index -/
abbrev ab_G : Type := List ab_L × List (Nat × Nat × (Nat → Int32)) × List (Nat × Nat × Nat) × List (Nat × Value) × List (Nat × Nat) × List (Nat × Nat × ab_T) × List (Nat × Nat × ab_T)
def ab_a {α : Type} : List (Nat × α) → Nat → Option α
  | [], _ => none
  | q :: r, n => match Nat.beq q.1 n with
    | true => some q.2
    | false => ab_a r n
def ab_h : List Nat → Nat
  | [] => 0
  | a :: _ => a
def ab_ih : List Int32 → Int32
  | [] => 0
  | a :: _ => a
def ab_g : List (Option Value) → Nat → Option Value
  | [], _ => none
  | x :: _, 0 => x
  | _ :: r, n + 1 => ab_g r n
def ab_p : List (Option Value) → Nat → Option Value → List (Option Value)
  | [], 0, v => [v]
  | [], n + 1, v => none :: ab_p [] n v
  | _ :: r, 0, v => v :: r
  | x :: r, n + 1, v => x :: ab_p r n v
/-- a long that stood ahead of a place that is stored to is gone -/
def ab_kl (ls : List (Option Value)) : Nat → List (Option Value)
  | 0 => ls
  | n + 1 => match ab_g ls n with
    | some (.long _) => ab_p ls n none
    | some (.double _) => ab_p ls n none
    | _ => ls
def ab_u {α : Type} (M : Nat → Nat → α) (k : Nat) (f : Nat → α) : Nat → Nat → α := fun c => match Nat.beq c k with
  | true => f
  | false => M c
def ab_cs : List Value → Nat
  | [] => 0
  | v :: r => v.category + ab_cs r
def ab_ol : Option Value → List Value → List Value
  | none, s => s
  | some v, s => v :: s
def ab_sw (X : Nat → Prop) (x : Int32) (d : Nat) : List Int32 → List Nat → Prop
  | k :: ks, t :: ts => (x = k → X t) ∧ (¬ x = k → ab_sw X x d ks ts)
  | _, _ => X d
def ab_tl : List Nat → List Nat
  | [] => []
  | _ :: r => r
def ab_ld (X : ab_K) (nx : Nat) (ls : List (Option Value)) (st : List Value) (M : ab_M) (N : ab_N) (k : Nat) (v : Option Value) : Prop := match v with
  | some w => match k, w with
    | 0, .int x => X nx ls (.int x :: st) M N
    | 1, .long x => X nx ls (.long x :: st) M N
    | 2, .ref x => X nx ls (.ref x :: st) M N
    | _, _ => False
  | none => False
def ab_i2 (X : ab_K) (nx : Nat) (ls : List (Option Value)) (st : List Value) (M : ab_M) (N : ab_N) (f : Int32 → Int32 → Int32) : Prop := match st with
  | .int y :: .int x :: r => X nx ls (.int (f x y) :: r) M N
  | _ => False
def ab_l2 (X : ab_K) (nx : Nat) (ls : List (Option Value)) (st : List Value) (M : ab_M) (N : ab_N) (f : Int64 → Int64 → Int64) : Prop := match st with
  | .long y :: .long x :: r => X nx ls (.long (f x y) :: r) M N
  | _ => False
def ab_b1 (X : ab_K) (nx tg : Nat) (ls : List (Option Value)) (st : List Value) (M : ab_M) (N : ab_N) (f : Int32 → Prop) : Prop := match st with
  | .int x :: r => (f x → X tg ls r M N) ∧ (¬ f x → X nx ls r M N)
  | _ => False
def ab_b2 (X : ab_K) (nx tg : Nat) (ls : List (Option Value)) (st : List Value) (M : ab_M) (N : ab_N) (f : Int32 → Int32 → Prop) : Prop := match st with
  | .int y :: .int x :: r => (f x y → X tg ls r M N) ∧ (¬ f x y → X nx ls r M N)
  | _ => False
def ab_s1 (X : ab_K) (nx nL i : Nat) (ls : List (Option Value)) (st : List Value) (M : ab_M) (N : ab_N) (k : Nat) : Prop := match Nat.blt i nL with
  | true => match k, st with
    | 0, .int x :: r => X nx (ab_p (ab_kl ls i) i (some (.int x))) r M N
    | 2, .ref x :: r => X nx (ab_p (ab_kl ls i) i (some (.ref x))) r M N
    | _, _ => False
  | false => False
def ab_s2 (X : ab_K) (nx nL i : Nat) (ls : List (Option Value)) (st : List Value) (M : ab_M) (N : ab_N) : Prop := match Nat.blt (i + 1) nL with
  | true => match st with
    | .long x :: r => X nx (ab_p (ab_p (ab_kl ls i) i (some (.long x))) (i + 1) none) r M N
    | _ => False
  | false => False
def ab_inc (X : ab_K) (nx nL i : Nat) (v : Int32) (ls : List (Option Value)) (st : List Value) (M : ab_M) (N : ab_N) : Prop := match Nat.blt i nL with
  | true => match ab_g ls i with
    | some (.int x) => X nx (ab_p (ab_kl ls i) i (some (.int (x + v)))) st M N
    | _ => False
  | false => False
def ab_gf (X : ab_K) (nx : Nat) (ls : List (Option Value)) (k j : Nat) (r : List Value) (M : ab_M) (N : ab_N) : Option (Nat ⊕ FieldType) → Prop
  | some (.inl t) => X nx ls (.ref t :: r) M N
  | some (.inr .long) => X nx ls (.long (N k j) :: r) M N
  | some (.inr .int) => X nx ls (.int (M k j) :: r) M N
  | some (.inr .boolean) => X nx ls (.int (M k j) :: r) M N
  | _ => False
def ab_get (Λ : List ab_L) (X : ab_K) (nx : Nat) (ls : List (Option Value)) (st : List Value) (M : ab_M) (N : ab_N) : Option (Nat × Nat) → Prop
  | some (ci, j) => match st with
    | .ref k :: r => match Λ[k]? with
      | some (.inl (c2, fs)) => match Nat.beq c2 ci with
        | true => ab_gf X nx ls k j r M N fs[j]?
        | false => False
      | _ => False
    | _ => False
  | none => False
def ab_pf (X : ab_K) (nx : Nat) (ls : List (Option Value)) (k j : Nat) (v : Value) (r : List Value) (M : ab_M) (N : ab_N) : Option (Nat ⊕ FieldType) → Prop
  | some (.inr .long) => match v with
    | .long x => X nx ls r M (ab_u N k (vp_updL (N k) j x))
    | _ => False
  | some (.inr .int) => match v with
    | .int x => X nx ls r (ab_u M k (upd (M k) j x)) N
    | _ => False
  | some (.inr .boolean) => match v with
    | .int x => (narrow .boolean (.int x) = .int x ∧ fits .boolean (.int x) = true) ∧ X nx ls r (ab_u M k (upd (M k) j x)) N
    | _ => False
  | _ => False
def ab_put (Λ : List ab_L) (X : ab_K) (nx : Nat) (ls : List (Option Value)) (st : List Value) (M : ab_M) (N : ab_N) : Option (Nat × Nat) → Prop
  | some (ci, j) => match st with
    | v :: .ref k :: r => match Λ[k]? with
      | some (.inl (c2, fs)) => match Nat.beq c2 ci with
        | true => ab_pf X nx ls k j v r M N fs[j]?
        | false => False
      | _ => False
    | _ => False
  | none => False
def ab_iald (Λ : List ab_L) (tab : List (Nat × Nat × (Nat → Int32))) (X : ab_K) (nx : Nat) (ls : List (Option Value)) (st : List Value) (M : ab_M) (N : ab_N) : Prop := match st with
  | .int i :: .ref k :: r => match Λ[k]? with
    | some (.inr (.int, n)) => vp_in i n ∧ X nx ls (.int (M k i.toNatClampNeg) :: r) M N
    | none => match ab_a tab k with
      | some (n, f) => vp_in i n ∧ X nx ls (.int (f i.toNatClampNeg) :: r) M N
      | none => False
    | _ => False
  | _ => False
def ab_zald (Λ : List ab_L) (X : ab_K) (nx : Nat) (ls : List (Option Value)) (st : List Value) (M : ab_M) (N : ab_N) : Prop := match st with
  | .int i :: .ref k :: r => match Λ[k]? with
    | some (.inr (.boolean, n)) => vp_in i n ∧ X nx ls (.int (M k i.toNatClampNeg) :: r) M N
    | _ => False
  | _ => False
def ab_lald (Λ : List ab_L) (X : ab_K) (nx : Nat) (ls : List (Option Value)) (st : List Value) (M : ab_M) (N : ab_N) : Prop := match st with
  | .int i :: .ref k :: r => match Λ[k]? with
    | some (.inr (.long, n)) => vp_in i n ∧ X nx ls (.long (N k i.toNatClampNeg) :: r) M N
    | _ => False
  | _ => False
def ab_iast (Λ : List ab_L) (X : ab_K) (nx : Nat) (ls : List (Option Value)) (st : List Value) (M : ab_M) (N : ab_N) : Prop := match st with
  | .int x :: .int i :: .ref k :: r => match Λ[k]? with
    | some (.inr (.int, n)) => vp_in i n ∧ X nx ls r (ab_u M k (upd (M k) i.toNatClampNeg x)) N
    | _ => False
  | _ => False
def ab_zast (Λ : List ab_L) (X : ab_K) (nx : Nat) (ls : List (Option Value)) (st : List Value) (M : ab_M) (N : ab_N) : Prop := match st with
  | .int x :: .int i :: .ref k :: r => match Λ[k]? with
    | some (.inr (.boolean, n)) => vp_in i n ∧ X nx ls r (ab_u M k (upd (M k) i.toNatClampNeg (vp_nar .boolean x))) N
    | _ => False
  | _ => False
def ab_last (Λ : List ab_L) (X : ab_K) (nx : Nat) (ls : List (Option Value)) (st : List Value) (M : ab_M) (N : ab_N) : Prop := match st with
  | .long x :: .int i :: .ref k :: r => match Λ[k]? with
    | some (.inr (.long, n)) => vp_in i n ∧ X nx ls r M (ab_u N k (vp_updL (N k) i.toNatClampNeg x))
    | _ => False
  | _ => False
def ab_alen (Λ : List ab_L) (X : ab_K) (nx : Nat) (ls : List (Option Value)) (st : List Value) (M : ab_M) (N : ab_N) : Prop := match st with
  | .ref k :: r => match Λ[k]? with
    | some (.inr (.int, n)) => X nx ls (.int (Int32.ofNat n) :: r) M N
    | some (.inr (.long, n)) => X nx ls (.int (Int32.ofNat n) :: r) M N
    | _ => False
  | _ => False
def ab_cst (X : ab_K) (nx : Nat) (ls : List (Option Value)) (st : List Value) (M : ab_M) (N : ab_N) (k : Nat) : Option Value → Prop
  | some v => match Nat.beq v.category k with
    | true => X nx ls (v :: st) M N
    | false => False
  | none => False
def ab_sta (X : ab_K) (nx : Nat) (ls : List (Option Value)) (st : List Value) (M : ab_M) (N : ab_N) : Option Nat → Prop
  | some k => X nx ls (.ref k :: st) M N
  | none => False
def ab_inv (X : ab_K) (nx : Nat) (ls : List (Option Value)) (st : List Value) (M : ab_M) (N : ab_N) : Option (Nat × ab_T) → Prop
  | some (n, T) => match Nat.ble n st.length with
    | true => match Nat.ble (ab_cs (st.drop n)) 8 with
      | true => T (st.take n).reverse M N (fun r M2 N2 => X nx ls (ab_ol r (st.drop n)) M2 N2)
      | false => False
    | false => False
  | none => False
def ab_ret (ret : Option FieldType) (Q : ab_R) (st : List Value) (M : ab_M) (N : ab_N) (k : Nat) : Prop := match ret with
  | none => match k, st with
    | 3, [] => Q none M N
    | _, _ => False
  | some .int => match k, st with
    | 0, [.int x] => Q (some (.int x)) M N
    | _, _ => False
  | some .long => match k, st with
    | 1, [.long x] => Q (some (.long x)) M N
    | _, _ => False
  | some .boolean => match k, st with
    | 0, [.int x] => narrow .boolean (.int x) = .int x ∧ Q (some (.int x)) M N
    | _, _ => False
  | _ => False
/-- one instruction -/
def ab_s (G : ab_G) (ret : Option FieldType) (nL : Nat) (Q : ab_R) (X : ab_K) (q : ab_Q) (ls : List (Option Value)) (st : List Value) (M : ab_M) (N : ab_N) : Prop :=
  match q with
  | (ins, nx, tg, ks) => match ins with
    | .aload_n _ => ab_ld X nx ls st M N 2 (ab_g ls (ab_h tg))
    | .aload i => ab_ld X nx ls st M N 2 (ab_g ls i)
    | .iload_n _ => ab_ld X nx ls st M N 0 (ab_g ls (ab_h tg))
    | .iload i => ab_ld X nx ls st M N 0 (ab_g ls i)
    | .lload_n _ => ab_ld X nx ls st M N 1 (ab_g ls (ab_h tg))
    | .lload i => ab_ld X nx ls st M N 1 (ab_g ls i)
    | .istore_n _ => ab_s1 X nx nL (ab_h tg) ls st M N 0
    | .istore i => ab_s1 X nx nL i ls st M N 0
    | .astore_n _ => ab_s1 X nx nL (ab_h tg) ls st M N 2
    | .astore i => ab_s1 X nx nL i ls st M N 2
    | .lstore_n _ => ab_s2 X nx nL (ab_h tg) ls st M N
    | .lstore i => ab_s2 X nx nL i ls st M N
    | .iinc i _ => ab_inc X nx nL i (ab_ih ks) ls st M N
    | .iconst _ => X nx ls (.int (ab_ih ks) :: st) M N
    | .bipush _ => X nx ls (.int (ab_ih ks) :: st) M N
    | .sipush _ => X nx ls (.int (ab_ih ks) :: st) M N
    | .lconst _ => match tg with
      | [0] => X nx ls (.long 0 :: st) M N
      | [1] => X nx ls (.long 1 :: st) M N
      | _ => False
    | .iadd => ab_i2 X nx ls st M N (fun x y => x + y)
    | .isub => ab_i2 X nx ls st M N (fun x y => x - y)
    | .imul => ab_i2 X nx ls st M N (fun x y => x * y)
    | .iand => ab_i2 X nx ls st M N (fun x y => x &&& y)
    | .ior => ab_i2 X nx ls st M N (fun x y => x ||| y)
    | .ishl => ab_i2 X nx ls st M N (fun x y => x <<< (y &&& 31))
    | .ishr => ab_i2 X nx ls st M N (fun x y => x >>> (y &&& 31))
    | .idiv => match st with
      | .int y :: .int x :: r => ¬ y = 0 ∧ X nx ls (.int (x / y) :: r) M N
      | _ => False
    | .irem => match st with
      | .int y :: .int x :: r => ¬ y = 0 ∧ X nx ls (.int (x - x / y * y) :: r) M N
      | _ => False
    | .ineg => match st with
      | .int x :: r => X nx ls (.int (-x) :: r) M N
      | _ => False
    | .ladd => ab_l2 X nx ls st M N (fun x y => x + y)
    | .lsub => ab_l2 X nx ls st M N (fun x y => x - y)
    | .lmul => ab_l2 X nx ls st M N (fun x y => x * y)
    | .land => ab_l2 X nx ls st M N (fun x y => x &&& y)
    | .lor => ab_l2 X nx ls st M N (fun x y => x ||| y)
    | .ldiv => match st with
      | .long y :: .long x :: r => ¬ y = 0 ∧ X nx ls (.long (x / y) :: r) M N
      | _ => False
    | .lrem => match st with
      | .long y :: .long x :: r => ¬ y = 0 ∧ X nx ls (.long (x - x / y * y) :: r) M N
      | _ => False
    | .lneg => match st with
      | .long x :: r => X nx ls (.long (-x) :: r) M N
      | _ => False
    | .lshl => match st with
      | .int y :: .long x :: r => X nx ls (.long (x <<< (y.toInt64 &&& 63)) :: r) M N
      | _ => False
    | .lshr => match st with
      | .int y :: .long x :: r => X nx ls (.long (x >>> (y.toInt64 &&& 63)) :: r) M N
      | _ => False
    | .lcmp => match st with
      | .long y :: .long x :: r => X nx ls (.int (lg_cmp x y) :: r) M N
      | _ => False
    | .i2l => match st with
      | .int x :: r => X nx ls (.long x.toInt64 :: r) M N
      | _ => False
    | .l2i => match st with
      | .long x :: r => X nx ls (.int x.toInt32 :: r) M N
      | _ => False
    | .i2b => match st with
      | .int x :: r => X nx ls (.int x.toInt8.toInt32 :: r) M N
      | _ => False
    | .i2s => match st with
      | .int x :: r => X nx ls (.int x.toInt16.toInt32 :: r) M N
      | _ => False
    | .dup => match st with
      | v :: r => match Nat.beq v.category 1 with
        | true => X nx ls (v :: v :: r) M N
        | false => False
      | _ => False
    | .pop => match st with
      | v :: r => match Nat.beq v.category 1 with
        | true => X nx ls r M N
        | false => False
      | _ => False
    | .dup2 => match st with
      | v :: w :: r => match Nat.beq v.category 1 with
        | true => match Nat.beq w.category 1 with
          | true => X nx ls (v :: w :: v :: w :: r) M N
          | false => False
        | false => False
      | _ => False
    | .ifCond .eq _ => ab_b1 X nx (ab_h tg) ls st M N (fun x => x = 0)
    | .ifCond .ne _ => ab_b1 X (ab_h tg) nx ls st M N (fun x => x = 0)
    | .ifCond .lt _ => ab_b1 X nx (ab_h tg) ls st M N (fun x => x < 0)
    | .ifCond .ge _ => ab_b1 X nx (ab_h tg) ls st M N (fun x => 0 ≤ x)
    | .ifCond .gt _ => ab_b1 X nx (ab_h tg) ls st M N (fun x => 0 < x)
    | .ifCond .le _ => ab_b1 X nx (ab_h tg) ls st M N (fun x => x ≤ 0)
    | .if_icmp .eq _ => ab_b2 X nx (ab_h tg) ls st M N (fun x y => x = y)
    | .if_icmp .ne _ => ab_b2 X (ab_h tg) nx ls st M N (fun x y => x = y)
    | .if_icmp .lt _ => ab_b2 X nx (ab_h tg) ls st M N (fun x y => x < y)
    | .if_icmp .ge _ => ab_b2 X nx (ab_h tg) ls st M N (fun x y => y ≤ x)
    | .if_icmp .gt _ => ab_b2 X nx (ab_h tg) ls st M N (fun x y => y < x)
    | .if_icmp .le _ => ab_b2 X nx (ab_h tg) ls st M N (fun x y => x ≤ y)
    | .goto _ => X (ab_h tg) ls st M N
    | .tableswitch _ _ _ _ => match st with
      | .int x :: r => ab_sw (fun t => X t ls r M N) x (ab_h tg) ks (ab_tl tg)
      | _ => False
    | .getfield i => ab_get G.1 X nx ls st M N (ab_a G.2.2.1 i)
    | .putfield i => ab_put G.1 X nx ls st M N (ab_a G.2.2.1 i)
    | .iaload => ab_iald G.1 G.2.1 X nx ls st M N
    | .baload => ab_zald G.1 X nx ls st M N
    | .laload => ab_lald G.1 X nx ls st M N
    | .iastore => ab_iast G.1 X nx ls st M N
    | .bastore => ab_zast G.1 X nx ls st M N
    | .lastore => ab_last G.1 X nx ls st M N
    | .arraylength => ab_alen G.1 X nx ls st M N
    | .ldc i => ab_cst X nx ls st M N 1 (ab_a G.2.2.2.1 i)
    | .ldc_w i => match ab_a G.2.2.2.1 i with
      | some (.int x) => X nx ls (.int x :: st) M N
      | _ => False
    | .ldc2_w i => ab_cst X nx ls st M N 2 (ab_a G.2.2.2.1 i)
    | .getstatic i => ab_sta X nx ls st M N (ab_a G.2.2.2.2.1 i)
    | .invokevirtual i => ab_inv X nx ls st M N (ab_a G.2.2.2.2.2.1 i)
    | .invokestatic i => ab_inv X nx ls st M N (ab_a G.2.2.2.2.2.2 i)
    | .ireturn => ab_ret ret Q st M N 0
    | .lreturn => ab_ret ret Q st M N 1
    | .return_ => ab_ret ret Q st M N 3
    | _ => False
/-- one step at a place -/
def ab_st (G : ab_G) (P : ab_P) (ret : Option FieldType) (nL : Nat) (Q : ab_R) (X : ab_K) : ab_K := fun pc ls st M N => match ab_a P pc with
  | some q => ab_s G ret nL Q X q ls st M N
  | none => False
def ab_kp : List Bool → Nat → List (Option Value) → List (Option Value)
  | [], _, _ => []
  | true :: r, i, ls => ab_g ls i :: ab_kp r (i + 1) ls
  | false :: r, i, ls => none :: ab_kp r (i + 1) ls
/-- up to n steps, to the places that are named -/
def ab_k (G : ab_G) (P : ab_P) (ret : Option FieldType) (nL : Nat) (Q : ab_R) (sp : List (Nat × List Bool)) (K : ab_K) : Nat → ab_K
  | 0 => K
  | n + 1 => fun pc ls st M N => match ab_a sp pc with
    | some kp => K pc (ab_kp kp 0 ls) st M N
    | none => ab_st G P ret nL Q (ab_k G P ret nL Q sp K n) pc ls st M N
def ab_Le (a b : List (Option Value)) : Prop := ∀ (i : Nat) (v : Value), ab_g a i = some v → ab_g b i = some v
def ab_Up (X : ab_K) : Prop := ∀ (pc : Nat) (a b : List (Option Value)) (st : List Value) (M : ab_M) (N : ab_N), ab_Le a b → X pc a st M N → X pc b st M N
/-- the run from here ends, with Q -/
def ab_Run (G : ab_G) (P : ab_P) (ret : Option FieldType) (nL : Nat) (Q : ab_R) : ab_K := fun pc ls st M N => ∀ X : ab_K, ab_Up X → (∀ (pc : Nat) (ls : List (Option Value)) (st : List Value) (M : ab_M) (N : ab_N), ab_st G P ret nL Q X pc ls st M N → X pc ls st M N) → X pc ls st M N
def ab_mono (T : ab_T) : Prop := ∀ (as : List Value) (M : ab_M) (N : ab_N) (k k2 : ab_R), (∀ (r : Option Value) (M2 : ab_M) (N2 : ab_N), k r M2 N2 → k2 r M2 N2) → T as M N k → T as M N k2
def ab_MG (G : ab_G) : Prop := (∀ (i n : Nat) (T : ab_T), ab_a G.2.2.2.2.2.1 i = some (n, T) → ab_mono T) ∧ ∀ (i n : Nat) (T : ab_T), ab_a G.2.2.2.2.2.2 i = some (n, T) → ab_mono T
end
section
/-! the machine is monotone; runs compose -/
abbrev ab_XY (X Y : ab_K) : Prop := ∀ (pc : Nat) (ls : List (Option Value)) (st : List Value) (M : ab_M) (N : ab_N), X pc ls st M N → Y pc ls st M N
section AbMono
variable {X Y : ab_K}
variable {nx : Nat} {ls : List (Option Value)} {st r : List Value} {M : ab_M} {N : ab_N}
theorem ab_ld_mono (hXY : ab_XY X Y) {k : Nat} {v : Option Value} : ab_ld X nx ls st M N k v → ab_ld Y nx ls st M N k v := by
  cases v with
  | none => exact id
  | some w =>
    unfold ab_ld
    intro h
    dsimp only at h ⊢
    split at h
    · exact hXY _ _ _ _ _ h
    · exact hXY _ _ _ _ _ h
    · exact hXY _ _ _ _ _ h
    · exact h.elim
theorem ab_i2_mono (hXY : ab_XY X Y) {f : Int32 → Int32 → Int32} : ab_i2 X nx ls st M N f → ab_i2 Y nx ls st M N f := by
  unfold ab_i2; intro h; split at h
  · exact hXY _ _ _ _ _ h
  · exact h.elim
theorem ab_l2_mono (hXY : ab_XY X Y) {f : Int64 → Int64 → Int64} : ab_l2 X nx ls st M N f → ab_l2 Y nx ls st M N f := by
  unfold ab_l2; intro h; split at h
  · exact hXY _ _ _ _ _ h
  · exact h.elim
theorem ab_b1_mono (hXY : ab_XY X Y) {tg : Nat} {f : Int32 → Prop} : ab_b1 X nx tg ls st M N f → ab_b1 Y nx tg ls st M N f := by
  unfold ab_b1; intro h; split at h
  · exact ⟨fun z => hXY _ _ _ _ _ (h.1 z), fun z => hXY _ _ _ _ _ (h.2 z)⟩
  · exact h.elim
theorem ab_b2_mono (hXY : ab_XY X Y) {tg : Nat} {f : Int32 → Int32 → Prop} : ab_b2 X nx tg ls st M N f → ab_b2 Y nx tg ls st M N f := by
  unfold ab_b2; intro h; split at h
  · exact ⟨fun z => hXY _ _ _ _ _ (h.1 z), fun z => hXY _ _ _ _ _ (h.2 z)⟩
  · exact h.elim
theorem ab_s1_mono (hXY : ab_XY X Y) {nL i k : Nat} : ab_s1 X nx nL i ls st M N k → ab_s1 Y nx nL i ls st M N k := by
  unfold ab_s1; intro h; split at h
  · split at h
    · exact hXY _ _ _ _ _ h
    · exact hXY _ _ _ _ _ h
    · exact h.elim
  · exact h.elim
theorem ab_s2_mono (hXY : ab_XY X Y) {nL i : Nat} : ab_s2 X nx nL i ls st M N → ab_s2 Y nx nL i ls st M N := by
  unfold ab_s2; intro h; split at h
  · split at h
    · exact hXY _ _ _ _ _ h
    · exact h.elim
  · exact h.elim
theorem ab_inc_mono (hXY : ab_XY X Y) {nL i : Nat} {v : Int32} : ab_inc X nx nL i v ls st M N → ab_inc Y nx nL i v ls st M N := by
  unfold ab_inc; intro h; split at h
  · split at h
    · exact hXY _ _ _ _ _ h
    · exact h.elim
  · exact h.elim
theorem ab_gf_mono (hXY : ab_XY X Y) {k j : Nat} {o : Option (Nat ⊕ FieldType)} : ab_gf X nx ls k j r M N o → ab_gf Y nx ls k j r M N o := by
  unfold ab_gf; intro h; split at h
  · exact hXY _ _ _ _ _ h
  · exact hXY _ _ _ _ _ h
  · exact hXY _ _ _ _ _ h
  · exact hXY _ _ _ _ _ h
  · exact h.elim
theorem ab_get_mono (hXY : ab_XY X Y) {Λ : List ab_L} {o : Option (Nat × Nat)} : ab_get Λ X nx ls st M N o → ab_get Λ Y nx ls st M N o := by
  unfold ab_get; intro h; split at h
  · split at h
    · split at h
      · rename_i hΛ
        split at h
        · rename_i hb
          try simp only [hΛ, hb]
          exact ab_gf_mono hXY h
        · exact h.elim
      · exact h.elim
    · exact h.elim
  · exact h.elim
theorem ab_pf_mono (hXY : ab_XY X Y) {k j : Nat} {v : Value} {o : Option (Nat ⊕ FieldType)} : ab_pf X nx ls k j v r M N o → ab_pf Y nx ls k j v r M N o := by
  unfold ab_pf; intro h; split at h
  · split at h
    · exact hXY _ _ _ _ _ h
    · exact h.elim
  · split at h
    · exact hXY _ _ _ _ _ h
    · exact h.elim
  · split at h
    · exact ⟨h.1, hXY _ _ _ _ _ h.2⟩
    · exact h.elim
  · exact h.elim
theorem ab_put_mono (hXY : ab_XY X Y) {Λ : List ab_L} {o : Option (Nat × Nat)} : ab_put Λ X nx ls st M N o → ab_put Λ Y nx ls st M N o := by
  unfold ab_put; intro h; split at h
  · split at h
    · split at h
      · rename_i hΛ
        split at h
        · rename_i hb
          try simp only [hΛ, hb]
          exact ab_pf_mono hXY h
        · exact h.elim
      · exact h.elim
    · exact h.elim
  · exact h.elim
theorem ab_iald_mono (hXY : ab_XY X Y) {Λ : List ab_L} {tab : List (Nat × Nat × (Nat → Int32))} : ab_iald Λ tab X nx ls st M N → ab_iald Λ tab Y nx ls st M N := by
  unfold ab_iald; intro h; split at h
  · split at h
    · rename_i hΛ
      try simp only [hΛ]
      exact ⟨h.1, hXY _ _ _ _ _ h.2⟩
    · rename_i hΛ
      try simp only [hΛ]
      split at h
      · rename_i ht
        try simp only [ht]
        exact ⟨h.1, hXY _ _ _ _ _ h.2⟩
      · exact h.elim
    · exact h.elim
  · exact h.elim
theorem ab_zald_mono (hXY : ab_XY X Y) {Λ : List ab_L} : ab_zald Λ X nx ls st M N → ab_zald Λ Y nx ls st M N := by
  unfold ab_zald; intro h; split at h
  · split at h
    · rename_i hΛ
      try simp only [hΛ]
      exact ⟨h.1, hXY _ _ _ _ _ h.2⟩
    · exact h.elim
  · exact h.elim
theorem ab_lald_mono (hXY : ab_XY X Y) {Λ : List ab_L} : ab_lald Λ X nx ls st M N → ab_lald Λ Y nx ls st M N := by
  unfold ab_lald; intro h; split at h
  · split at h
    · rename_i hΛ
      try simp only [hΛ]
      exact ⟨h.1, hXY _ _ _ _ _ h.2⟩
    · exact h.elim
  · exact h.elim
theorem ab_iast_mono (hXY : ab_XY X Y) {Λ : List ab_L} : ab_iast Λ X nx ls st M N → ab_iast Λ Y nx ls st M N := by
  unfold ab_iast; intro h; split at h
  · split at h
    · rename_i hΛ
      try simp only [hΛ]
      exact ⟨h.1, hXY _ _ _ _ _ h.2⟩
    · exact h.elim
  · exact h.elim
theorem ab_zast_mono (hXY : ab_XY X Y) {Λ : List ab_L} : ab_zast Λ X nx ls st M N → ab_zast Λ Y nx ls st M N := by
  unfold ab_zast; intro h; split at h
  · split at h
    · rename_i hΛ
      try simp only [hΛ]
      exact ⟨h.1, hXY _ _ _ _ _ h.2⟩
    · exact h.elim
  · exact h.elim
theorem ab_last_mono (hXY : ab_XY X Y) {Λ : List ab_L} : ab_last Λ X nx ls st M N → ab_last Λ Y nx ls st M N := by
  unfold ab_last; intro h; split at h
  · split at h
    · rename_i hΛ
      try simp only [hΛ]
      exact ⟨h.1, hXY _ _ _ _ _ h.2⟩
    · exact h.elim
  · exact h.elim
theorem ab_alen_mono (hXY : ab_XY X Y) {Λ : List ab_L} : ab_alen Λ X nx ls st M N → ab_alen Λ Y nx ls st M N := by
  unfold ab_alen; intro h; split at h
  · split at h
    · rename_i hΛ
      try simp only [hΛ]
      exact hXY _ _ _ _ _ h
    · rename_i hΛ
      try simp only [hΛ]
      exact hXY _ _ _ _ _ h
    · exact h.elim
  · exact h.elim
theorem ab_cst_mono (hXY : ab_XY X Y) {k : Nat} {o : Option Value} : ab_cst X nx ls st M N k o → ab_cst Y nx ls st M N k o := by
  cases o with
  | none => exact id
  | some v =>
    unfold ab_cst
    dsimp only
    intro h
    split at h
    · exact hXY _ _ _ _ _ h
    · exact h.elim
theorem ab_sta_mono (hXY : ab_XY X Y) {o : Option Nat} : ab_sta X nx ls st M N o → ab_sta Y nx ls st M N o := by
  cases o with
  | none => exact id
  | some v => exact hXY _ _ _ _ _
theorem ab_inv_mono (hXY : ab_XY X Y) {o : Option (Nat × ab_T)} (hm : ∀ (n : Nat) (T : ab_T), o = some (n, T) → ab_mono T) : ab_inv X nx ls st M N o → ab_inv Y nx ls st M N o := by
  unfold ab_inv; intro h; split at h
  · rename_i n T
    split at h
    · rename_i h1
      split at h
      · rename_i h2
        try simp only [h1, h2]
        exact hm n T rfl _ _ _ _ _ (fun r M2 N2 => hXY _ _ _ _ _) h
      · exact h.elim
    · exact h.elim
  · exact h.elim
end AbMono
theorem ab_sw_mono {X Y : Nat → Prop} (h : ∀ t, X t → Y t) {x : Int32} {d : Nat} : ∀ (ks : List Int32) (ts : List Nat), ab_sw X x d ks ts → ab_sw Y x d ks ts
  | k :: ks, t :: ts => fun z => ⟨fun w => h _ (z.1 w), fun w => ab_sw_mono h ks ts (z.2 w)⟩
  | [], _ => fun z => h _ z
  | _ :: _, [] => fun z => h _ z
set_option maxHeartbeats 4000000 in
theorem ab_s_mono {G : ab_G} (hG : ab_MG G) {ret : Option FieldType} {nL : Nat} {Q : ab_R} {X Y : ab_K} (hXY : ∀ (pc : Nat) (ls : List (Option Value)) (st : List Value) (M : ab_M) (N : ab_N), X pc ls st M N → Y pc ls st M N) {q : ab_Q} {ls : List (Option Value)} {st : List Value} {M : ab_M} {N : ab_N} : ab_s G ret nL Q X q ls st M N → ab_s G ret nL Q Y q ls st M N := by
  obtain ⟨ins, nx, tg, ks⟩ := q
  unfold ab_s
  dsimp only
  intro h
  split at h
  all_goals first
    | exact ab_ld_mono hXY h
    | exact ab_s1_mono hXY h
    | exact ab_s2_mono hXY h
    | exact ab_inc_mono hXY h
    | exact ab_i2_mono hXY h
    | exact ab_l2_mono hXY h
    | exact ab_b1_mono hXY h
    | exact ab_b2_mono hXY h
    | exact ab_get_mono hXY h
    | exact ab_put_mono hXY h
    | exact ab_iald_mono hXY h
    | exact ab_zald_mono hXY h
    | exact ab_lald_mono hXY h
    | exact ab_iast_mono hXY h
    | exact ab_zast_mono hXY h
    | exact ab_last_mono hXY h
    | exact ab_alen_mono hXY h
    | exact ab_cst_mono hXY h
    | exact ab_sta_mono hXY h
    | exact ab_inv_mono hXY (fun n T e => hG.1 _ n T e) h
    | exact ab_inv_mono hXY (fun n T e => hG.2 _ n T e) h
    | exact hXY _ _ _ _ _ h
    | exact h
    | (split at h <;> first | exact hXY _ _ _ _ _ h | exact h.elim | exact ⟨h.1, hXY _ _ _ _ _ h.2⟩ | exact ab_sw_mono (fun t => hXY _ _ _ _ _) _ _ h)
    | (split at h
       · split at h
         · exact hXY _ _ _ _ _ h
         · exact h.elim
       · exact h.elim)
    | (split at h
       · split at h
         · split at h
           · exact hXY _ _ _ _ _ h
           · exact h.elim
         · exact h.elim
       · exact h.elim)
theorem ab_st_mono {G : ab_G} (hG : ab_MG G) {P : ab_P} {ret : Option FieldType} {nL : Nat} {Q : ab_R} {X Y : ab_K} (hXY : ∀ (pc : Nat) (ls : List (Option Value)) (st : List Value) (M : ab_M) (N : ab_N), X pc ls st M N → Y pc ls st M N) {pc : Nat} {ls : List (Option Value)} {st : List Value} {M : ab_M} {N : ab_N} : ab_st G P ret nL Q X pc ls st M N → ab_st G P ret nL Q Y pc ls st M N := by
  unfold ab_st
  intro h
  split at h
  · rename_i q hq
    try simp only [hq]
    exact ab_s_mono hG hXY h
  · exact h.elim
theorem ab_g_kp : ∀ (kp : List Bool) (i : Nat) (ls : List (Option Value)) (j : Nat) (v : Value), ab_g (ab_kp kp i ls) j = some v → ab_g ls (i + j) = some v
  | [], _, _, _, _ => fun h => by cases h
  | true :: r, i, ls, 0, v => fun h => h
  | false :: r, i, ls, 0, v => fun h => by cases h
  | true :: r, i, ls, j + 1, v => fun h => by
    have := ab_g_kp r (i + 1) ls j v h
    rwa [Nat.add_right_comm, Nat.add_assoc] at this
  | false :: r, i, ls, j + 1, v => fun h => by
    have := ab_g_kp r (i + 1) ls j v h
    rwa [Nat.add_right_comm, Nat.add_assoc] at this
theorem ab_kp_le (kp : List Bool) (ls : List (Option Value)) : ab_Le (ab_kp kp 0 ls) ls := fun j v h => by
  have := ab_g_kp kp 0 ls j v h
  rwa [Nat.zero_add] at this
section AbRun
variable {G : ab_G} {P : ab_P} {ret : Option FieldType} {nL : Nat} {Q : ab_R}
theorem ab_Run_up : ab_Up (ab_Run G P ret nL Q) := fun pc a b st M N hab h X hU hX => hU pc a b st M N hab (h X hU hX)
theorem ab_Run_k (hG : ab_MG G) {sp : List (Nat × List Bool)} : ∀ (n : Nat) (pc : Nat) (ls : List (Option Value)) (st : List Value) (M : ab_M) (N : ab_N), ab_k G P ret nL Q sp (ab_Run G P ret nL Q) n pc ls st M N → ab_Run G P ret nL Q pc ls st M N := by
  intro n
  induction n with
  | zero => intro pc ls st M N h; exact h
  | succ n ih =>
    intro pc ls st M N h
    unfold ab_k at h
    split at h
    · exact ab_Run_up pc _ _ st M N (ab_kp_le _ ls) h
    · intro X hU hX
      refine hX pc ls st M N (ab_st_mono hG (fun pc2 ls2 st2 M2 N2 h2 => ih pc2 ls2 st2 M2 N2 h2 X hU hX) h)
/-- a first step, then up to n more -/
theorem ab_Run_s (hG : ab_MG G) {sp : List (Nat × List Bool)} (n : Nat) {pc : Nat} {ls : List (Option Value)} {st : List Value} {M : ab_M} {N : ab_N} (h : ab_st G P ret nL Q (ab_k G P ret nL Q sp (ab_Run G P ret nL Q) n) pc ls st M N) : ab_Run G P ret nL Q pc ls st M N := fun X hU hX =>
  hX pc ls st M N (ab_st_mono hG (fun pc2 ls2 st2 M2 N2 h2 => ab_Run_k hG n pc2 ls2 st2 M2 N2 h2 X hU hX) h)
end AbRun
end
section
/-! the world of the cells, the locals -/
def ab_c (ad : Nat → Nat) : Value → Value
  | .ref k => .ref (ad k)
  | v => v
theorem ab_c_cat (ad : Nat → Nat) (v : Value) : (ab_c ad v).category = v.category := by cases v <;> rfl
def ab_f (ad : Nat → Nat) (M : ab_M) (N : ab_N) (k j : Nat) : Nat ⊕ FieldType → Value
  | .inl t => .ref (ad t)
  | .inr .long => .long (N k j)
  | .inr _ => .int (M k j)
def ab_e (ad : Nat → Nat) (cy : FieldType → ClassId) (M : ab_M) (N : ab_N) (k : Nat) : ab_L → va_E
  | .inl (ci, fs) => .inr (ci, fs.mapIdx (ab_f ad M N k))
  | .inr (.long, n) => .inl (cy .long, n, .inr (.inl (N k)))
  | .inr (ty, n) => .inl (cy ty, n, .inl (M k))
def ab_w (Λ : List ab_L) (ad : Nat → Nat) (cy : FieldType → ClassId) (M : ab_M) (N : ab_N) : va_W := Λ.mapIdx (fun k c => (ad k, ab_e ad cy M N k c))
theorem ab_w_at {Λ : List ab_L} {ad : Nat → Nat} {cy : FieldType → ClassId} {M : ab_M} {N : ab_N} {k : Nat} {c : ab_L} (h : Λ[k]? = some c) : (ab_w Λ ad cy M N)[k]? = some (ad k, ab_e ad cy M N k c) := by
  simp [ab_w, List.getElem?_mapIdx, h]
theorem ab_u_eq {α : Type} (M : Nat → Nat → α) (k : Nat) (f : Nat → α) : ab_u M k f k = f := by
  unfold ab_u; rw [Nat.beq_refl]
theorem ab_u_ne {α : Type} (M : Nat → Nat → α) {k j : Nat} (f : Nat → α) (h : j ≠ k) : ab_u M k f j = M j := by
  unfold ab_u
  cases e : Nat.beq j k with
  | true => exact absurd (Nat.eq_of_beq_eq_true e) h
  | false => rfl
theorem ab_f_congr {ad : Nat → Nat} {M M2 : ab_M} {N N2 : ab_N} {k : Nat} (h1 : M k = M2 k) (h2 : N k = N2 k) : ab_f ad M N k = ab_f ad M2 N2 k := by
  funext j x
  unfold ab_f
  split
  · rfl
  · rw [h2]
  · rw [h1]
theorem ab_e_congr {ad : Nat → Nat} {cy : FieldType → ClassId} {M M2 : ab_M} {N N2 : ab_N} {k : Nat} (h1 : M k = M2 k) (h2 : N k = N2 k) (c : ab_L) : ab_e ad cy M N k c = ab_e ad cy M2 N2 k c := by
  unfold ab_e
  split
  · rw [ab_f_congr h1 h2]
  · rw [h2]
  · rw [h1]
theorem ab_w_upd {Λ : List ab_L} {ad : Nat → Nat} {cy : FieldType → ClassId} {M M2 : ab_M} {N N2 : ab_N} {k : Nat} {c : ab_L} {e : va_E} (h : Λ[k]? = some c) (h1 : ∀ j, j ≠ k → M2 j = M j) (h2 : ∀ j, j ≠ k → N2 j = N j) (he : e = ab_e ad cy M2 N2 k c) : (ab_w Λ ad cy M N).set k (ad k, e) = ab_w Λ ad cy M2 N2 := by
  subst he
  have hk : k < Λ.length := (List.getElem?_eq_some_iff.mp h).1
  apply List.ext_getElem?
  intro j
  rw [List.getElem?_set]
  by_cases hj : k = j
  · subst hj
    rw [if_pos rfl, ab_w_at h, if_pos]
    simp [ab_w]
    exact hk
  · rw [if_neg hj]
    simp only [ab_w, List.getElem?_mapIdx]
    cases hc : Λ[j]? with
    | none => rfl
    | some c2 => simp only [Option.map_some, ab_e_congr (ad := ad) (cy := cy) (h1 j (fun q => hj q.symm)) (h2 j (fun q => hj q.symm)) c2]
theorem ab_e_arr {ad : Nat → Nat} {cy : FieldType → ClassId} {M : ab_M} {N : ab_N} {k n : Nat} {ty : FieldType} (h : ty ≠ .long) : ab_e ad cy M N k (.inr (ty, n)) = .inl (cy ty, n, .inl (M k)) := by
  cases ty <;> first | rfl | exact absurd rfl h
theorem ab_w_I {Λ : List ab_L} {ad : Nat → Nat} {cy : FieldType → ClassId} {M : ab_M} {N : ab_N} {k n : Nat} {ty : FieldType} (h : Λ[k]? = some (.inr (ty, n))) (ht : ty ≠ .long) (f : Nat → Int32) : (ab_w Λ ad cy M N).set k (ad k, .inl (cy ty, n, .inl f)) = ab_w Λ ad cy (ab_u M k f) N :=
  ab_w_upd h (fun j hj => ab_u_ne M f hj) (fun _ _ => rfl) (by rw [ab_e_arr ht, ab_u_eq])
theorem ab_w_J {Λ : List ab_L} {ad : Nat → Nat} {cy : FieldType → ClassId} {M : ab_M} {N : ab_N} {k n : Nat} (h : Λ[k]? = some (.inr (.long, n))) (f : Nat → Int64) : (ab_w Λ ad cy M N).set k (ad k, .inl (cy .long, n, .inr (.inl f))) = ab_w Λ ad cy M (ab_u N k f) :=
  ab_w_upd h (fun _ _ => rfl) (fun j hj => ab_u_ne N f hj) (by show _ = Sum.inl (cy .long, n, Sum.inr (Sum.inl (ab_u N k f k))); rw [ab_u_eq])
theorem ab_f_int {ad : Nat → Nat} {M : ab_M} {N : ab_N} {k j : Nat} {ty : FieldType} (h : ty ≠ .long) : ab_f ad M N k j (.inr ty) = .int (M k j) := by
  cases ty <;> first | rfl | exact absurd rfl h
theorem ab_w_O {Λ : List ab_L} {ad : Nat → Nat} {cy : FieldType → ClassId} {M : ab_M} {N : ab_N} {k j ci : Nat} {fs : List (Nat ⊕ FieldType)} {ty : FieldType} (h : Λ[k]? = some (.inl (ci, fs))) (hj : fs[j]? = some (.inr ty)) (ht : ty ≠ .long) (x : Int32) : (ab_w Λ ad cy M N).set k (ad k, .inr (ci, (fs.mapIdx (ab_f ad M N k)).set j (.int x))) = ab_w Λ ad cy (ab_u M k (upd (M k) j x)) N := by
  refine ab_w_upd h (fun j hj => ab_u_ne M _ hj) (fun _ _ => rfl) ?_
  show _ = Sum.inr (ci, fs.mapIdx (ab_f ad (ab_u M k (upd (M k) j x)) N k))
  congr 2
  apply List.ext_getElem?
  intro i
  rw [List.getElem?_set, List.getElem?_mapIdx, List.length_mapIdx]
  have hl : j < fs.length := (List.getElem?_eq_some_iff.mp hj).1
  by_cases e : j = i
  · subst e
    rw [if_pos rfl, if_pos hl, List.getElem?_mapIdx, hj]
    simp only [Option.map_some, ab_f_int ht, ab_u_eq, upd, if_pos]
  · rw [if_neg e, List.getElem?_mapIdx]
    cases hc : fs[i]? with
    | none => rfl
    | some c2 =>
      simp only [Option.map_some]
      congr 1
      unfold ab_f
      split
      · rfl
      · rfl
      · rw [ab_u_eq]; simp only [upd, if_neg (fun q : i = j => e q.symm)]
theorem ab_w_OJ {Λ : List ab_L} {ad : Nat → Nat} {cy : FieldType → ClassId} {M : ab_M} {N : ab_N} {k j ci : Nat} {fs : List (Nat ⊕ FieldType)} (h : Λ[k]? = some (.inl (ci, fs))) (hj : fs[j]? = some (.inr .long)) (x : Int64) : (ab_w Λ ad cy M N).set k (ad k, .inr (ci, (fs.mapIdx (ab_f ad M N k)).set j (.long x))) = ab_w Λ ad cy M (ab_u N k (vp_updL (N k) j x)) := by
  refine ab_w_upd h (fun _ _ => rfl) (fun j hj => ab_u_ne N _ hj) ?_
  show _ = Sum.inr (ci, fs.mapIdx (ab_f ad M (ab_u N k (vp_updL (N k) j x)) k))
  congr 2
  apply List.ext_getElem?
  intro i
  rw [List.getElem?_set, List.getElem?_mapIdx, List.length_mapIdx]
  have hl : j < fs.length := (List.getElem?_eq_some_iff.mp hj).1
  by_cases e : j = i
  · subst e
    rw [if_pos rfl, if_pos hl, List.getElem?_mapIdx, hj]
    simp only [Option.map_some, ab_f, ab_u_eq, vp_updL, if_pos]
  · rw [if_neg e, List.getElem?_mapIdx]
    cases hc : fs[i]? with
    | none => rfl
    | some c2 =>
      simp only [Option.map_some]
      congr 1
      unfold ab_f
      split
      · rfl
      · rw [ab_u_eq]; simp only [vp_updL, if_neg (fun q : i = j => e q.symm)]
      · rfl
theorem ab_w_D {Λ : List ab_L} {ad : Nat → Nat} {cy : FieldType → ClassId} {A : Nat → Prop} (hi : ∀ i j, i < Λ.length → j < Λ.length → ad i = ad j → i = j) (hA : ∀ k, k < Λ.length → A (ad k)) (M : ab_M) (N : ab_N) : va_D A (ab_w Λ ad cy M N) := by
  have key : ∀ (k : Nat) (q : Nat × va_E), (ab_w Λ ad cy M N)[k]? = some q → k < Λ.length ∧ q.1 = ad k := by
    intro k q h
    simp only [ab_w, List.getElem?_mapIdx] at h
    cases hc : Λ[k]? with
    | none => rw [hc] at h; cases h
    | some c =>
      rw [hc] at h
      cases h
      exact ⟨(List.getElem?_eq_some_iff.mp hc).1, rfl⟩
  refine ⟨fun i j p q h1 h2 h3 => ?_, fun k q h => ?_⟩
  · obtain ⟨a1, a2⟩ := key i p h1
    obtain ⟨b1, b2⟩ := key j q h2
    exact hi i j a1 b1 (by rw [← a2, ← b2]; exact h3)
  · obtain ⟨a1, a2⟩ := key k q h
    rw [a2]
    exact hA k a1
/-! locals -/
def ab_lv (ad : Nat → Nat) : Nat → List (Option Value) → List (Nat × Value)
  | _, [] => []
  | i, some v :: r => (i, ab_c ad v) :: ab_lv ad (i + 1) r
  | i, none :: r => ab_lv ad (i + 1) r
theorem ab_lv_mem (ad : Nat → Nat) : ∀ (ls : List (Option Value)) (i : Nat) (q : Nat × Value), q ∈ ab_lv ad i ls ↔ ∃ (j : Nat) (v : Value), ab_g ls j = some v ∧ q = (i + j, ab_c ad v)
  | [], i, q => by simp [ab_lv, ab_g]
  | some w :: r, i, q => by
    simp only [ab_lv, List.mem_cons, ab_lv_mem ad r (i + 1) q]
    constructor
    · rintro (rfl | ⟨j, v, h1, rfl⟩)
      · exact ⟨0, w, rfl, rfl⟩
      · exact ⟨j + 1, v, h1, by rw [Nat.add_right_comm, Nat.add_assoc]⟩
    · rintro ⟨j, v, h1, rfl⟩
      cases j with
      | zero => cases h1; exact Or.inl rfl
      | succ j => exact Or.inr ⟨j, v, h1, by rw [Nat.add_right_comm, Nat.add_assoc]⟩
  | none :: r, i, q => by
    simp only [ab_lv, ab_lv_mem ad r (i + 1) q]
    constructor
    · rintro ⟨j, v, h1, rfl⟩
      exact ⟨j + 1, v, h1, by rw [Nat.add_right_comm, Nat.add_assoc]⟩
    · rintro ⟨j, v, h1, rfl⟩
      cases j with
      | zero => cases h1
      | succ j => exact ⟨j, v, h1, by rw [Nat.add_right_comm, Nat.add_assoc]⟩
def ab_lh (ad : Nat → Nat) (lsC : Array Slot) (nL : Nat) (ls : List (Option Value)) : Prop := lv_has lsC nL (ab_lv ad 0 ls)
theorem ab_lh_mono {ad : Nat → Nat} {lsC : Array Slot} {nL : Nat} {l : List (Nat × Value)} {ls : List (Option Value)} (h : lv_has lsC nL l) (hm : ∀ (j : Nat) (v : Value), ab_g ls j = some v → (j, ab_c ad v) ∈ l) : ab_lh ad lsC nL ls := by
  refine ⟨h.1, h.2.1, fun q hq => h.2.2 q ?_⟩
  obtain ⟨j, v, h1, rfl⟩ := (ab_lv_mem ad ls 0 q).mp hq
  rw [Nat.zero_add]
  exact hm j v h1
theorem ab_lh_in {ad : Nat → Nat} {ls : List (Option Value)} {j : Nat} {v : Value} (h : ab_g ls j = some v) : (j, ab_c ad v) ∈ ab_lv ad 0 ls := (ab_lv_mem ad ls 0 _).mpr ⟨j, v, h, by rw [Nat.zero_add]⟩
theorem ab_lh_le {ad : Nat → Nat} {lsC : Array Slot} {nL : Nat} {a b : List (Option Value)} (hab : ab_Le a b) (h : ab_lh ad lsC nL b) : ab_lh ad lsC nL a := ab_lh_mono h (fun j v h1 => ab_lh_in (hab j v h1))
theorem ab_lh_at {ad : Nat → Nat} {lsC : Array Slot} {nL : Nat} {a : List (Option Value)} {i : Nat} {v : Value} (h : ab_lh ad lsC nL a) (hg : ab_g a i = some v) : lsC[i]? = some (.val (ab_c ad v)) := h.2.2 (i, ab_c ad v) (ab_lh_in hg)
theorem ab_g_nil (j : Nat) : ab_g [] j = none := by cases j <;> rfl
theorem ab_g_p : ∀ (ls : List (Option Value)) (i : Nat) (v : Option Value) (j : Nat), ab_g (ab_p ls i v) j = if j = i then v else ab_g ls j
  | [], 0, v, 0 => rfl
  | [], 0, v, j + 1 => by simp [ab_p, ab_g, ab_g_nil]
  | [], i + 1, v, 0 => by simp [ab_p, ab_g]
  | [], i + 1, v, j + 1 => by simp [ab_p, ab_g, ab_g_p [] i v j, ab_g_nil]
  | x :: r, 0, v, 0 => rfl
  | x :: r, 0, v, j + 1 => by simp [ab_p, ab_g]
  | x :: r, i + 1, v, 0 => by simp [ab_p, ab_g]
  | x :: r, i + 1, v, j + 1 => by simp [ab_p, ab_g, ab_g_p r i v j]
theorem ab_g_kl (ls : List (Option Value)) (i j : Nat) (v : Value) (h : ab_g (ab_kl ls i) j = some v) : ab_g ls j = some v ∧ ¬ (j + 1 = i ∧ v.category = 2) := by
  cases i with
  | zero => exact ⟨h, fun q => by omega⟩
  | succ n =>
    unfold ab_kl at h
    dsimp only at h
    have fin : ∀ hh : ab_g (ab_p ls n none) j = some v, ab_g ls j = some v ∧ ¬ (j + 1 = n + 1 ∧ v.category = 2) := by
      intro hh
      rw [ab_g_p] at hh
      by_cases e : j = n
      · rw [if_pos e] at hh; cases hh
      · rw [if_neg e] at hh; exact ⟨hh, fun q => e (by omega)⟩
    have oth : ab_g ls j = some v → (∀ w, ab_g ls n = some w → w.category = 1) → ab_g ls j = some v ∧ ¬ (j + 1 = n + 1 ∧ v.category = 2) := by
      intro hh hc
      refine ⟨hh, fun q => ?_⟩
      have e : j = n := by omega
      subst e
      have := hc v hh
      omega
    cases hg : ab_g ls n with
    | none =>
      rw [hg] at h
      exact oth h (fun w hw => by rw [hg] at hw; cases hw)
    | some w =>
      rw [hg] at h
      cases w with
      | long x => exact fin h
      | double x => exact fin h
      | _ => exact oth h (fun w hw => by rw [hg] at hw; cases hw; rfl)
theorem ab_lh_s1 {ad : Nat → Nat} {lsC : Array Slot} {nL i : Nat} {a : List (Option Value)} {v : Value} (h : lv_has lsC nL ((i, ab_c ad v) :: (ab_lv ad 0 a).filter (fun q => !(q.1 == i) && !(q.1 + 1 == i && q.2.category == 2)))) : ab_lh ad lsC nL (ab_p (ab_kl a i) i (some v)) := by
  refine ab_lh_mono h (fun j w hw => ?_)
  rw [ab_g_p] at hw
  by_cases e : j = i
  · rw [if_pos e] at hw
    cases hw
    rw [e]
    exact List.mem_cons_self
  · rw [if_neg e] at hw
    obtain ⟨h1, h2⟩ := ab_g_kl a i j w hw
    refine List.mem_cons_of_mem _ (List.mem_filter.mpr ⟨ab_lh_in h1, ?_⟩)
    have e2 : (j == i) = false := by simpa using e
    simp only [e2, Bool.not_false, Bool.true_and, Bool.not_eq_true', Bool.and_eq_false_imp, beq_iff_eq, ab_c_cat]
    intro q
    simpa using fun z => h2 ⟨q, z⟩
theorem ab_lh_s2 {ad : Nat → Nat} {lsC : Array Slot} {nL i : Nat} {a : List (Option Value)} {v : Value} (h : lv_has lsC nL ((i, ab_c ad v) :: (ab_lv ad 0 a).filter (fun q => !(q.1 == i) && (!(q.1 == i + 1) && !(q.1 + 1 == i && q.2.category == 2))))) : ab_lh ad lsC nL (ab_p (ab_p (ab_kl a i) i (some v)) (i + 1) none) := by
  refine ab_lh_mono h (fun j w hw => ?_)
  rw [ab_g_p] at hw
  by_cases e1 : j = i + 1
  · rw [if_pos e1] at hw; cases hw
  rw [if_neg e1, ab_g_p] at hw
  by_cases e : j = i
  · rw [if_pos e] at hw
    cases hw
    rw [e]
    exact List.mem_cons_self
  · rw [if_neg e] at hw
    obtain ⟨h1, h2⟩ := ab_g_kl a i j w hw
    refine List.mem_cons_of_mem _ (List.mem_filter.mpr ⟨ab_lh_in h1, ?_⟩)
    have e2 : (j == i) = false := by simpa using e
    have e3 : (j == i + 1) = false := by simpa using e1
    simp only [e2, e3, Bool.not_false, Bool.true_and, Bool.not_eq_true', Bool.and_eq_false_imp, beq_iff_eq, ab_c_cat]
    intro q
    simpa using fun z => h2 ⟨q, z⟩
/-- the locals at the entry -/
def ab_en : List Value → List (Option Value)
  | [] => []
  | v :: r => match Nat.beq v.category 2 with
    | true => some v :: none :: ab_en r
    | false => some v :: ab_en r
theorem ab_en_in (ad : Nat → Nat) : ∀ (as : List Value) (i j : Nat) (v : Value), ab_g (ab_en as) j = some v → (i + j, ab_c ad v) ∈ lv_args i (as.map (ab_c ad))
  | [], i, j, v, h => by simp [ab_en, ab_g_nil] at h
  | w :: r, i, j, v, h => by
    unfold ab_en at h
    simp only [List.map_cons, lv_args, ab_c_cat]
    split at h
    · rename_i hc
      have hc2 : w.category = 2 := Nat.eq_of_beq_eq_true hc
      rw [if_pos hc2]
      match j, h with
      | 0, h => cases h; exact List.mem_cons_self
      | 1, h => cases h
      | j + 2, h =>
        have := ab_en_in ad r (i + 2) j v h
        rw [show i + (j + 2) = i + 2 + j by omega]
        exact List.mem_cons_of_mem _ this
    · rename_i hc
      have hc2 : ¬ w.category = 2 := fun q => by rw [q] at hc; cases hc
      rw [if_neg hc2]
      match j, h with
      | 0, h => cases h; exact List.mem_cons_self
      | j + 1, h =>
        have := ab_en_in ad r (i + 1) j v h
        rw [show i + (j + 1) = i + 1 + j by omega]
        exact List.mem_cons_of_mem _ this
end
section
/-! what the machine's runs say of W -/
def ab_B : List Cond := lw_tbl.filter goodWord
theorem ab_in {w : Cond} (i : Nat) (h : tables_1[i]? = some w) (g : goodWord w = true) : w ∈ ab_B := List.mem_filter.mpr ⟨List.mem_append_right _ (List.mem_of_getElem? h), g⟩
theorem ab_inS {w : Cond} (h : w ∈ k2_sels lw_privs) (g : goodWord w = true) : w ∈ ab_B := List.mem_filter.mpr ⟨List.mem_append_left _ h, g⟩
theorem ab_good : ∀ w ∈ ab_B, goodWord w = true := fun _ h => (List.mem_filter.mp h).2
theorem ab_goodIn : GoodIn ab_B ab_B := fun w h => ⟨h, good_of_word (ab_good w h)⟩
theorem ab_lwIn : ∀ w ∈ ab_B, w ∈ lw_tbl := fun _ h => (List.mem_filter.mp h).1
def ab_tys (cy : FieldType → ClassId) : List (ClassId × FieldType) := [(cy .int, .int), (cy .long, .long), (cy .boolean, .boolean)]
/-- how long an instruction is -/
def ab_len (pc nx : Nat) : Instr → Nat
  | .aload _ | .iload _ | .lload _ | .istore _ | .astore _ | .lstore _ | .bipush _ | .ldc _ => 2
  | .iinc _ _ | .sipush _ | .ifCond _ _ | .if_icmp _ _ | .goto _ | .getfield _ | .putfield _ | .getstatic _ | .ldc_w _ | .ldc2_w _ | .invokevirtual _ | .invokestatic _ | .invokespecial _ => 3
  | .tableswitch _ _ _ _ => nx - pc
  | _ => 1
def ab_swok (pc : Nat) (d : Int) : Int → List Int → List Int32 → List Nat → Bool
  | _, [], [], [] => true
  | lo, o :: os, k :: ks, t :: ts => decide (k.toInt = lo) && decide ((pc : Int) + o = (t : Int)) && ab_swok pc d (lo + 1) os ks ts
  | _, _, _, _ => false
def ab_arg (pc nx : Nat) (tg : List Nat) (ks : List Int32) : Instr → Bool
  | .aload_n k | .iload_n k | .lload_n k | .istore_n k | .astore_n k | .lstore_n k => decide (tg = [(k : Nat)]) && decide (nx = pc + 1)
  | .iconst n => decide (ks = [Int32.ofInt n]) && decide (nx = pc + 1)
  | .bipush n => decide (ks = [(Int8.ofInt n).toInt32]) && decide (nx = pc + 2)
  | .sipush n => decide (ks = [(Int16.ofInt n).toInt32]) && decide (nx = pc + 3)
  | .lconst n => decide (tg = [(n : Nat)]) && decide (nx = pc + 1)
  | .iinc _ n => decide (ks = [Int32.ofInt n]) && decide (nx = pc + 3)
  | .ifCond _ o | .if_icmp _ o | .goto o => decide ((pc : Int) + o = (ab_h tg : Int)) && decide (nx = pc + 3)
  | .tableswitch d lo hi os => decide ((pc : Int) + d = (ab_h tg : Int)) && decide (hi = lo + os.size - 1) && ab_swok pc d lo os.toList ks (ab_tl tg)
  | i => decide (nx = pc + ab_len pc nx i)
def ab_okq (cc : ByteArray) (pc : Nat) (q : ab_Q) : Bool := match q with
  | (ins, nx, tg, ks) => decide (decode cc pc = .ok (ins, ab_len pc nx ins)) && ab_arg pc nx tg ks ins
def ab_ok (cc : ByteArray) (P : ab_P) : Bool := P.all (fun e => ab_okq cc e.1 e.2)
theorem ab_a_in {α : Type} : ∀ (l : List (Nat × α)) (n : Nat) (v : α), ab_a l n = some v → (n, v) ∈ l
  | [], _, _, h => by cases h
  | q :: r, n, v, h => by
    unfold ab_a at h
    split at h
    · rename_i hb
      cases h
      rw [← Nat.eq_of_beq_eq_true hb]
      exact List.mem_cons_self
    · exact List.mem_cons_of_mem _ (ab_a_in r n v h)
theorem ab_ok_q {cc : ByteArray} {P : ab_P} (h : ab_ok cc P = true) {pc : Nat} {ins : Instr} {nx : Nat} {tg : List Nat} {ks : List Int32} (hq : ab_a P pc = some (ins, nx, tg, ks)) : decode cc pc = .ok (ins, ab_len pc nx ins) ∧ ab_arg pc nx tg ks ins = true := by
  have h1 := List.all_eq_true.mp h _ (ab_a_in P pc _ hq)
  simpa [ab_okq] using h1
/-- a world's classes and fields, as the words say -/
def ab_Cl (cl : List vw_C) : Prop := ∀ (ci : Nat) (C : String) (T : u_T) (N : Nat), cl[ci]? = some (C, T, N) → (∀ w ∈ u_ws C T N, w ∈ ab_B) ∧ (∃ ty0 : Nat → FieldType, ∀ k, k < N → parseFieldDescriptor (T k).2.2.1 = some (ty0 k)) ∧ ∀ a, a < N → ∀ b, b < N → a ≠ b → (T a).2.1 ≠ (T b).2.1
def ab_Fld (own : String) (cl : List vw_C) (fld : List (Nat × Nat × Nat)) : Prop := ∀ i ci j, ab_a fld i = some (ci, j) → ∃ (C : String) (T : u_T) (N : Nat), cl[ci]? = some (C, T, N) ∧ j < N ∧ Cond.fieldLink own i (T j).1 (T j).2.1 (T j).2.2.1 ∈ ab_B
/-- a field that is a number: not final, its type -/
def ab_Lam (cl : List vw_C) (Λ : List ab_L) : Prop := ∀ (k ci : Nat) (fs : List (Nat ⊕ FieldType)) (j : Nat) (ty : FieldType), Λ[k]? = some (.inl (ci, fs)) → fs[j]? = some (.inr ty) → ∃ (C : String) (T : u_T) (N : Nat), cl[ci]? = some (C, T, N) ∧ parseFieldDescriptor (T j).2.2.1 = some ty ∧ (T j).2.2.2 = false
section AbW
variable {p : Program} {l : Launch} {e : Env} {R : Room} {s : State} {m : MethodId} {args : Array Value} {below : List Frame} {meth : Method} {c : Code}
variable {cc : ByteArray} {own : String} {nL : Nat} {cl : List vw_C} {Λ : List ab_L} {D : va_G} {cy : FieldType → ClassId} {ad : Nat → Nat} {A : Nat → Prop} {Qm : State → Prop}
/-- what a method's body stands on -/
def ab_Env (p : Program) (s : State) (m : MethodId) (args : Array Value) (meth : Method) (c : Code) (cc : ByteArray) (own : String) (nL : Nat) (ret : Option FieldType) (cl : List vw_C) (Λ : List ab_L) (D : va_G) (cy : FieldType → ClassId) (ad : Nat → Nat) (A : Nat → Prop) : Prop :=
  (p.tables.exec = Jvm.exec ∧ c.code = cc ∧ c.maxLocals = nL ∧ s.vm.findClass own = some m.cls ∧ ∀ w ∈ ab_B, w.before args s = true) ∧ meth.sig.returnType = ret ∧ meth.locks = false ∧ va_K D cl (ab_tys cy) s ∧ (∀ i j, i < Λ.length → j < Λ.length → ad i = ad j → i = j) ∧ (∀ k, k < Λ.length → A (ad k)) ∧ (∀ q, s.heap.size ≤ q → A q)
def ab_X (p : Program) (l : Launch) (e : Env) (R : Room) (s : State) (m : MethodId) (args : Array Value) (below : List Frame) (meth : Method) (c : Code) (nL : Nat) (cl : List vw_C) (Λ : List ab_L) (D : va_G) (cy : FieldType → ClassId) (ad : Nat → Nat) (A : Nat → Prop) (Qm : State → Prop) : ab_K := fun pc ls st M N =>
  ∀ (H : Heap) (locs : List Loc) (lsC : Array Slot), va_P D cl (ab_w Λ ad cy M N) H → va_S A s.heap H locs → ab_lh ad lsC nL ls → W p l e R s m args below meth c H locs 0 0 Qm (F0 m pc lsC (st.map (ab_c ad)))
theorem ab_X_up : ab_Up (ab_X p l e R s m args below meth c nL cl Λ D cy ad A Qm) := fun pc a b st M N hab h H locs lsC hP hS hl => h H locs lsC hP hS (ab_lh_le hab hl)
/-- a constant is loaded -/
def ab_Cst (p : Program) (l : Launch) (e : Env) (R : Room) (s : State) (m : MethodId) (args : Array Value) (below : List Frame) (meth : Method) (c : Code) (cc : ByteArray) (ad : Nat → Nat) (A : Nat → Prop) (Qm : State → Prop) (cst : List (Nat × Value)) : Prop := ∀ (i : Nat) (v : Value), ab_a cst i = some v → ∀ (pc n : Nat) (H : Heap) (locs : List Loc) (lsC : Array Slot) (rest : List Value), va_S A s.heap H locs → (decode cc pc = .ok (.ldc i, 2) ∧ n = 2 ∧ v.category = 1 ∨ decode cc pc = .ok (.ldc_w i, 3) ∧ n = 3 ∧ (∃ x, v = .int x) ∨ decode cc pc = .ok (.ldc2_w i, 3) ∧ n = 3 ∧ v.category = 2) → W p l e R s m args below meth c H locs 0 0 Qm (F0 m (pc + n) lsC (ab_c ad v :: rest)) → W p l e R s m args below meth c H locs 0 0 Qm (F0 m pc lsC rest)
/-- a static is loaded -/
def ab_Sta (p : Program) (l : Launch) (e : Env) (R : Room) (s : State) (m : MethodId) (args : Array Value) (below : List Frame) (meth : Method) (c : Code) (cc : ByteArray) (ad : Nat → Nat) (A : Nat → Prop) (Qm : State → Prop) (sta : List (Nat × Nat)) : Prop := ∀ (i k : Nat), ab_a sta i = some k → ∀ (pc : Nat) (H : Heap) (locs : List Loc) (lsC : Array Slot) (rest : List Value), va_S A s.heap H locs → decode cc pc = .ok (.getstatic i, 3) → W p l e R s m args below meth c H locs 0 0 Qm (F0 m (pc + 3) lsC (.ref (ad k) :: rest)) → W p l e R s m args below meth c H locs 0 0 Qm (F0 m pc lsC rest)
/-- a table is read -/
def ab_Tab (p : Program) (l : Launch) (e : Env) (R : Room) (s : State) (m : MethodId) (args : Array Value) (below : List Frame) (meth : Method) (c : Code) (cc : ByteArray) (ad : Nat → Nat) (A : Nat → Prop) (Qm : State → Prop) (tab : List (Nat × Nat × (Nat → Int32))) : Prop := ∀ (k n : Nat) (f : Nat → Int32), ab_a tab k = some (n, f) → ∀ (pc : Nat) (H : Heap) (locs : List Loc) (lsC : Array Slot) (rest : List Value) (i : Int32), va_S A s.heap H locs → vp_in i n → decode cc pc = .ok (.iaload, 1) → W p l e R s m args below meth c H locs 0 0 Qm (F0 m (pc + 1) lsC (.int (f i.toNatClampNeg) :: rest)) → W p l e R s m args below meth c H locs 0 0 Qm (F0 m pc lsC (.int i :: .ref (ad k) :: rest))
/-- a call is made -/
def ab_Inv (p : Program) (l : Launch) (e : Env) (R : Room) (s : State) (m : MethodId) (args : Array Value) (below : List Frame) (meth : Method) (c : Code) (cc : ByteArray) (nL : Nat) (cl : List vw_C) (Λ : List ab_L) (D : va_G) (cy : FieldType → ClassId) (ad : Nat → Nat) (A : Nat → Prop) (Qm : State → Prop) (op : Nat → Instr) (inv : List (Nat × Nat × ab_T)) : Prop := ∀ (i n : Nat) (T : ab_T), ab_a inv i = some (n, T) → ∀ (pc : Nat) (H : Heap) (locs : List Loc) (lsC : Array Slot) (as rest : List Value) (M : ab_M) (N : ab_N) (k : ab_R), decode cc pc = .ok (op i, 3) → as.length = n → (rest.map fun v => v.category).sum ≤ 8 → lsC.size = nL → va_P D cl (ab_w Λ ad cy M N) H → va_S A s.heap H locs → T as M N k →
  (∀ (r : Option Value) (M2 : ab_M) (N2 : ab_N) (H2 : Heap) (locs2 : List Loc), k r M2 N2 → va_P D cl (ab_w Λ ad cy M2 N2) H2 → va_S A s.heap H2 locs2 → W p l e R s m args below meth c H2 locs2 0 0 Qm (F0 m (pc + 3) lsC ((r.map (ab_c ad)).toList ++ rest))) →
  W p l e R s m args below meth c H locs 0 0 Qm (F0 m pc lsC ((as.map (ab_c ad)).reverse ++ rest))
/-- the method's end -/
def ab_Fin (cl : List vw_C) (Λ : List ab_L) (D : va_G) (cy : FieldType → ClassId) (ad : Nat → Nat) (A : Nat → Prop) (Q : ab_R) : Array Value → State → Outcome → State → Prop := fun _ st oc t => (∃ (r : Option Value) (M : ab_M) (N : ab_N), oc = .returned (r.map (ab_c ad)) ∧ Q r M N ∧ va_P D cl (ab_w Λ ad cy M N) t.heap) ∧ va_F A st t
theorem ab_sw_sound {pc : Nat} {x : Int32} {d : Nat} {X : Nat → Prop} {dI : Int} {Y : Prop} (hd : (x.toInt < (x.toInt : Int) → False) → True) : ∀ (os : List Int) (ks : List Int32) (ts : List Nat) (lo : Int), ab_swok pc dI lo os ks ts = true → ab_sw X x d ks ts → (∀ (i : Nat) (o : Int) (t : Nat), os[i]? = some o → x.toInt = lo + i → (pc : Int) + o = (t : Int) → X t → Y) → ((x.toInt < lo ∨ lo + os.length - 1 < x.toInt) → X d → Y) → Y
  | [], [], [], lo, _, h, _, h2 => h2 (by
      rcases Int.lt_or_le x.toInt lo with q | q
      · exact Or.inl q
      · exact Or.inr (by simp only [List.length_nil]; omega)) h
  | o :: os, k :: ks, t :: ts, lo, hok, h, h1, h2 => by
    simp only [ab_swok, Bool.and_eq_true, decide_eq_true_eq] at hok
    obtain ⟨⟨a1, a2⟩, a3⟩ := hok
    by_cases hx : x = k
    · exact h1 0 o t rfl (by rw [hx, a1]; simp) a2 (h.1 hx)
    · refine ab_sw_sound hd os ks ts (lo + 1) a3 (h.2 hx) (fun i o2 t2 g1 g2 g3 g4 => h1 (i + 1) o2 t2 g1 (by rw [g2]; push_cast; omega) g3 g4) (fun g1 g2 => h2 ?_ g2)
      have hne : ¬ x.toInt = lo := fun q => hx (Int32.toInt_inj.mp (by rw [a1]; exact q))
      simp only [List.length_cons] at g1 ⊢
      push_cast at g1 ⊢
      omega
  | [], [], _ :: _, _, hok, _, _, _ => by simp [ab_swok] at hok
  | [], _ :: _, _, _, hok, _, _, _ => by simp [ab_swok] at hok
  | _ :: _, [], _, _, hok, _, _, _ => by simp [ab_swok] at hok
  | _ :: _, _ :: _, [], _, hok, _, _, _ => by simp [ab_swok] at hok
end AbW
end
section
/-! soundness of one step -/
section AbInv
variable {X : ab_K} {nx : Nat} {ls : List (Option Value)} {st : List Value} {M : ab_M} {N : ab_N}
theorem ab_ld_0 {v : Option Value} (h : ab_ld X nx ls st M N 0 v) : ∃ x, v = some (.int x) ∧ X nx ls (.int x :: st) M N := by
  cases v with
  | none => exact h.elim
  | some w => cases w <;> first | exact ⟨_, rfl, h⟩ | exact h.elim
theorem ab_ld_1 {v : Option Value} (h : ab_ld X nx ls st M N 1 v) : ∃ x, v = some (.long x) ∧ X nx ls (.long x :: st) M N := by
  cases v with
  | none => exact h.elim
  | some w => cases w <;> first | exact ⟨_, rfl, h⟩ | exact h.elim
theorem ab_ld_2 {v : Option Value} (h : ab_ld X nx ls st M N 2 v) : ∃ x, v = some (.ref x) ∧ X nx ls (.ref x :: st) M N := by
  cases v with
  | none => exact h.elim
  | some w => cases w <;> first | exact ⟨_, rfl, h⟩ | exact h.elim
theorem ab_i2_e {f : Int32 → Int32 → Int32} (h : ab_i2 X nx ls st M N f) : ∃ x y r, st = .int y :: .int x :: r ∧ X nx ls (.int (f x y) :: r) M N := by
  unfold ab_i2 at h; split at h
  · exact ⟨_, _, _, rfl, h⟩
  · exact h.elim
theorem ab_l2_e {f : Int64 → Int64 → Int64} (h : ab_l2 X nx ls st M N f) : ∃ x y r, st = .long y :: .long x :: r ∧ X nx ls (.long (f x y) :: r) M N := by
  unfold ab_l2 at h; split at h
  · exact ⟨_, _, _, rfl, h⟩
  · exact h.elim
theorem ab_b1_e {tg : Nat} {f : Int32 → Prop} (h : ab_b1 X nx tg ls st M N f) : ∃ x r, st = .int x :: r ∧ (f x → X tg ls r M N) ∧ (¬ f x → X nx ls r M N) := by
  unfold ab_b1 at h; split at h
  · exact ⟨_, _, rfl, h⟩
  · exact h.elim
theorem ab_b2_e {tg : Nat} {f : Int32 → Int32 → Prop} (h : ab_b2 X nx tg ls st M N f) : ∃ x y r, st = .int y :: .int x :: r ∧ (f x y → X tg ls r M N) ∧ (¬ f x y → X nx ls r M N) := by
  unfold ab_b2 at h; split at h
  · exact ⟨_, _, _, rfl, h⟩
  · exact h.elim
theorem ab_blt {i n : Nat} (h : Nat.blt i n = true) : i < n := Nat.le_of_ble_eq_true h
theorem ab_s1_0 {nL i : Nat} (h : ab_s1 X nx nL i ls st M N 0) : i < nL ∧ ∃ x r, st = .int x :: r ∧ X nx (ab_p (ab_kl ls i) i (some (.int x))) r M N := by
  unfold ab_s1 at h; split at h
  · rename_i hb
    refine ⟨ab_blt hb, ?_⟩
    split at h
    · exact ⟨_, _, rfl, h⟩
    · exact absurd ‹(0:Nat) = 2› (by decide)
    · exact h.elim
  · exact h.elim
theorem ab_s1_2 {nL i : Nat} (h : ab_s1 X nx nL i ls st M N 2) : i < nL ∧ ∃ x r, st = .ref x :: r ∧ X nx (ab_p (ab_kl ls i) i (some (.ref x))) r M N := by
  unfold ab_s1 at h; split at h
  · rename_i hb
    refine ⟨ab_blt hb, ?_⟩
    split at h
    · exact absurd ‹(2:Nat) = 0› (by decide)
    · exact ⟨_, _, rfl, h⟩
    · exact h.elim
  · exact h.elim
theorem ab_s2_e {nL i : Nat} (h : ab_s2 X nx nL i ls st M N) : i + 1 < nL ∧ ∃ x r, st = .long x :: r ∧ X nx (ab_p (ab_p (ab_kl ls i) i (some (.long x))) (i + 1) none) r M N := by
  unfold ab_s2 at h; split at h
  · rename_i hb
    refine ⟨ab_blt hb, ?_⟩
    split at h
    · exact ⟨_, _, rfl, h⟩
    · exact h.elim
  · exact h.elim
theorem ab_inc_e {nL i : Nat} {v : Int32} (h : ab_inc X nx nL i v ls st M N) : i < nL ∧ ∃ x, ab_g ls i = some (.int x) ∧ X nx (ab_p (ab_kl ls i) i (some (.int (x + v)))) st M N := by
  unfold ab_inc at h; split at h
  · rename_i hb
    refine ⟨ab_blt hb, ?_⟩
    split at h
    · rename_i x e
      exact ⟨x, e, h⟩
    · exact h.elim
  · exact h.elim
theorem ab_get_e {Λ : List ab_L} {o : Option (Nat × Nat)} (h : ab_get Λ X nx ls st M N o) : ∃ ci j k r fs, o = some (ci, j) ∧ st = .ref k :: r ∧ Λ[k]? = some (.inl (ci, fs)) ∧ ab_gf X nx ls k j r M N fs[j]? := by
  unfold ab_get at h; split at h
  · split at h
    · split at h
      · rename_i hΛ
        split at h
        · rename_i hb
          rw [Nat.eq_of_beq_eq_true hb] at hΛ
          exact ⟨_, _, _, _, _, rfl, rfl, hΛ, h⟩
        · exact h.elim
      · exact h.elim
    · exact h.elim
  · exact h.elim
theorem ab_put_e {Λ : List ab_L} {o : Option (Nat × Nat)} (h : ab_put Λ X nx ls st M N o) : ∃ ci j k v r fs, o = some (ci, j) ∧ st = v :: .ref k :: r ∧ Λ[k]? = some (.inl (ci, fs)) ∧ ab_pf X nx ls k j v r M N fs[j]? := by
  unfold ab_put at h; split at h
  · split at h
    · split at h
      · rename_i hΛ
        split at h
        · rename_i hb
          rw [Nat.eq_of_beq_eq_true hb] at hΛ
          exact ⟨_, _, _, _, _, _, rfl, rfl, hΛ, h⟩
        · exact h.elim
      · exact h.elim
    · exact h.elim
  · exact h.elim
theorem ab_iald_e {Λ : List ab_L} {tab : List (Nat × Nat × (Nat → Int32))} (h : ab_iald Λ tab X nx ls st M N) : ∃ i k r, st = .int i :: .ref k :: r ∧ ((∃ n, Λ[k]? = some (.inr (.int, n)) ∧ vp_in i n ∧ X nx ls (.int (M k i.toNatClampNeg) :: r) M N) ∨ ∃ n f, ab_a tab k = some (n, f) ∧ vp_in i n ∧ X nx ls (.int (f i.toNatClampNeg) :: r) M N) := by
  unfold ab_iald at h; split at h
  · split at h
    · rename_i hΛ
      exact ⟨_, _, _, rfl, Or.inl ⟨_, hΛ, h.1, h.2⟩⟩
    · split at h
      · rename_i ht
        exact ⟨_, _, _, rfl, Or.inr ⟨_, _, ht, h.1, h.2⟩⟩
      · exact h.elim
    · exact h.elim
  · exact h.elim
theorem ab_zald_e {Λ : List ab_L} (h : ab_zald Λ X nx ls st M N) : ∃ i k r n, st = .int i :: .ref k :: r ∧ Λ[k]? = some (.inr (.boolean, n)) ∧ vp_in i n ∧ X nx ls (.int (M k i.toNatClampNeg) :: r) M N := by
  unfold ab_zald at h; split at h
  · split at h
    · rename_i hΛ
      exact ⟨_, _, _, _, rfl, hΛ, h.1, h.2⟩
    · exact h.elim
  · exact h.elim
theorem ab_lald_e {Λ : List ab_L} (h : ab_lald Λ X nx ls st M N) : ∃ i k r n, st = .int i :: .ref k :: r ∧ Λ[k]? = some (.inr (.long, n)) ∧ vp_in i n ∧ X nx ls (.long (N k i.toNatClampNeg) :: r) M N := by
  unfold ab_lald at h; split at h
  · split at h
    · rename_i hΛ
      exact ⟨_, _, _, _, rfl, hΛ, h.1, h.2⟩
    · exact h.elim
  · exact h.elim
theorem ab_iast_e {Λ : List ab_L} (h : ab_iast Λ X nx ls st M N) : ∃ x i k r n, st = .int x :: .int i :: .ref k :: r ∧ Λ[k]? = some (.inr (.int, n)) ∧ vp_in i n ∧ X nx ls r (ab_u M k (upd (M k) i.toNatClampNeg x)) N := by
  unfold ab_iast at h; split at h
  · split at h
    · rename_i hΛ
      exact ⟨_, _, _, _, _, rfl, hΛ, h.1, h.2⟩
    · exact h.elim
  · exact h.elim
theorem ab_zast_e {Λ : List ab_L} (h : ab_zast Λ X nx ls st M N) : ∃ x i k r n, st = .int x :: .int i :: .ref k :: r ∧ Λ[k]? = some (.inr (.boolean, n)) ∧ vp_in i n ∧ X nx ls r (ab_u M k (upd (M k) i.toNatClampNeg (vp_nar .boolean x))) N := by
  unfold ab_zast at h; split at h
  · split at h
    · rename_i hΛ
      exact ⟨_, _, _, _, _, rfl, hΛ, h.1, h.2⟩
    · exact h.elim
  · exact h.elim
theorem ab_last_e {Λ : List ab_L} (h : ab_last Λ X nx ls st M N) : ∃ x i k r n, st = .long x :: .int i :: .ref k :: r ∧ Λ[k]? = some (.inr (.long, n)) ∧ vp_in i n ∧ X nx ls r M (ab_u N k (vp_updL (N k) i.toNatClampNeg x)) := by
  unfold ab_last at h; split at h
  · split at h
    · rename_i hΛ
      exact ⟨_, _, _, _, _, rfl, hΛ, h.1, h.2⟩
    · exact h.elim
  · exact h.elim
theorem ab_alen_e {Λ : List ab_L} (h : ab_alen Λ X nx ls st M N) : ∃ k r n, st = .ref k :: r ∧ (Λ[k]? = some (.inr (.int, n)) ∨ Λ[k]? = some (.inr (.long, n))) ∧ X nx ls (.int (Int32.ofNat n) :: r) M N := by
  unfold ab_alen at h; split at h
  · split at h
    · rename_i hΛ
      exact ⟨_, _, _, rfl, Or.inl hΛ, h⟩
    · rename_i hΛ
      exact ⟨_, _, _, rfl, Or.inr hΛ, h⟩
    · exact h.elim
  · exact h.elim
theorem ab_cst_e {k : Nat} {o : Option Value} (h : ab_cst X nx ls st M N k o) : ∃ v, o = some v ∧ v.category = k ∧ X nx ls (v :: st) M N := by
  cases o with
  | none => exact h.elim
  | some v =>
    unfold ab_cst at h
    dsimp only at h
    split at h
    · rename_i hb
      exact ⟨v, rfl, Nat.eq_of_beq_eq_true hb, h⟩
    · exact h.elim
theorem ab_inv_e {o : Option (Nat × ab_T)} (h : ab_inv X nx ls st M N o) : ∃ n T, o = some (n, T) ∧ n ≤ st.length ∧ ab_cs (st.drop n) ≤ 8 ∧ T (st.take n).reverse M N (fun r M2 N2 => X nx ls (ab_ol r (st.drop n)) M2 N2) := by
  unfold ab_inv at h; split at h
  · split at h
    · rename_i h1
      split at h
      · rename_i h2
        exact ⟨_, _, rfl, Nat.le_of_ble_eq_true h1, Nat.le_of_ble_eq_true h2, h⟩
      · exact h.elim
    · exact h.elim
  · exact h.elim
theorem ab_cs_sum (ad : Nat → Nat) : ∀ l : List Value, ab_cs l = ((l.map (ab_c ad)).map fun v => v.category).sum
  | [] => rfl
  | v :: r => by simp only [ab_cs, List.map_cons, List.sum_cons, ab_c_cat, ab_cs_sum ad r]
end AbInv
section AbStep
variable {p : Program} {l : Launch} {e : Env} {R : Room} {s : State} {m : MethodId} {args : Array Value} {below : List Frame} {meth : Method} {c : Code}
variable {cc : ByteArray} {own : String} {nL : Nat} {ret : Option FieldType} {cl : List vw_C} {Λ : List ab_L} {D : va_G} {cy : FieldType → ClassId} {ad : Nat → Nat} {A : Nat → Prop} {Qm : State → Prop}
theorem ab_call {op : Nat → Instr} {pc i : Nat} {ls : List (Option Value)} {st : List Value} {M : ab_M} {N : ab_N} {inv : List (Nat × Nat × ab_T)} (hinv : ab_Inv p l e R s m args below meth c cc nL cl Λ D cy ad A Qm op inv) (hdec : decode cc pc = .ok (op i, 3)) (h : ab_inv (ab_X p l e R s m args below meth c nL cl Λ D cy ad A Qm) (pc + 3) ls st M N (ab_a inv i)) : ab_X p l e R s m args below meth c nL cl Λ D cy ad A Qm pc ls st M N := by
  intro H locs lsC hP hS hl
  obtain ⟨n, T, h1, h2, h3, h4⟩ := ab_inv_e h
  have key := hinv i n T h1 pc H locs lsC (st.take n).reverse ((st.drop n).map (ab_c ad)) M N _ hdec (by simp; omega) (by rw [← ab_cs_sum ad]; exact h3) hl.1 hP hS h4 (fun r M2 N2 H2 locs2 hk hP2 hS2 => by
    have := hk H2 locs2 lsC hP2 hS2 hl
    cases r with
    | none => exact this
    | some v => exact this)
  have e1 : ((st.take n).reverse.map (ab_c ad)).reverse ++ (st.drop n).map (ab_c ad) = st.map (ab_c ad) := by
    rw [← List.map_reverse, List.reverse_reverse, ← List.map_append, List.take_append_drop]
  rw [e1] at key
  exact key
set_option maxHeartbeats 4000000 in
theorem ab_step {G : ab_G} {P : ab_P} {Q : ab_R} (hE : ab_Env p s m args meth c cc own nL ret cl Λ D cy ad A) (hΛ : G.1 = Λ) (hok : ab_ok cc P = true) (hcl : ab_Cl cl) (hfld : ab_Fld own cl G.2.2.1) (hlam : ab_Lam cl Λ)
    (hQm : Qm = MQ below (ab_Fin cl Λ D cy ad A Q) args s 0 0 A)
    (htab : ab_Tab p l e R s m args below meth c cc ad A Qm G.2.1) (hcst : ab_Cst p l e R s m args below meth c cc ad A Qm G.2.2.2.1) (hsta : ab_Sta p l e R s m args below meth c cc ad A Qm G.2.2.2.2.1) (hinv : ab_Inv p l e R s m args below meth c cc nL cl Λ D cy ad A Qm .invokevirtual G.2.2.2.2.2.1) (hinvS : ab_Inv p l e R s m args below meth c cc nL cl Λ D cy ad A Qm .invokestatic G.2.2.2.2.2.2)
    (pc : Nat) (ls : List (Option Value)) (st : List Value) (M : ab_M) (N : ab_N) (h : ab_st G P ret nL Q (ab_X p l e R s m args below meth c nL cl Λ D cy ad A Qm) pc ls st M N) : ab_X p l e R s m args below meth c nL cl Λ D cy ad A Qm pc ls st M N := by
  obtain ⟨⟨hx, hb, hml, hown, hts⟩, hr, hlocks, hK, hinj, hAad, hA⟩ := hE
  unfold ab_st at h
  split at h
  case h_2 => exact h.elim
  rename_i q hq
  obtain ⟨ins, nx, tg, ks⟩ := q
  obtain ⟨hdec, harg⟩ := ab_ok_q hok hq
  have hD := ab_w_D (cy := cy) hinj hAad M N
  unfold ab_s at h
  dsimp only at h
  split at h
  -- aload_n
  · simp only [ab_arg, Bool.and_eq_true, decide_eq_true_eq] at harg
    obtain ⟨rfl, rfl⟩ := harg
    obtain ⟨x, e1, h⟩ := ab_ld_2 h
    exact fun H locs lsC hP hS hl => lv_aload_n hx hb hdec rfl (ab_lh_at hl e1) (h H locs lsC hP hS hl)
  -- aload
  · have hn : nx = pc + 2 := of_decide_eq_true harg
    subst hn
    obtain ⟨x, e1, h⟩ := ab_ld_2 h
    exact fun H locs lsC hP hS hl => lv_aload hx hb hdec (ab_lh_at hl e1) (h H locs lsC hP hS hl)
  -- iload_n
  · simp only [ab_arg, Bool.and_eq_true, decide_eq_true_eq] at harg
    obtain ⟨rfl, rfl⟩ := harg
    obtain ⟨x, e1, h⟩ := ab_ld_0 h
    exact fun H locs lsC hP hS hl => lv_iload_n hx hb hdec rfl (ab_lh_at hl e1) (h H locs lsC hP hS hl)
  -- iload
  · have hn : nx = pc + 2 := of_decide_eq_true harg
    subst hn
    obtain ⟨x, e1, h⟩ := ab_ld_0 h
    exact fun H locs lsC hP hS hl => lv_iload hx hb hdec (ab_lh_at hl e1) (h H locs lsC hP hS hl)
  -- lload_n
  · simp only [ab_arg, Bool.and_eq_true, decide_eq_true_eq] at harg
    obtain ⟨rfl, rfl⟩ := harg
    obtain ⟨x, e1, h⟩ := ab_ld_1 h
    exact fun H locs lsC hP hS hl => lv_lload_n hx hb hdec rfl (ab_lh_at hl e1) (h H locs lsC hP hS hl)
  -- lload
  · have hn : nx = pc + 2 := of_decide_eq_true harg
    subst hn
    obtain ⟨x, e1, h⟩ := ab_ld_1 h
    exact fun H locs lsC hP hS hl => lv_lload hx hb hdec (ab_lh_at hl e1) (h H locs lsC hP hS hl)
  -- istore_n
  · simp only [ab_arg, Bool.and_eq_true, decide_eq_true_eq] at harg
    obtain ⟨rfl, rfl⟩ := harg
    obtain ⟨h0, x, r, rfl, h3⟩ := ab_s1_0 h
    exact fun H locs lsC hP hS hl => lv_istore_n hx hb hdec rfl hl h0 rfl (fun ls2 hl2 => h3 H locs ls2 hP hS (ab_lh_s1 (v := .int x) hl2))
  -- istore
  · have hn : nx = pc + 2 := of_decide_eq_true harg
    subst hn
    obtain ⟨h0, x, r, rfl, h3⟩ := ab_s1_0 h
    exact fun H locs lsC hP hS hl => lv_istore hx hb hdec hl h0 rfl (fun ls2 hl2 => h3 H locs ls2 hP hS (ab_lh_s1 (v := .int x) hl2))
  -- astore_n
  · simp only [ab_arg, Bool.and_eq_true, decide_eq_true_eq] at harg
    obtain ⟨rfl, rfl⟩ := harg
    obtain ⟨h0, x, r, rfl, h3⟩ := ab_s1_2 h
    exact fun H locs lsC hP hS hl => lv_astore_n hx hb hdec rfl hl h0 rfl (fun ls2 hl2 => h3 H locs ls2 hP hS (ab_lh_s1 (v := .ref x) hl2))
  -- astore
  · have hn : nx = pc + 2 := of_decide_eq_true harg
    subst hn
    obtain ⟨h0, x, r, rfl, h3⟩ := ab_s1_2 h
    exact fun H locs lsC hP hS hl => lv_astore hx hb hdec hl h0 rfl (fun ls2 hl2 => h3 H locs ls2 hP hS (ab_lh_s1 (v := .ref x) hl2))
  -- lstore_n
  · simp only [ab_arg, Bool.and_eq_true, decide_eq_true_eq] at harg
    obtain ⟨rfl, rfl⟩ := harg
    obtain ⟨h0, x, r, rfl, h3⟩ := ab_s2_e h
    exact fun H locs lsC hP hS hl => lv_lstore_n hx hb hdec rfl hl h0 rfl (fun ls2 hl2 => h3 H locs ls2 hP hS (ab_lh_s2 (v := .long x) hl2))
  -- lstore
  · have hn : nx = pc + 2 := of_decide_eq_true harg
    subst hn
    obtain ⟨h0, x, r, rfl, h3⟩ := ab_s2_e h
    exact fun H locs lsC hP hS hl => lv_lstore hx hb hdec hl h0 rfl (fun ls2 hl2 => h3 H locs ls2 hP hS (ab_lh_s2 (v := .long x) hl2))
  -- iinc
  · simp only [ab_arg, Bool.and_eq_true, decide_eq_true_eq] at harg
    obtain ⟨rfl, rfl⟩ := harg
    obtain ⟨h0, x, e1, h3⟩ := ab_inc_e h
    intro H locs lsC hP hS hl
    obtain ⟨k, hk⟩ := List.getElem?_of_mem (ab_lh_in (ad := ad) e1)
    exact lv_iinc hx hb hdec hl hk rfl h0 rfl (fun ls2 hl2 => h3 H locs ls2 hP hS (ab_lh_s1 (v := .int _) hl2))
  -- iconst
  · simp only [ab_arg, Bool.and_eq_true, decide_eq_true_eq] at harg
    obtain ⟨rfl, rfl⟩ := harg
    exact fun H locs lsC hP hS hl => lv_iconst hx hb hdec rfl (h H locs lsC hP hS hl)
  -- bipush
  · simp only [ab_arg, Bool.and_eq_true, decide_eq_true_eq] at harg
    obtain ⟨rfl, rfl⟩ := harg
    exact fun H locs lsC hP hS hl => lv_bipush hx hb hdec rfl (h H locs lsC hP hS hl)
  -- sipush
  · simp only [ab_arg, Bool.and_eq_true, decide_eq_true_eq] at harg
    obtain ⟨rfl, rfl⟩ := harg
    exact fun H locs lsC hP hS hl => lv_sipush hx hb hdec rfl (h H locs lsC hP hS hl)
  -- lconst
  · rename_i n
    simp only [ab_arg, Bool.and_eq_true, decide_eq_true_eq] at harg
    obtain ⟨rfl, rfl⟩ := harg
    intro H locs lsC hP hS hl
    match n, h, hdec with
    | 0, h, hdec => exact lv_lconst hx hb hdec rfl (h H locs lsC hP hS hl)
    | 1, h, hdec => exact lv_lconst hx hb hdec rfl (h H locs lsC hP hS hl)
  -- iadd
  · have hn : nx = pc + 1 := of_decide_eq_true harg
    subst hn
    obtain ⟨x, y, r, rfl, h3⟩ := ab_i2_e h
    exact fun H locs lsC hP hS hl => lv_iadd hx hb hdec (h3 H locs lsC hP hS hl)
  · have hn : nx = pc + 1 := of_decide_eq_true harg
    subst hn
    obtain ⟨x, y, r, rfl, h3⟩ := ab_i2_e h
    exact fun H locs lsC hP hS hl => lv_isub hx hb hdec (h3 H locs lsC hP hS hl)
  · have hn : nx = pc + 1 := of_decide_eq_true harg
    subst hn
    obtain ⟨x, y, r, rfl, h3⟩ := ab_i2_e h
    exact fun H locs lsC hP hS hl => lv_imul hx hb hdec (h3 H locs lsC hP hS hl)
  · have hn : nx = pc + 1 := of_decide_eq_true harg
    subst hn
    obtain ⟨x, y, r, rfl, h3⟩ := ab_i2_e h
    exact fun H locs lsC hP hS hl => lv_iand hx hb hdec (h3 H locs lsC hP hS hl)
  · have hn : nx = pc + 1 := of_decide_eq_true harg
    subst hn
    obtain ⟨x, y, r, rfl, h3⟩ := ab_i2_e h
    exact fun H locs lsC hP hS hl => lv_ior hx hb hdec (h3 H locs lsC hP hS hl)
  · have hn : nx = pc + 1 := of_decide_eq_true harg
    subst hn
    obtain ⟨x, y, r, rfl, h3⟩ := ab_i2_e h
    exact fun H locs lsC hP hS hl => lv_ishl hx hb hdec (h3 H locs lsC hP hS hl)
  · have hn : nx = pc + 1 := of_decide_eq_true harg
    subst hn
    obtain ⟨x, y, r, rfl, h3⟩ := ab_i2_e h
    exact fun H locs lsC hP hS hl => lv_ishr hx hb hdec (h3 H locs lsC hP hS hl)
  -- idiv
  · have hn : nx = pc + 1 := of_decide_eq_true harg
    subst hn
    split at h
    · exact fun H locs lsC hP hS hl => lv_idiv hx hb hdec h.1 (h.2 H locs lsC hP hS hl)
    · exact h.elim
  · have hn : nx = pc + 1 := of_decide_eq_true harg
    subst hn
    split at h
    · exact fun H locs lsC hP hS hl => lv_irem hx hb hdec h.1 (h.2 H locs lsC hP hS hl)
    · exact h.elim
  · have hn : nx = pc + 1 := of_decide_eq_true harg
    subst hn
    split at h
    · exact fun H locs lsC hP hS hl => lv_ineg hx hb hdec (h H locs lsC hP hS hl)
    · exact h.elim
  -- ladd
  · have hn : nx = pc + 1 := of_decide_eq_true harg
    subst hn
    obtain ⟨x, y, r, rfl, h3⟩ := ab_l2_e h
    exact fun H locs lsC hP hS hl => lv_ladd hx hb hdec (h3 H locs lsC hP hS hl)
  · have hn : nx = pc + 1 := of_decide_eq_true harg
    subst hn
    obtain ⟨x, y, r, rfl, h3⟩ := ab_l2_e h
    exact fun H locs lsC hP hS hl => lv_lsub hx hb hdec (h3 H locs lsC hP hS hl)
  · have hn : nx = pc + 1 := of_decide_eq_true harg
    subst hn
    obtain ⟨x, y, r, rfl, h3⟩ := ab_l2_e h
    exact fun H locs lsC hP hS hl => lv_lmul hx hb hdec (h3 H locs lsC hP hS hl)
  · have hn : nx = pc + 1 := of_decide_eq_true harg
    subst hn
    obtain ⟨x, y, r, rfl, h3⟩ := ab_l2_e h
    exact fun H locs lsC hP hS hl => lv_land hx hb hdec (h3 H locs lsC hP hS hl)
  · have hn : nx = pc + 1 := of_decide_eq_true harg
    subst hn
    obtain ⟨x, y, r, rfl, h3⟩ := ab_l2_e h
    exact fun H locs lsC hP hS hl => lv_lor hx hb hdec (h3 H locs lsC hP hS hl)
  -- ldiv
  · have hn : nx = pc + 1 := of_decide_eq_true harg
    subst hn
    split at h
    · exact fun H locs lsC hP hS hl => lv_ldiv hx hb hdec h.1 (h.2 H locs lsC hP hS hl)
    · exact h.elim
  · have hn : nx = pc + 1 := of_decide_eq_true harg
    subst hn
    split at h
    · exact fun H locs lsC hP hS hl => lv_lrem hx hb hdec h.1 (h.2 H locs lsC hP hS hl)
    · exact h.elim
  · have hn : nx = pc + 1 := of_decide_eq_true harg
    subst hn
    split at h
    · exact fun H locs lsC hP hS hl => lv_lneg hx hb hdec (h H locs lsC hP hS hl)
    · exact h.elim
  -- lshl
  · have hn : nx = pc + 1 := of_decide_eq_true harg
    subst hn
    split at h
    · exact fun H locs lsC hP hS hl => lv_lshl hx hb hdec rfl (h H locs lsC hP hS hl)
    · exact h.elim
  · have hn : nx = pc + 1 := of_decide_eq_true harg
    subst hn
    split at h
    · exact fun H locs lsC hP hS hl => lv_lshr hx hb hdec rfl (h H locs lsC hP hS hl)
    · exact h.elim
  -- lcmp
  · have hn : nx = pc + 1 := of_decide_eq_true harg
    subst hn
    split at h
    · exact fun H locs lsC hP hS hl => W.lcmp hx hb hdec (h H locs lsC hP hS hl)
    · exact h.elim
  -- i2l
  · have hn : nx = pc + 1 := of_decide_eq_true harg
    subst hn
    split at h
    · exact fun H locs lsC hP hS hl => lv_i2l hx hb hdec rfl (h H locs lsC hP hS hl)
    · exact h.elim
  · have hn : nx = pc + 1 := of_decide_eq_true harg
    subst hn
    split at h
    · exact fun H locs lsC hP hS hl => lv_l2i hx hb hdec rfl (h H locs lsC hP hS hl)
    · exact h.elim
  · have hn : nx = pc + 1 := of_decide_eq_true harg
    subst hn
    split at h
    · exact fun H locs lsC hP hS hl => lv_i2b hx hb hdec rfl (h H locs lsC hP hS hl)
    · exact h.elim
  · have hn : nx = pc + 1 := of_decide_eq_true harg
    subst hn
    split at h
    · exact fun H locs lsC hP hS hl => lv_i2s hx hb hdec rfl (h H locs lsC hP hS hl)
    · exact h.elim
  -- dup
  · have hn : nx = pc + 1 := of_decide_eq_true harg
    subst hn
    split at h
    · split at h
      · rename_i hc
        exact fun H locs lsC hP hS hl => lv_dup hx hb hdec (by rw [ab_c_cat]; exact Nat.eq_of_beq_eq_true hc) (h H locs lsC hP hS hl)
      · exact h.elim
    · exact h.elim
  -- pop
  · have hn : nx = pc + 1 := of_decide_eq_true harg
    subst hn
    split at h
    · split at h
      · rename_i hc
        exact fun H locs lsC hP hS hl => lv_pop hx hb hdec (by rw [ab_c_cat]; exact Nat.eq_of_beq_eq_true hc) (h H locs lsC hP hS hl)
      · exact h.elim
    · exact h.elim
  -- dup2
  · have hn : nx = pc + 1 := of_decide_eq_true harg
    subst hn
    split at h
    · split at h
      · rename_i hc
        split at h
        · rename_i hc2
          exact fun H locs lsC hP hS hl => lv_dup2_11 hx hb hdec (by rw [ab_c_cat]; exact Nat.eq_of_beq_eq_true hc) (by rw [ab_c_cat]; exact Nat.eq_of_beq_eq_true hc2) (h H locs lsC hP hS hl)
        · exact h.elim
      · exact h.elim
    · exact h.elim
  -- if
  · simp only [ab_arg, Bool.and_eq_true, decide_eq_true_eq] at harg
    obtain ⟨ht, rfl⟩ := harg
    obtain ⟨x, r, rfl, h1, h2⟩ := ab_b1_e h
    exact fun H locs lsC hP hS hl => lv_if_eq hx hb hdec ht (fun z => h1 z H locs lsC hP hS hl) (fun z => h2 z H locs lsC hP hS hl)
  · simp only [ab_arg, Bool.and_eq_true, decide_eq_true_eq] at harg
    obtain ⟨ht, rfl⟩ := harg
    obtain ⟨x, r, rfl, h1, h2⟩ := ab_b1_e h
    exact fun H locs lsC hP hS hl => lv_if_ne hx hb hdec ht (fun z => h2 z H locs lsC hP hS hl) (fun z => h1 z H locs lsC hP hS hl)
  · simp only [ab_arg, Bool.and_eq_true, decide_eq_true_eq] at harg
    obtain ⟨ht, rfl⟩ := harg
    obtain ⟨x, r, rfl, h1, h2⟩ := ab_b1_e h
    exact fun H locs lsC hP hS hl => lv_if_lt hx hb hdec ht (fun z => h1 z H locs lsC hP hS hl) (fun z => h2 z H locs lsC hP hS hl)
  · simp only [ab_arg, Bool.and_eq_true, decide_eq_true_eq] at harg
    obtain ⟨ht, rfl⟩ := harg
    obtain ⟨x, r, rfl, h1, h2⟩ := ab_b1_e h
    exact fun H locs lsC hP hS hl => lv_if_ge hx hb hdec ht (fun z => h1 z H locs lsC hP hS hl) (fun z => h2 z H locs lsC hP hS hl)
  · simp only [ab_arg, Bool.and_eq_true, decide_eq_true_eq] at harg
    obtain ⟨ht, rfl⟩ := harg
    obtain ⟨x, r, rfl, h1, h2⟩ := ab_b1_e h
    exact fun H locs lsC hP hS hl => lv_if_gt hx hb hdec ht (fun z => h1 z H locs lsC hP hS hl) (fun z => h2 z H locs lsC hP hS hl)
  · simp only [ab_arg, Bool.and_eq_true, decide_eq_true_eq] at harg
    obtain ⟨ht, rfl⟩ := harg
    obtain ⟨x, r, rfl, h1, h2⟩ := ab_b1_e h
    exact fun H locs lsC hP hS hl => lv_if_le hx hb hdec ht (fun z => h1 z H locs lsC hP hS hl) (fun z => h2 z H locs lsC hP hS hl)
  -- if_icmp
  · simp only [ab_arg, Bool.and_eq_true, decide_eq_true_eq] at harg
    obtain ⟨ht, rfl⟩ := harg
    obtain ⟨x, y, r, rfl, h1, h2⟩ := ab_b2_e h
    exact fun H locs lsC hP hS hl => lv_icmp_eq hx hb hdec ht (fun z => h1 z H locs lsC hP hS hl) (fun z => h2 z H locs lsC hP hS hl)
  · simp only [ab_arg, Bool.and_eq_true, decide_eq_true_eq] at harg
    obtain ⟨ht, rfl⟩ := harg
    obtain ⟨x, y, r, rfl, h1, h2⟩ := ab_b2_e h
    exact fun H locs lsC hP hS hl => lv_icmp_ne hx hb hdec ht (fun z => h2 z H locs lsC hP hS hl) (fun z => h1 z H locs lsC hP hS hl)
  · simp only [ab_arg, Bool.and_eq_true, decide_eq_true_eq] at harg
    obtain ⟨ht, rfl⟩ := harg
    obtain ⟨x, y, r, rfl, h1, h2⟩ := ab_b2_e h
    exact fun H locs lsC hP hS hl => lv_icmp_lt hx hb hdec ht (fun z => h1 z H locs lsC hP hS hl) (fun z => h2 z H locs lsC hP hS hl)
  · simp only [ab_arg, Bool.and_eq_true, decide_eq_true_eq] at harg
    obtain ⟨ht, rfl⟩ := harg
    obtain ⟨x, y, r, rfl, h1, h2⟩ := ab_b2_e h
    exact fun H locs lsC hP hS hl => lv_icmp_ge hx hb hdec ht (fun z => h1 z H locs lsC hP hS hl) (fun z => h2 z H locs lsC hP hS hl)
  · simp only [ab_arg, Bool.and_eq_true, decide_eq_true_eq] at harg
    obtain ⟨ht, rfl⟩ := harg
    obtain ⟨x, y, r, rfl, h1, h2⟩ := ab_b2_e h
    exact fun H locs lsC hP hS hl => lv_icmp_gt hx hb hdec ht (fun z => h1 z H locs lsC hP hS hl) (fun z => h2 z H locs lsC hP hS hl)
  · simp only [ab_arg, Bool.and_eq_true, decide_eq_true_eq] at harg
    obtain ⟨ht, rfl⟩ := harg
    obtain ⟨x, y, r, rfl, h1, h2⟩ := ab_b2_e h
    exact fun H locs lsC hP hS hl => lv_icmp_le hx hb hdec ht (fun z => h1 z H locs lsC hP hS hl) (fun z => h2 z H locs lsC hP hS hl)
  -- goto
  · simp only [ab_arg, Bool.and_eq_true, decide_eq_true_eq] at harg
    exact fun H locs lsC hP hS hl => lv_goto hx hb hdec harg.1 (h H locs lsC hP hS hl)
  -- tableswitch
  · rename_i d lo hi os
    simp only [ab_arg, Bool.and_eq_true, decide_eq_true_eq] at harg
    obtain ⟨⟨hd, hhi⟩, hsw⟩ := harg
    split at h
    case h_2 => exact h.elim
    intro H locs lsC hP hS hl
    rename_i x r
    refine ab_sw_sound (fun _ => trivial) os.toList ks (ab_tl tg) lo hsw h (fun i o t g1 g2 g3 g4 => ?_) (fun g1 g2 => ?_)
    · have hi2 : i < os.size := by
        have := (List.getElem?_eq_some_iff.mp g1).1
        simpa using this
      refine lv_tableIn hx hb hdec (by omega) (by omega) (off := o) ?_ g3 (g4 H locs lsC hP hS hl)
      rw [show (x.toInt - lo).toNat = i by omega]
      simpa using g1
    · exact lv_tableOut hx hb hdec (by rw [Array.length_toList] at g1; omega) hd (g2 H locs lsC hP hS hl)
  -- getfield
  · have hn : nx = pc + 3 := of_decide_eq_true harg
    subst hn
    rw [hΛ] at h
    obtain ⟨ci, j, k, r, fs, e1, rfl, e3, h3⟩ := ab_get_e h
    obtain ⟨C, T, Nf, f1, f2, f3⟩ := hfld _ ci j e1
    obtain ⟨hin, -, -⟩ := hcl ci C T Nf f1
    intro H locs lsC hP hS hl
    have key : ∀ v : Value, (fs.mapIdx (ab_f ad M N k))[j]? = some v → W p l e R s m args below meth c H locs 0 0 Qm (F0 m (pc + 3) lsC (v :: r.map (ab_c ad))) → W p l e R s m args below meth c H locs 0 0 Qm (F0 m pc lsC (.ref (ad k) :: r.map (ab_c ad))) := fun v hv kk =>
      va_get hx hb hts hin hown hK hP k (ab_w_at e3) f1 j f2 (hts _ f3) (fun _ h9 => h9) hv hdec kk
    unfold ab_gf at h3
    split at h3
    · rename_i e4
      exact key _ (by rw [List.getElem?_mapIdx, e4]; rfl) (h3 H locs lsC hP hS hl)
    · rename_i e4
      exact key _ (by rw [List.getElem?_mapIdx, e4]; rfl) (h3 H locs lsC hP hS hl)
    · rename_i e4
      exact key _ (by rw [List.getElem?_mapIdx, e4]; rfl) (h3 H locs lsC hP hS hl)
    · rename_i e4
      exact key _ (by rw [List.getElem?_mapIdx, e4]; rfl) (h3 H locs lsC hP hS hl)
    · exact h3.elim
  -- putfield
  · have hn : nx = pc + 3 := of_decide_eq_true harg
    subst hn
    rw [hΛ] at h
    obtain ⟨ci, j, k, v, r, fs, e1, rfl, e3, h3⟩ := ab_put_e h
    obtain ⟨C, T, Nf, f1, f2, f3⟩ := hfld _ ci j e1
    obtain ⟨hin, ⟨ty0, hty⟩, hnm⟩ := hcl ci C T Nf f1
    intro H locs lsC hP hS hl
    unfold ab_pf at h3
    split at h3
    · rename_i e4
      obtain ⟨C2, T2, N2, g1, g2, g3⟩ := hlam k ci fs j .long e3 e4
      cases f1.symm.trans g1
      split at h3
      · rename_i x
        refine va_put (v := .long x) hx hb hts hin ty0 hty hnm hown hK hP hD hS k (ab_w_at e3) f1 j f2 (hts _ f3) (fun _ h9 => h9) g3 g2 rfl rfl (by rw [List.length_mapIdx]; exact (List.getElem?_eq_some_iff.mp e4).1) hdec (fun H1 locs1 hP1 hD1 hS1 => ?_)
        rw [ab_w_OJ e3 e4 x] at hP1
        exact h3 H1 locs1 lsC hP1 hS1 hl
      · exact h3.elim
    · rename_i e4
      obtain ⟨C2, T2, N2, g1, g2, g3⟩ := hlam k ci fs j .int e3 e4
      cases f1.symm.trans g1
      split at h3
      · rename_i x
        refine va_put (v := .int x) hx hb hts hin ty0 hty hnm hown hK hP hD hS k (ab_w_at e3) f1 j f2 (hts _ f3) (fun _ h9 => h9) g3 g2 rfl rfl (by rw [List.length_mapIdx]; exact (List.getElem?_eq_some_iff.mp e4).1) hdec (fun H1 locs1 hP1 hD1 hS1 => ?_)
        rw [ab_w_O e3 e4 (by decide) x] at hP1
        exact h3 H1 locs1 lsC hP1 hS1 hl
      · exact h3.elim
    · rename_i e4
      obtain ⟨C2, T2, N2, g1, g2, g3⟩ := hlam k ci fs j .boolean e3 e4
      cases f1.symm.trans g1
      split at h3
      · rename_i x
        refine va_put (v := .int x) hx hb hts hin ty0 hty hnm hown hK hP hD hS k (ab_w_at e3) f1 j f2 (hts _ f3) (fun _ h9 => h9) g3 g2 h3.1.1 h3.1.2 (by rw [List.length_mapIdx]; exact (List.getElem?_eq_some_iff.mp e4).1) hdec (fun H1 locs1 hP1 hD1 hS1 => ?_)
        rw [ab_w_O e3 e4 (by decide) x] at hP1
        exact h3.2 H1 locs1 lsC hP1 hS1 hl
      · exact h3.elim
    · exact h3.elim
  -- iaload
  · have hn : nx = pc + 1 := of_decide_eq_true harg
    subst hn
    rw [hΛ] at h
    obtain ⟨i, k, r, rfl, ⟨n, e3, hin, h3⟩ | ⟨n, f, e3, hin, h3⟩⟩ := ab_iald_e h
    · exact fun H locs lsC hP hS hl => va_iald hx hb hK hP k 0 (ab_w_at e3) rfl hin hdec (h3 H locs lsC hP hS hl)
    · exact fun H locs lsC hP hS hl => htab k n f e3 pc H locs lsC _ i hS hin hdec (h3 H locs lsC hP hS hl)
  -- baload
  · have hn : nx = pc + 1 := of_decide_eq_true harg
    subst hn
    rw [hΛ] at h
    obtain ⟨i, k, r, n, rfl, e3, hin, h3⟩ := ab_zald_e h
    exact fun H locs lsC hP hS hl => va_zald hx hb hK hP k 2 (ab_w_at e3) rfl hin hdec (h3 H locs lsC hP hS hl)
  -- laload
  · have hn : nx = pc + 1 := of_decide_eq_true harg
    subst hn
    rw [hΛ] at h
    obtain ⟨i, k, r, n, rfl, e3, hin, h3⟩ := ab_lald_e h
    exact fun H locs lsC hP hS hl => va_lald hx hb hK hP k 1 (ab_w_at e3) rfl hin hdec (h3 H locs lsC hP hS hl)
  -- iastore
  · have hn : nx = pc + 1 := of_decide_eq_true harg
    subst hn
    rw [hΛ] at h
    obtain ⟨x, i, k, r, n, rfl, e3, hin, h3⟩ := ab_iast_e h
    intro H locs lsC hP hS hl
    refine va_iast hx hb hK hP hD hS k 0 (ab_w_at e3) rfl hin hdec (fun H1 locs1 hP1 hD1 hS1 => ?_)
    rw [ab_w_I e3 (by decide)] at hP1
    exact h3 H1 locs1 lsC hP1 hS1 hl
  -- bastore
  · have hn : nx = pc + 1 := of_decide_eq_true harg
    subst hn
    rw [hΛ] at h
    obtain ⟨x, i, k, r, n, rfl, e3, hin, h3⟩ := ab_zast_e h
    intro H locs lsC hP hS hl
    refine va_zast hx hb hK hP hD hS k 2 (ab_w_at e3) rfl hin hdec (fun H1 locs1 hP1 hD1 hS1 => ?_)
    rw [ab_w_I e3 (by decide)] at hP1
    exact h3 H1 locs1 lsC hP1 hS1 hl
  -- lastore
  · have hn : nx = pc + 1 := of_decide_eq_true harg
    subst hn
    rw [hΛ] at h
    obtain ⟨x, i, k, r, n, rfl, e3, hin, h3⟩ := ab_last_e h
    intro H locs lsC hP hS hl
    refine va_last hx hb hK hP hD hS k 1 (ab_w_at e3) rfl hin hdec (fun H1 locs1 hP1 hD1 hS1 => ?_)
    rw [ab_w_J e3] at hP1
    exact h3 H1 locs1 lsC hP1 hS1 hl
  -- arraylength
  · have hn : nx = pc + 1 := of_decide_eq_true harg
    subst hn
    rw [hΛ] at h
    obtain ⟨k, r, n, rfl, e3 | e3, h3⟩ := ab_alen_e h
    · exact fun H locs lsC hP hS hl => va_alen hx hb hK hP k 0 (ab_w_at e3) (ty := .int) rfl rfl hdec (h3 H locs lsC hP hS hl)
    · exact fun H locs lsC hP hS hl => va_alen hx hb hK hP k 1 (ab_w_at e3) (ty := .long) rfl rfl hdec (h3 H locs lsC hP hS hl)
  -- ldc
  · have hn : nx = pc + 2 := of_decide_eq_true harg
    subst hn
    obtain ⟨v, e1, h3⟩ := ab_cst_e h
    exact fun H locs lsC hP hS hl => hcst _ v e1 pc 2 H locs lsC _ hS (Or.inl ⟨hdec, rfl, h3.1⟩) (h3.2 H locs lsC hP hS hl)
  · have hn : nx = pc + 3 := of_decide_eq_true harg
    subst hn
    split at h
    · rename_i x e1
      exact fun H locs lsC hP hS hl => hcst _ _ e1 pc 3 H locs lsC _ hS (Or.inr (Or.inl ⟨hdec, rfl, ⟨x, rfl⟩⟩)) (h H locs lsC hP hS hl)
    · exact h.elim
  · have hn : nx = pc + 3 := of_decide_eq_true harg
    subst hn
    obtain ⟨v, e1, h3⟩ := ab_cst_e h
    exact fun H locs lsC hP hS hl => hcst _ v e1 pc 3 H locs lsC _ hS (Or.inr (Or.inr ⟨hdec, rfl, h3.1⟩)) (h3.2 H locs lsC hP hS hl)
  -- getstatic
  · have hn : nx = pc + 3 := of_decide_eq_true harg
    subst hn
    cases e1 : ab_a G.2.2.2.2.1 _ with
    | none => rw [e1] at h; exact h.elim
    | some k => rw [e1] at h; exact fun H locs lsC hP hS hl => hsta _ k e1 pc H locs lsC _ hS hdec (h H locs lsC hP hS hl)
  -- invokevirtual, invokestatic
  · have hn : nx = pc + 3 := of_decide_eq_true harg
    subst hn
    exact ab_call hinv hdec h
  · have hn : nx = pc + 3 := of_decide_eq_true harg
    subst hn
    exact ab_call hinvS hdec h
  -- ireturn
  · intro H locs lsC hP hS hl
    subst hQm
    unfold ab_ret at h
    split at h
    · split at h
      · exact absurd (by assumption : (_ : Nat) = _) (by decide)
      · exact h.elim
    · split at h
      · exact W.iret hx hb hr (fun t ht hW => ⟨⟨_, M, N, rfl, h, by rw [ht]; exact hP⟩, hS.F ht⟩) hS.2.2 hdec hlocks
      · exact h.elim
    · split at h
      · exact absurd (by assumption : (_ : Nat) = _) (by decide)
      · exact h.elim
    · split at h
      · exact W.zret hx hb hr h.1 (fun t ht hW => ⟨⟨_, M, N, rfl, h.2, by rw [ht]; exact hP⟩, hS.F ht⟩) hS.2.2 hdec hlocks
      · exact h.elim
    · exact h.elim
  -- lreturn
  · intro H locs lsC hP hS hl
    subst hQm
    unfold ab_ret at h
    split at h
    · split at h
      · exact absurd (by assumption : (_ : Nat) = _) (by decide)
      · exact h.elim
    · split at h
      · exact absurd (by assumption : (_ : Nat) = _) (by decide)
      · exact h.elim
    · split at h
      · exact W.lret hx hb hr (fun t ht hW => ⟨⟨_, M, N, rfl, h, by rw [ht]; exact hP⟩, hS.F ht⟩) hS.2.2 hdec hlocks
      · exact h.elim
    · split at h
      · exact absurd (by assumption : (_ : Nat) = _) (by decide)
      · exact h.elim
    · exact h.elim
  -- return
  · intro H locs lsC hP hS hl
    subst hQm
    unfold ab_ret at h
    split at h
    · split at h
      · exact W.vret hx hb hr (fun t ht hW => ⟨⟨_, M, N, rfl, h, by rw [ht]; exact hP⟩, hS.F ht⟩) hS.2.2 hdec hlocks
      · exact h.elim
    · split at h
      · exact absurd (by assumption : (_ : Nat) = _) (by decide)
      · exact h.elim
    · split at h
      · exact absurd (by assumption : (_ : Nat) = _) (by decide)
      · exact h.elim
    · split at h
      · exact absurd (by assumption : (_ : Nat) = _) (by decide)
      · exact h.elim
    · exact h.elim
  · exact h.elim
end AbStep
end
section
/-! contracts: a method meets its transformer *)
-/
def ab_A (Λ : List ab_L) (ad : Nat → Nat) (sz : Nat) : Nat → Prop := fun q => (∃ k, k < Λ.length ∧ q = ad k) ∨ sz ≤ q
abbrev ab_Zt : Type := (Nat → Nat) → (Nat → Prop) → State → Heap → Prop
/-- what is said of the statics: it stays as long as nothing old is changed -/
def ab_ZOK (Z : ab_Zt) : Prop := (∀ ad A s U H, s.WarmedH U.vm → Z ad A s H → Z ad A U H) ∧ (∀ ad A U U2 H, U2.vm = U.vm → Z ad A U H → Z ad A U2 H) ∧ (∀ ad A U (H H1 : Heap), (∀ a : Nat, a < H.size → ¬ A a → H1[a]? = H[a]?) → Z ad A U H → Z ad A U H1) ∧ (∀ ad (A B : Nat → Prop) U H, (∀ q, B q → A q) → Z ad A U H → Z ad B U H)
def ab_Pre (Λ : List ab_L) (cl : List vw_C) (Z : ab_Zt) (D : va_G) (cy : FieldType → ClassId) (ad : Nat → Nat) (sz : Nat) (as : List Value) (M : ab_M) (N : ab_N) : Array Value → State → Prop := va_Pc (as.map (ab_c ad)) (fun U => U.heap.size = sz ∧ va_P D cl (ab_w Λ ad cy M N) U.heap ∧ va_K D cl (ab_tys cy) U ∧ Z ad (ab_A Λ ad sz) U U.heap)
def ab_inj (Λ : List ab_L) (ad : Nat → Nat) : Prop := ∀ i j, i < Λ.length → j < Λ.length → ad i = ad j → i = j
def ab_Met (l : Launch) (Λ : List ab_L) (cl : List vw_C) (Z : ab_Zt) (y : MethodName) (bytes : ByteArray) (nL : Nat) (ret : Option FieldType) (rm : Room) (T : ab_T) : Prop := ∀ (D : va_G) (cy : FieldType → ClassId) (ad : Nat → Nat) (sz : Nat) (as : List Value) (M : ab_M) (N : ab_N) (k : ab_R), ab_inj Λ ad → T as M N k → Met l y (Cond.code y bytes nL ret :: ab_B) rm (ab_Pre Λ cl Z D cy ad sz as M N) (ab_Fin cl Λ D cy ad (ab_A Λ ad sz) k) 0 0 (ab_A Λ ad sz)
def ab_CstOK (Z : ab_Zt) (own : String) (cst : List (Nat × Value)) : Prop := ∀ (p : Program) (l : Launch) (e : Env) (R : Room) (s : State) (m : MethodId) (args : Array Value) (below : List Frame) (meth : Method) (c : Code) (cc : ByteArray) (ad : Nat → Nat) (A : Nat → Prop) (Qm : State → Prop), p.tables.exec = Jvm.exec → c.code = cc → s.vm.findClass own = some m.cls → (∀ w ∈ ab_B, w.before args s = true) → Z ad A s s.heap → ab_Cst p l e R s m args below meth c cc ad A Qm cst
def ab_StaOK (Z : ab_Zt) (own : String) (sta : List (Nat × Nat)) : Prop := ∀ (p : Program) (l : Launch) (e : Env) (R : Room) (s : State) (m : MethodId) (args : Array Value) (below : List Frame) (meth : Method) (c : Code) (cc : ByteArray) (ad : Nat → Nat) (A : Nat → Prop) (Qm : State → Prop), p.tables.exec = Jvm.exec → c.code = cc → s.vm.findClass own = some m.cls → (∀ w ∈ ab_B, w.before args s = true) → Z ad A s s.heap → ab_Sta p l e R s m args below meth c cc ad A Qm sta
def ab_TabOK (Z : ab_Zt) (tab : List (Nat × Nat × (Nat → Int32))) : Prop := ∀ (p : Program) (l : Launch) (e : Env) (R : Room) (s : State) (m : MethodId) (args : Array Value) (below : List Frame) (meth : Method) (c : Code) (cc : ByteArray) (ad : Nat → Nat) (A : Nat → Prop) (Qm : State → Prop), p.tables.exec = Jvm.exec → c.code = cc → Z ad A s s.heap → ab_Tab p l e R s m args below meth c cc ad A Qm tab
/-- a call at an index, from a method of a class with room rm -/
def ab_Call (l : Launch) (own : String) (rm : Room) (Λ : List ab_L) (cl : List vw_C) (Z : ab_Zt) (op : Nat → Instr) (i n : Nat) (T : ab_T) : Prop := ∀ (p : Program) (e : Env) (s : State) (m : MethodId) (args : Array Value) (below : List Frame) (meth : Method) (c : Code) (cc : ByteArray) (nL : Nat) (ret : Option FieldType) (D : va_G) (cy : FieldType → ClassId) (ad : Nat → Nat) (Qm : State → Prop), ab_Env p s m args meth c cc own nL ret cl Λ D cy ad (ab_A Λ ad s.heap.size) → Z ad (ab_A Λ ad s.heap.size) s s.heap →
  ∀ (pc : Nat) (H : Heap) (locs : List Loc) (lsC : Array Slot) (as rest : List Value) (M : ab_M) (N : ab_N) (k : ab_R), decode cc pc = .ok (op i, 3) → as.length = n → (rest.map fun v => v.category).sum ≤ 8 → lsC.size = nL → va_P D cl (ab_w Λ ad cy M N) H → va_S (ab_A Λ ad s.heap.size) s.heap H locs → T as M N k →
  (∀ (r : Option Value) (M2 : ab_M) (N2 : ab_N) (H2 : Heap) (locs2 : List Loc), k r M2 N2 → va_P D cl (ab_w Λ ad cy M2 N2) H2 → va_S (ab_A Λ ad s.heap.size) s.heap H2 locs2 → W p l e rm s m args below meth c H2 locs2 0 0 Qm (F0 m (pc + 3) lsC ((r.map (ab_c ad)).toList ++ rest))) →
  W p l e rm s m args below meth c H locs 0 0 Qm (F0 m pc lsC ((as.map (ab_c ad)).reverse ++ rest))
def ab_Calls (l : Launch) (own : String) (rm : Room) (Λ : List ab_L) (cl : List vw_C) (Z : ab_Zt) (op : Nat → Instr) (inv : List (Nat × Nat × ab_T)) : Prop := ∀ q ∈ inv, ab_Call l own rm Λ cl Z op q.1 q.2.1 q.2.2
theorem ab_ls_cs (ad : Nat → Nat) : ∀ as : List Value, (lg_sl (as.map (ab_c ad))).length = ab_cs as
  | [] => rfl
  | v :: r => by
    have ih := ab_ls_cs ad r
    simp only [lg_sl, List.map_cons, List.flatMap_cons, List.length_append] at ih ⊢
    rw [ih, ab_cs, ab_c_cat]
    rcases lv_cat v with h | h
    · simp [h]
    · simp [h]
set_option maxHeartbeats 4000000 in
theorem ab_ofRun {l : Launch} {Λ : List ab_L} {cl : List vw_C} {Z : ab_Zt} {y : MethodName} {bytes : ByteArray} {nL : Nat} {ret : Option FieldType} {rm : Room} {T : ab_T} {G : ab_G} {P : ab_P} (hΛ : G.1 = Λ) (hok : ab_ok bytes P = true) (hy : plainName y.cls = true) (hcl : ab_Cl cl) (hlam : ab_Lam cl Λ) (hfld : ab_Fld y.cls cl G.2.2.1)
    (htab : ab_TabOK Z G.2.1) (hcst : ab_CstOK Z y.cls G.2.2.2.1) (hsta : ab_StaOK Z y.cls G.2.2.2.2.1) (hinv : ab_Calls l y.cls rm Λ cl Z .invokevirtual G.2.2.2.2.2.1) (hinvS : ab_Calls l y.cls rm Λ cl Z .invokestatic G.2.2.2.2.2.2)
    (hrun : ∀ (as : List Value) (M : ab_M) (N : ab_N) (k : ab_R), T as M N k → ab_cs as ≤ nL ∧ ab_Run G P ret nL k 0 (ab_en as) [] M N) : ab_Met l Λ cl Z y bytes nL ret rm T := by
  intro D cy ad sz as M N k hinj hT
  refine Met.ofW (cc := bytes) (maxL := nL) (ret := ret) hy rfl ?_
  intro p e s m args below meth c s₁ B hml hv
  obtain ⟨rfl, hsz, hP, hK, hZ⟩ := hv
  have hts := atoms_spec (ws := Cond.code y bytes nL ret :: ab_B) B.pre
  have hown : s.vm.findClass y.cls = some m.cls := findClass_of_methodNamed B.named
  have hlocks := B.notSynchronized
  subst hsz
  obtain ⟨hcs, hR⟩ := hrun as M N k hT
  have htsB : ∀ w ∈ ab_B, w.before (as.map (ab_c ad)).toArray s = true := fun w hw => hts w (List.mem_cons_of_mem _ hw)
  have hE : ab_Env p s m (as.map (ab_c ad)).toArray meth c bytes y.cls nL ret cl Λ D cy ad (ab_A Λ ad s.heap.size) := ⟨⟨B.exec, B.bytes, hml, hown, htsB⟩, B.returns, hlocks, hK, hinj, fun j hj => Or.inl ⟨j, hj, rfl⟩, fun q h => Or.inr h⟩
  have hl := lv_entry (as.map (ab_c ad)) (n := nL) (by rw [ab_ls_cs]; exact hcs)
  rw [lg_entry_eq]
  have key := hR (ab_X p l e rm s m (as.map (ab_c ad)).toArray below meth c nL cl Λ D cy ad (ab_A Λ ad s.heap.size) (MQ below (ab_Fin cl Λ D cy ad (ab_A Λ ad s.heap.size) k) (as.map (ab_c ad)).toArray s 0 0 (ab_A Λ ad s.heap.size))) ab_X_up
    (fun pc ls st M2 N2 h => ab_step hE hΛ hok hcl hfld hlam rfl (htab _ _ _ _ _ _ _ _ _ _ _ _ _ _ B.exec B.bytes hZ) (hcst _ _ _ _ _ _ _ _ _ _ _ _ _ _ B.exec B.bytes hown htsB hZ) (hsta _ _ _ _ _ _ _ _ _ _ _ _ _ _ B.exec B.bytes hown htsB hZ) (fun i n T2 hi => hinv _ (ab_a_in _ _ _ hi) p e s m _ below meth c bytes nL ret D cy ad _ hE hZ) (fun i n T2 hi => hinvS _ (ab_a_in _ _ _ hi) p e s m _ below meth c bytes nL ret D cy ad _ hE hZ) pc ls st M2 N2 h)
  exact key s.heap [] _ hP va_S.rf (ab_lh_mono hl (fun j v h => by
    have := ab_en_in ad as 0 j v h
    rwa [Nat.zero_add] at this))
theorem ab_A_sub {Λ : List ab_L} {ad : Nat → Nat} {a b : Nat} (h : a ≤ b) : ∀ q, ab_A Λ ad b q → ab_A Λ ad a q := fun q hq => hq.elim Or.inl (fun z => Or.inr (Nat.le_trans h z))
theorem ab_Z_at {Z : ab_Zt} (hZ : ab_ZOK Z) {Λ : List ab_L} {ad : Nat → Nat} {s U : State} {H : Heap} {locs : List Loc} (h : Z ad (ab_A Λ ad s.heap.size) s s.heap) (hS : va_S (ab_A Λ ad s.heap.size) s.heap H locs) (hW : s.WarmedH U.vm) : Z ad (ab_A Λ ad H.size) U H :=
  hZ.1 ad _ s U H hW (hZ.2.2.2 ad _ _ s H (ab_A_sub hS.1) (hZ.2.2.1 ad _ s s.heap H (fun a h1 h2 => hS.2.1 a h1 h2) h))
theorem ab_blind {Z : ab_Zt} (hZ : ab_ZOK Z) {Λ : List ab_L} {cl : List vw_C} {D : va_G} {cy : FieldType → ClassId} {ad : Nat → Nat} {sz : Nat} {as : List Value} {M : ab_M} {N : ab_N} : FrameBlind (ab_Pre Λ cl Z D cy ad sz as M N) := fun a U g mk q => by
  obtain ⟨q0, q1, qP, qK, qZ⟩ := q
  exact ⟨q0, q1, qP, va_K.moved (u := U) (U := U.calling g mk a) (Vm.Alike.refl U.vm) qK, hZ.2.1 ad _ U (U.calling g mk a) _ rfl qZ⟩
/-- behind a run of a call -/
theorem ab_goes {p : Program} {l : Launch} {e : Env} {R : Room} {s : State} {m : MethodId} {args : Array Value} {below : List Frame} {meth : Method} {c : Code} {H : Heap} {locs : List Loc} {Qm : State → Prop} {pc : Nat} {lsC : Array Slot} {st0 rest : List Value} {a : Array Value} {cl : List vw_C} {Λ : List ab_L} {D : va_G} {cy : FieldType → ClassId} {ad : Nat → Nat} {k : ab_R}
    (hr : va_Run p l e R s m args below meth c H locs 0 0 0 0 (F0 m pc lsC st0) rest (ab_Fin cl Λ D cy ad (ab_A Λ ad H.size) k a) (ab_A Λ ad H.size)) (hS : va_S (ab_A Λ ad s.heap.size) s.heap H locs)
    (kk : ∀ (r : Option Value) (M2 : ab_M) (N2 : ab_N) (H2 : Heap) (locs2 : List Loc), k r M2 N2 → va_P D cl (ab_w Λ ad cy M2 N2) H2 → va_S (ab_A Λ ad s.heap.size) s.heap H2 locs2 → W p l e R s m args below meth c H2 locs2 0 0 Qm (F0 m (pc + 3) lsC ((r.map (ab_c ad)).toList ++ rest))) : W p l e R s m args below meth c H locs 0 0 Qm (F0 m pc lsC st0) := by
  intro T hT X
  obtain ⟨v, st₀, t, T', L, h0, X', hL, e1, e2, ⟨⟨r, M2, N2, hv, hp, hb⟩, hz, hk⟩, st⟩ := hr T hT X
  cases hv
  rw [h0] at hz hk
  have hA := ab_A_sub (Λ := Λ) (ad := ad) hS.1
  obtain ⟨t2, a1, b1⟩ := kk r M2 N2 T'.heap (locs ++ L) hp (by rw [e1]; exact hb)
    ⟨Nat.le_trans hS.1 (by rw [e1]; exact hz), fun q h1 h2 => by rw [e1, hk q (Nat.lt_of_lt_of_le h1 hS.1) (fun z => h2 (hA q z))]; exact hS.2.1 q h1 h2, fun q hq => by
      rcases List.mem_append.mp hq with h | h
      · exact hS.2.2 q h
      · exact hA _ (hL q h)⟩ T' rfl X'
  exact ⟨t2, st t2 a1, b1⟩
theorem ab_goodC {y : MethodName} {bytes : ByteArray} {nL : Nat} {ret : Option FieldType} (h : Cond.code y bytes nL ret ∈ ab_B) : GoodIn ab_B (Cond.code y bytes nL ret :: ab_B) := fun w hw => by
  rcases List.mem_cons.mp hw with rfl | hw
  · exact ab_goodIn _ h
  · exact ab_goodIn _ hw
def ab_yok (y : MethodName) (n : Nat) : Prop := y.cls ≠ "java/lang/invoke/MethodHandle" ∧ y.cls ≠ "java/lang/invoke/VarHandle" ∧ (parseMethodDescriptor y.desc).map (fun d => d.parameters.length) = some n
def ab_recv (Λ : List ab_L) (cl : List vw_C) (C : String) (T : ab_T) : Prop := ∀ (as : List Value) (M : ab_M) (N : ab_N) (k : ab_R), T as M N k → ∃ (k0 : Nat) (as2 : List Value) (ci : Nat) (fs : List (Nat ⊕ FieldType)) (T0 : u_T) (N0 : Nat), as = .ref k0 :: as2 ∧ Λ[k0]? = some (.inl (ci, fs)) ∧ cl[ci]? = some (C, T0, N0)
set_option maxHeartbeats 4000000 in
/-- a call of an instance method -/
theorem ab_callV {l : Launch} {own : String} {rm rmC : Room} {Λ : List ab_L} {cl : List vw_C} {Z : ab_Zt} {i n : Nat} {T : ab_T} {y : MethodName} {bytes : ByteArray} {nLC : Nat} {retC : Option FieldType} (hZ : ab_ZOK Z) (hM : ab_Met l Λ cl Z y bytes nLC retC rmC T) (hcode : Cond.code y bytes nLC retC ∈ ab_B) (hlink : Cond.methodLink own i y ∈ ab_B) (hins : Cond.instanceMethod y ∈ ab_B) (hsel : Cond.selects y.cls y y ∈ ab_B) (hini : Cond.initialized y.cls ∈ ab_B) (hy : ab_yok y n) (hr0 : rmC.cells = 0 ∧ rmC.slots = 0) (hroom : rmC.frames + 1 ≤ rm.frames ∧ 8 + (nLC + 11) + rmC.locals ≤ rm.locals) (hrecv : ab_recv Λ cl y.cls T) : ab_Call l own rm Λ cl Z .invokevirtual i (n + 1) T := by
  intro p e s m args below meth c cc nL ret D cy ad Qm hE hZs pc H locs lsC as rest M N k hdec hlen hcat hsz hP hS hT kk
  obtain ⟨⟨hx, hb, hml, hown, hts⟩, hr, hlocks, hK, hinj, hAad, hA⟩ := hE
  obtain ⟨k0, as2, ci, fs, T0, N0, rfl, e2, e3⟩ := hrecv as M N k hT
  have hst : ((Value.ref k0 :: as2).map (ab_c ad)).reverse ++ rest = (as2.map (ab_c ad)).reverse ++ Value.ref (ad k0) :: rest := by simp [ab_c]
  rw [hst]
  have cw : CallW rm s args own y.cls i y bytes nLC retC (Cond.code y bytes nLC retC :: ab_B) rmC 0 0 n := ⟨callB_of n hts (ab_goodC hcode) rfl hr0.1 hr0.2 (hts _ hini) (hts _ hlink) hy hroom, hts _ hins, hts _ hsel⟩
  have hrun := va_runV (p := p) (e := e) (R := rm) (m := m) (args := args) (below := below) (meth := meth) (c := c) (locs := locs) (cells := 0) (slots := 0) (As := as2.map (ab_c ad)) (rest := rest) (g := F0 m pc lsC ((as2.map (ab_c ad)).reverse ++ Value.ref (ad k0) :: rest)) (b := ad k0) ⟨hx, hb, hml, hown, hts⟩ (hM D cy ad H.size (Value.ref k0 :: as2) M N k hinj hT) cw
    ⟨ab_blind hZ, va_recv hK hP e3 (ab_w_at e2), fun U hU hW => ⟨by simp [ab_c], by rw [hU], by rw [hU]; exact hP, va_K.moved hW.alike hK, by rw [hU]; exact ab_Z_at hZ hZs hS hW⟩⟩ rfl (by simpa using hlen) hsz rfl (lv_room (m := m) (pc := pc) (ls := lsC) (rest := (as2.map (ab_c ad)).reverse ++ Value.ref (ad k0) :: rest) hcat) hdec ⟨Nat.zero_le _, Nat.zero_le _⟩
  exact ab_goes hrun hS kk
set_option maxHeartbeats 4000000 in
/-- a call of a static method -/
theorem ab_callS {l : Launch} {own : String} {rm rmC : Room} {Λ : List ab_L} {cl : List vw_C} {Z : ab_Zt} {i n : Nat} {T : ab_T} {y : MethodName} {bytes : ByteArray} {nLC : Nat} {retC : Option FieldType} (hZ : ab_ZOK Z) (hM : ab_Met l Λ cl Z y bytes nLC retC rmC T) (hcode : Cond.code y bytes nLC retC ∈ ab_B) (hlink : Cond.methodLink own i y ∈ ab_B) (hstt : Cond.static y ∈ ab_B) (hini : Cond.initialized y.cls ∈ ab_B) (hy : ab_yok y n) (hr0 : rmC.cells = 0 ∧ rmC.slots = 0) (hroom : rmC.frames + 1 ≤ rm.frames ∧ 8 + (nLC + 11) + rmC.locals ≤ rm.locals) : ab_Call l own rm Λ cl Z .invokestatic i n T := by
  intro p e s m args below meth c cc nL ret D cy ad Qm hE hZs pc H locs lsC as rest M N k hdec hlen hcat hsz hP hS hT kk
  obtain ⟨⟨hx, hb, hml, hown, hts⟩, hr, hlocks, hK, hinj, hAad, hA⟩ := hE
  have cw : CallB rm s args own i y bytes nLC retC (Cond.code y bytes nLC retC :: ab_B) rmC 0 0 n := callB_of n hts (ab_goodC hcode) rfl hr0.1 hr0.2 (hts _ hini) (hts _ hlink) hy hroom
  have hrun := va_runS (p := p) (e := e) (R := rm) (m := m) (args := args) (below := below) (meth := meth) (c := c) (locs := locs) (cells := 0) (slots := 0) (As := as.map (ab_c ad)) (rest := rest) (g := F0 m pc lsC ((as.map (ab_c ad)).reverse ++ rest)) ⟨hx, hb, hml, hown, hts⟩ (hM D cy ad H.size as M N k hinj hT) ⟨cw, hts _ hstt⟩
    ⟨ab_blind hZ, fun U hU hW => ⟨rfl, by rw [hU], by rw [hU]; exact hP, va_K.moved hW.alike hK, by rw [hU]; exact ab_Z_at hZ hZs hS hW⟩⟩ rfl (by simpa using hlen) hsz rfl (lv_room (m := m) (pc := pc) (ls := lsC) (rest := (as.map (ab_c ad)).reverse ++ rest) hcat) hdec ⟨Nat.zero_le _, Nat.zero_le _⟩
  exact ab_goes hrun hS kk
end
section
/-! the two worlds; the words of classes, fields, constants; kinds of transformers -/
def zw_C : List ab_L := [.inl (11, [.inl 1, .inl 2, .inl 3, .inl 4, .inl 5, .inl 6, .inl 7, .inl 8, .inl 9, .inl 10, .inl 11]),
  .inl (2, [.inl 13, .inl 14, .inl 15, .inl 16, .inr .int, .inl 17, .inl 18, .inr .int]),
  .inl (5, [.inl 25, .inl 26, .inl 27, .inl 28, .inl 29, .inl 30, .inr .int]),
  .inl (9, [.inl 31, .inl 32, .inr .int, .inr .int, .inl 33]),
  .inl (8, [.inl 3, .inl 34, .inr .int, .inr .int, .inr .int, .inr .int, .inr .int, .inr .int]),
  .inl (1, [.inl 1, .inl 3, .inl 35, .inl 36, .inr .int]),
  .inl (10, [.inl 1, .inl 2, .inl 5, .inl 37, .inl 38, .inl 39, .inl 40, .inr .int, .inr .int, .inr .int, .inr .int, .inr .int, .inr .int]),
  .inl (6, [.inl 1, .inl 6, .inl 5, .inl 41, .inr .long, .inr .long]),
  .inl (3, [.inl 1, .inl 6, .inl 5, .inl 42, .inr .long, .inr .long, .inr .int, .inr .int]),
  .inl (7, [.inl 43, .inl 44, .inl 45]),
  .inl (4, [.inl 12, .inl 46, .inr .int, .inr .int, .inr .boolean]),
  .inl (0, [.inr .int, .inr .long]),
  .inl (2, [.inl 19, .inl 20, .inl 21, .inl 22, .inr .int, .inl 23, .inl 24, .inr .int]),
  .inr (.int, 8),
  .inr (.int, 8),
  .inr (.int, 8),
  .inr (.int, 8),
  .inr (.int, 5),
  .inr (.int, 12),
  .inr (.int, 8),
  .inr (.int, 8),
  .inr (.int, 8),
  .inr (.int, 8),
  .inr (.int, 5),
  .inr (.int, 12),
  .inr (.int, 5),
  .inr (.int, 5),
  .inr (.int, 5),
  .inr (.int, 5),
  .inr (.int, 5),
  .inr (.int, 60),
  .inr (.int, 960),
  .inr (.int, 18),
  .inr (.int, 160),
  .inr (.int, 160),
  .inr (.int, 6),
  .inr (.int, 8736),
  .inr (.int, 60),
  .inr (.int, 96),
  .inr (.int, 96),
  .inr (.boolean, 5),
  .inr (.long, 7),
  .inr (.int, 8),
  .inr (.int, 4),
  .inr (.int, 4),
  .inr (.int, 160),
  .inr (.int, 5)]
def zw_M : List ab_L := [.inl (12, [.inr .int, .inr .int, .inr .int, .inr .int, .inr .int, .inr .int, .inl 1, .inr .int, .inl 2, .inl 3, .inl 4, .inl 5, .inr .int, .inl 6, .inl 7, .inl 8, .inl 9, .inl 10, .inl 11, .inl 12, .inr .int, .inl 13, .inl 14, .inr .int, .inr .int, .inr .int, .inr .int, .inr .int, .inr .int, .inr .int, .inr .int, .inr .boolean, .inr .int, .inr .int, .inr .int, .inr .int, .inr .int, .inr .int, .inr .int, .inr .int, .inr .int, .inl 15, .inl 16, .inl 17, .inl 18, .inl 19, .inl 20, .inl 21, .inl 22, .inl 23, .inr .int, .inr .int, .inr .int, .inr .int, .inl 24, .inl 25, .inr .int, .inr .int, .inr .int, .inl 26, .inl 27, .inl 28, .inl 29, .inl 30, .inl 31, .inl 32, .inr .long, .inr .long, .inr .long, .inl 33, .inr .long, .inr .int]),
  .inr (.int, 12),
  .inr (.int, 8),
  .inr (.int, 8),
  .inr (.int, 8),
  .inr (.int, 8),
  .inr (.int, 5),
  .inr (.int, 5),
  .inr (.int, 5),
  .inr (.int, 5),
  .inr (.int, 5),
  .inr (.int, 60),
  .inr (.int, 160),
  .inr (.int, 1200),
  .inr (.int, 24),
  .inr (.int, 12),
  .inr (.int, 8),
  .inr (.int, 8),
  .inr (.int, 8),
  .inr (.int, 8),
  .inr (.int, 5),
  .inr (.int, 4),
  .inr (.int, 4),
  .inr (.int, 160),
  .inr (.long, 12),
  .inr (.int, 200),
  .inr (.int, 200),
  .inr (.int, 6),
  .inr (.int, 60),
  .inr (.int, 12),
  .inr (.int, 96),
  .inr (.boolean, 5),
  .inr (.long, 7),
  .inr (.int, 8)]
theorem zl_X0 : ∀ k, k < 2 → u_lay RX0 TX0 k ∈ ab_B
  | 0, _ => ab_in 375 (by decide +kernel) rfl
  | 1, _ => ab_in 377 (by decide +kernel) rfl
  | n + 2, h => absurd h (by omega)
theorem zl_X1 : ∀ k, k < 5 → u_lay RX1 TX1 k ∈ ab_B
  | 0, _ => ab_in 191 (by decide +kernel) rfl
  | 1, _ => ab_in 193 (by decide +kernel) rfl
  | 2, _ => ab_in 195 (by decide +kernel) rfl
  | 3, _ => ab_in 197 (by decide +kernel) rfl
  | 4, _ => ab_in 199 (by decide +kernel) rfl
  | n + 5, h => absurd h (by omega)
theorem zl_X2 : ∀ k, k < 8 → u_lay RX2 TX2 k ∈ ab_B
  | 0, _ => ab_in 62 (by decide +kernel) rfl
  | 1, _ => ab_in 64 (by decide +kernel) rfl
  | 2, _ => ab_in 66 (by decide +kernel) rfl
  | 3, _ => ab_in 68 (by decide +kernel) rfl
  | 4, _ => ab_in 70 (by decide +kernel) rfl
  | 5, _ => ab_in 72 (by decide +kernel) rfl
  | 6, _ => ab_in 74 (by decide +kernel) rfl
  | 7, _ => ab_in 76 (by decide +kernel) rfl
  | n + 8, h => absurd h (by omega)
theorem zl_X3 : ∀ k, k < 8 → u_lay RX3 TX3 k ∈ ab_B
  | 0, _ => ab_in 300 (by decide +kernel) rfl
  | 1, _ => ab_in 302 (by decide +kernel) rfl
  | 2, _ => ab_in 304 (by decide +kernel) rfl
  | 3, _ => ab_in 306 (by decide +kernel) rfl
  | 4, _ => ab_in 308 (by decide +kernel) rfl
  | 5, _ => ab_in 310 (by decide +kernel) rfl
  | 6, _ => ab_in 312 (by decide +kernel) rfl
  | 7, _ => ab_in 314 (by decide +kernel) rfl
  | n + 8, h => absurd h (by omega)
theorem zl_X4 : ∀ k, k < 5 → u_lay RX4 TX4 k ∈ ab_B
  | 0, _ => ab_in 354 (by decide +kernel) rfl
  | 1, _ => ab_in 356 (by decide +kernel) rfl
  | 2, _ => ab_in 358 (by decide +kernel) rfl
  | 3, _ => ab_in 360 (by decide +kernel) rfl
  | 4, _ => ab_in 362 (by decide +kernel) rfl
  | n + 5, h => absurd h (by omega)
theorem zl_X5 : ∀ k, k < 7 → u_lay RX5 TX5 k ∈ ab_B
  | 0, _ => ab_in 106 (by decide +kernel) rfl
  | 1, _ => ab_in 108 (by decide +kernel) rfl
  | 2, _ => ab_in 110 (by decide +kernel) rfl
  | 3, _ => ab_in 112 (by decide +kernel) rfl
  | 4, _ => ab_in 114 (by decide +kernel) rfl
  | 5, _ => ab_in 116 (by decide +kernel) rfl
  | 6, _ => ab_in 118 (by decide +kernel) rfl
  | n + 7, h => absurd h (by omega)
theorem zl_X6 : ∀ k, k < 6 → u_lay RX6 TX6 k ∈ ab_B
  | 0, _ => ab_in 269 (by decide +kernel) rfl
  | 1, _ => ab_in 271 (by decide +kernel) rfl
  | 2, _ => ab_in 273 (by decide +kernel) rfl
  | 3, _ => ab_in 275 (by decide +kernel) rfl
  | 4, _ => ab_in 277 (by decide +kernel) rfl
  | 5, _ => ab_in 279 (by decide +kernel) rfl
  | n + 6, h => absurd h (by omega)
theorem zl_X7 : ∀ k, k < 3 → u_lay RX7 TX7 k ∈ ab_B
  | 0, _ => ab_in 329 (by decide +kernel) rfl
  | 1, _ => ab_in 331 (by decide +kernel) rfl
  | 2, _ => ab_in 333 (by decide +kernel) rfl
  | n + 3, h => absurd h (by omega)
theorem zl_X8 : ∀ k, k < 8 → u_lay RX8 TX8 k ∈ ab_B
  | 0, _ => ab_in 163 (by decide +kernel) rfl
  | 1, _ => ab_in 165 (by decide +kernel) rfl
  | 2, _ => ab_in 167 (by decide +kernel) rfl
  | 3, _ => ab_in 169 (by decide +kernel) rfl
  | 4, _ => ab_in 171 (by decide +kernel) rfl
  | 5, _ => ab_in 173 (by decide +kernel) rfl
  | 6, _ => ab_in 175 (by decide +kernel) rfl
  | 7, _ => ab_in 177 (by decide +kernel) rfl
  | n + 8, h => absurd h (by omega)
theorem zl_X9 : ∀ k, k < 5 → u_lay RX9 TX9 k ∈ ab_B
  | 0, _ => ab_in 137 (by decide +kernel) rfl
  | 1, _ => ab_in 139 (by decide +kernel) rfl
  | 2, _ => ab_in 141 (by decide +kernel) rfl
  | 3, _ => ab_in 143 (by decide +kernel) rfl
  | 4, _ => ab_in 145 (by decide +kernel) rfl
  | n + 5, h => absurd h (by omega)
theorem zl_X10 : ∀ k, k < 13 → u_lay RX10 TX10 k ∈ ab_B
  | 0, _ => ab_in 227 (by decide +kernel) rfl
  | 1, _ => ab_in 229 (by decide +kernel) rfl
  | 2, _ => ab_in 231 (by decide +kernel) rfl
  | 3, _ => ab_in 233 (by decide +kernel) rfl
  | 4, _ => ab_in 235 (by decide +kernel) rfl
  | 5, _ => ab_in 237 (by decide +kernel) rfl
  | 6, _ => ab_in 239 (by decide +kernel) rfl
  | 7, _ => ab_in 241 (by decide +kernel) rfl
  | 8, _ => ab_in 243 (by decide +kernel) rfl
  | 9, _ => ab_in 245 (by decide +kernel) rfl
  | 10, _ => ab_in 247 (by decide +kernel) rfl
  | 11, _ => ab_in 249 (by decide +kernel) rfl
  | 12, _ => ab_in 251 (by decide +kernel) rfl
  | n + 13, h => absurd h (by omega)
theorem zl_X11 : ∀ k, k < 11 → u_lay RX11 TX11 k ∈ ab_B
  | 0, _ => ab_in 508 (by decide +kernel) rfl
  | 1, _ => ab_in 510 (by decide +kernel) rfl
  | 2, _ => ab_in 512 (by decide +kernel) rfl
  | 3, _ => ab_in 514 (by decide +kernel) rfl
  | 4, _ => ab_in 516 (by decide +kernel) rfl
  | 5, _ => ab_in 518 (by decide +kernel) rfl
  | 6, _ => ab_in 520 (by decide +kernel) rfl
  | 7, _ => ab_in 522 (by decide +kernel) rfl
  | 8, _ => ab_in 524 (by decide +kernel) rfl
  | 9, _ => ab_in 526 (by decide +kernel) rfl
  | 10, _ => ab_in 528 (by decide +kernel) rfl
  | n + 11, h => absurd h (by omega)
theorem zl_X12 : ∀ k, k < 72 → u_lay RX12 TX12 k ∈ ab_B
  | 0, _ => ab_in 1049 (by decide +kernel) rfl
  | 1, _ => ab_in 1051 (by decide +kernel) rfl
  | 2, _ => ab_in 1053 (by decide +kernel) rfl
  | 3, _ => ab_in 1055 (by decide +kernel) rfl
  | 4, _ => ab_in 1057 (by decide +kernel) rfl
  | 5, _ => ab_in 1059 (by decide +kernel) rfl
  | 6, _ => ab_in 1061 (by decide +kernel) rfl
  | 7, _ => ab_in 1063 (by decide +kernel) rfl
  | 8, _ => ab_in 1065 (by decide +kernel) rfl
  | 9, _ => ab_in 1067 (by decide +kernel) rfl
  | 10, _ => ab_in 1069 (by decide +kernel) rfl
  | 11, _ => ab_in 1071 (by decide +kernel) rfl
  | 12, _ => ab_in 1073 (by decide +kernel) rfl
  | 13, _ => ab_in 1075 (by decide +kernel) rfl
  | 14, _ => ab_in 1077 (by decide +kernel) rfl
  | 15, _ => ab_in 1079 (by decide +kernel) rfl
  | 16, _ => ab_in 1081 (by decide +kernel) rfl
  | 17, _ => ab_in 1083 (by decide +kernel) rfl
  | 18, _ => ab_in 1085 (by decide +kernel) rfl
  | 19, _ => ab_in 1087 (by decide +kernel) rfl
  | 20, _ => ab_in 1089 (by decide +kernel) rfl
  | 21, _ => ab_in 1091 (by decide +kernel) rfl
  | 22, _ => ab_in 1093 (by decide +kernel) rfl
  | 23, _ => ab_in 1095 (by decide +kernel) rfl
  | 24, _ => ab_in 1097 (by decide +kernel) rfl
  | 25, _ => ab_in 1099 (by decide +kernel) rfl
  | 26, _ => ab_in 1101 (by decide +kernel) rfl
  | 27, _ => ab_in 1103 (by decide +kernel) rfl
  | 28, _ => ab_in 1105 (by decide +kernel) rfl
  | 29, _ => ab_in 1107 (by decide +kernel) rfl
  | 30, _ => ab_in 1109 (by decide +kernel) rfl
  | 31, _ => ab_in 1111 (by decide +kernel) rfl
  | 32, _ => ab_in 1113 (by decide +kernel) rfl
  | 33, _ => ab_in 1115 (by decide +kernel) rfl
  | 34, _ => ab_in 1117 (by decide +kernel) rfl
  | 35, _ => ab_in 1119 (by decide +kernel) rfl
  | 36, _ => ab_in 1121 (by decide +kernel) rfl
  | 37, _ => ab_in 1123 (by decide +kernel) rfl
  | 38, _ => ab_in 1125 (by decide +kernel) rfl
  | 39, _ => ab_in 1127 (by decide +kernel) rfl
  | 40, _ => ab_in 1129 (by decide +kernel) rfl
  | 41, _ => ab_in 1131 (by decide +kernel) rfl
  | 42, _ => ab_in 1133 (by decide +kernel) rfl
  | 43, _ => ab_in 1135 (by decide +kernel) rfl
  | 44, _ => ab_in 1137 (by decide +kernel) rfl
  | 45, _ => ab_in 1139 (by decide +kernel) rfl
  | 46, _ => ab_in 1141 (by decide +kernel) rfl
  | 47, _ => ab_in 1143 (by decide +kernel) rfl
  | 48, _ => ab_in 1145 (by decide +kernel) rfl
  | 49, _ => ab_in 1147 (by decide +kernel) rfl
  | 50, _ => ab_in 1149 (by decide +kernel) rfl
  | 51, _ => ab_in 1151 (by decide +kernel) rfl
  | 52, _ => ab_in 1153 (by decide +kernel) rfl
  | 53, _ => ab_in 1155 (by decide +kernel) rfl
  | 54, _ => ab_in 1157 (by decide +kernel) rfl
  | 55, _ => ab_in 1159 (by decide +kernel) rfl
  | 56, _ => ab_in 1161 (by decide +kernel) rfl
  | 57, _ => ab_in 1163 (by decide +kernel) rfl
  | 58, _ => ab_in 1165 (by decide +kernel) rfl
  | 59, _ => ab_in 1167 (by decide +kernel) rfl
  | 60, _ => ab_in 1169 (by decide +kernel) rfl
  | 61, _ => ab_in 1171 (by decide +kernel) rfl
  | 62, _ => ab_in 1173 (by decide +kernel) rfl
  | 63, _ => ab_in 1175 (by decide +kernel) rfl
  | 64, _ => ab_in 1177 (by decide +kernel) rfl
  | 65, _ => ab_in 1179 (by decide +kernel) rfl
  | 66, _ => ab_in 1181 (by decide +kernel) rfl
  | 67, _ => ab_in 1183 (by decide +kernel) rfl
  | 68, _ => ab_in 1185 (by decide +kernel) rfl
  | 69, _ => ab_in 1187 (by decide +kernel) rfl
  | 70, _ => ab_in 1189 (by decide +kernel) rfl
  | 71, _ => ab_in 1191 (by decide +kernel) rfl
  | n + 72, h => absurd h (by omega)
theorem zl_of {C : String} {T : u_T} {N : Nat} (h : ∀ k, k < N → u_lay C T k ∈ ab_B) : ∀ w ∈ u_ws C T N, w ∈ ab_B := fun w hw => by
  obtain ⟨k, hk, rfl⟩ := List.mem_map.mp hw
  exact h k (List.mem_range.mp hk)
set_option maxHeartbeats 4000000 in
theorem zl_cl : ab_Cl vwCl
  | 0, _, _, _, h => by cases h; exact ⟨zl_of zl_X0, ⟨tyX0, tyX0_ok⟩, nmX0⟩
  | 1, _, _, _, h => by cases h; exact ⟨zl_of zl_X1, ⟨tyX1, tyX1_ok⟩, nmX1⟩
  | 2, _, _, _, h => by cases h; exact ⟨zl_of zl_X2, ⟨tyX2, tyX2_ok⟩, nmX2⟩
  | 3, _, _, _, h => by cases h; exact ⟨zl_of zl_X3, ⟨tyX3, tyX3_ok⟩, nmX3⟩
  | 4, _, _, _, h => by cases h; exact ⟨zl_of zl_X4, ⟨tyX4, tyX4_ok⟩, nmX4⟩
  | 5, _, _, _, h => by cases h; exact ⟨zl_of zl_X5, ⟨tyX5, tyX5_ok⟩, nmX5⟩
  | 6, _, _, _, h => by cases h; exact ⟨zl_of zl_X6, ⟨tyX6, tyX6_ok⟩, nmX6⟩
  | 7, _, _, _, h => by cases h; exact ⟨zl_of zl_X7, ⟨tyX7, tyX7_ok⟩, nmX7⟩
  | 8, _, _, _, h => by cases h; exact ⟨zl_of zl_X8, ⟨tyX8, tyX8_ok⟩, nmX8⟩
  | 9, _, _, _, h => by cases h; exact ⟨zl_of zl_X9, ⟨tyX9, tyX9_ok⟩, nmX9⟩
  | 10, _, _, _, h => by cases h; exact ⟨zl_of zl_X10, ⟨tyX10, tyX10_ok⟩, nmX10⟩
  | 11, _, _, _, h => by cases h; exact ⟨zl_of zl_X11, ⟨tyX11, tyX11_ok⟩, nmX11⟩
  | 12, _, _, _, h => by cases h; exact ⟨zl_of zl_X12, ⟨tyX12, tyX12_ok⟩, nmX12⟩
  | n + 13, _, _, _, h => by simp at h
def zl_lamB (cl : List vw_C) (Λ : List ab_L) : Bool := Λ.all (fun c => match c with
  | .inl (ci, fs) => (match cl[ci]? with
    | some (_, T, _) => (List.range fs.length).all (fun j => match fs[j]? with
      | some (.inr ty) => decide (parseFieldDescriptor (T j).2.2.1 = some ty) && !(T j).2.2.2
      | _ => true)
    | none => false)
  | _ => true)
theorem zl_lam {cl : List vw_C} {Λ : List ab_L} (h : zl_lamB cl Λ = true) : ab_Lam cl Λ := by
  intro k ci fs j ty h1 h2
  have h3 := List.all_eq_true.mp h _ (List.mem_of_getElem? h1)
  dsimp only at h3
  split at h3
  · rename_i C T N hc
    have h4 := List.all_eq_true.mp h3 j (List.mem_range.mpr (List.getElem?_eq_some_iff.mp h2).1)
    rw [h2] at h4
    dsimp only at h4
    simp only [Bool.and_eq_true, decide_eq_true_eq, Bool.not_eq_true'] at h4
    exact ⟨C, T, N, hc, h4.1, h4.2⟩
  · cases h3
theorem zl_lamC : ab_Lam vwCl zw_C := zl_lam (by decide +kernel)
theorem zl_lamM : ab_Lam vwCl zw_M := zl_lam (by decide +kernel)
theorem zl_fldL {own : String} {cl : List vw_C} {fld : List (Nat × Nat × Nat)} (h : ∀ q ∈ fld, ∃ (C : String) (T : u_T) (N : Nat), cl[q.2.1]? = some (C, T, N) ∧ q.2.2 < N ∧ Cond.fieldLink own q.1 (T q.2.2).1 (T q.2.2).2.1 (T q.2.2).2.2.1 ∈ ab_B) : ab_Fld own cl fld := fun _ _ _ hq => h _ (ab_a_in _ _ _ hq)
def zf_X0 : List (Nat × Nat × Nat) := [(7, 0, 0), (13, 0, 1)]
theorem zf_X0_ok : ab_Fld RX0 vwCl zf_X0 := zl_fldL (List.forall_mem_cons.mpr ⟨⟨RX0, TX0, 2, rfl, by decide, ab_in 371 (by decide +kernel) rfl⟩, List.forall_mem_cons.mpr ⟨⟨RX0, TX0, 2, rfl, by decide, ab_in 373 (by decide +kernel) rfl⟩, List.forall_mem_nil _⟩⟩)
def zf_X1 : List (Nat × Nat × Nat) := [(9, 1, 2), (15, 1, 3), (18, 1, 4), (22, 1, 0), (26, 1, 1), (36, 2, 2), (45, 2, 6), (48, 2, 0), (51, 2, 5), (54, 2, 1)]
theorem zf_X1_ok : ab_Fld RX1 vwCl zf_X1 := zl_fldL (List.forall_mem_cons.mpr ⟨⟨RX1, TX1, 5, rfl, by decide, ab_in 188 (by decide +kernel) rfl⟩, List.forall_mem_cons.mpr ⟨⟨RX1, TX1, 5, rfl, by decide, ab_in 189 (by decide +kernel) rfl⟩, List.forall_mem_cons.mpr ⟨⟨RX1, TX1, 5, rfl, by decide, ab_in 190 (by decide +kernel) rfl⟩, List.forall_mem_cons.mpr ⟨⟨RX1, TX1, 5, rfl, by decide, ab_in 186 (by decide +kernel) rfl⟩, List.forall_mem_cons.mpr ⟨⟨RX1, TX1, 5, rfl, by decide, ab_in 187 (by decide +kernel) rfl⟩, List.forall_mem_cons.mpr ⟨⟨RX2, TX2, 8, rfl, by decide, ab_in 42 (by decide +kernel) rfl⟩, List.forall_mem_cons.mpr ⟨⟨RX2, TX2, 8, rfl, by decide, ab_in 58 (by decide +kernel) rfl⟩, List.forall_mem_cons.mpr ⟨⟨RX2, TX2, 8, rfl, by decide, ab_in 37 (by decide +kernel) rfl⟩, List.forall_mem_cons.mpr ⟨⟨RX2, TX2, 8, rfl, by decide, ab_in 54 (by decide +kernel) rfl⟩, List.forall_mem_cons.mpr ⟨⟨RX2, TX2, 8, rfl, by decide, ab_in 40 (by decide +kernel) rfl⟩, List.forall_mem_nil _⟩⟩⟩⟩⟩⟩⟩⟩⟩⟩)
def zf_X2 : List (Nat × Nat × Nat) := [(9, 2, 0), (15, 2, 1), (18, 2, 2), (21, 2, 3), (24, 2, 4), (28, 2, 5), (31, 2, 6), (34, 2, 7)]
theorem zf_X2_ok : ab_Fld RX2 vwCl zf_X2 := zl_fldL (List.forall_mem_cons.mpr ⟨⟨RX2, TX2, 8, rfl, by decide, ab_in 35 (by decide +kernel) rfl⟩, List.forall_mem_cons.mpr ⟨⟨RX2, TX2, 8, rfl, by decide, ab_in 38 (by decide +kernel) rfl⟩, List.forall_mem_cons.mpr ⟨⟨RX2, TX2, 8, rfl, by decide, ab_in 41 (by decide +kernel) rfl⟩, List.forall_mem_cons.mpr ⟨⟨RX2, TX2, 8, rfl, by decide, ab_in 44 (by decide +kernel) rfl⟩, List.forall_mem_cons.mpr ⟨⟨RX2, TX2, 8, rfl, by decide, ab_in 47 (by decide +kernel) rfl⟩, List.forall_mem_cons.mpr ⟨⟨RX2, TX2, 8, rfl, by decide, ab_in 51 (by decide +kernel) rfl⟩, List.forall_mem_cons.mpr ⟨⟨RX2, TX2, 8, rfl, by decide, ab_in 57 (by decide +kernel) rfl⟩, List.forall_mem_cons.mpr ⟨⟨RX2, TX2, 8, rfl, by decide, ab_in 60 (by decide +kernel) rfl⟩, List.forall_mem_nil _⟩⟩⟩⟩⟩⟩⟩⟩)
def zf_X3 : List (Nat × Nat × Nat) := [(9, 3, 3), (15, 3, 0), (19, 3, 1), (23, 3, 2), (33, 3, 4), (37, 3, 5), (40, 3, 6), (44, 3, 7), (47, 2, 5), (52, 2, 4)]
theorem zf_X3_ok : ab_Fld RX3 vwCl zf_X3 := zl_fldL (List.forall_mem_cons.mpr ⟨⟨RX3, TX3, 8, rfl, by decide, ab_in 292 (by decide +kernel) rfl⟩, List.forall_mem_cons.mpr ⟨⟨RX3, TX3, 8, rfl, by decide, ab_in 289 (by decide +kernel) rfl⟩, List.forall_mem_cons.mpr ⟨⟨RX3, TX3, 8, rfl, by decide, ab_in 290 (by decide +kernel) rfl⟩, List.forall_mem_cons.mpr ⟨⟨RX3, TX3, 8, rfl, by decide, ab_in 291 (by decide +kernel) rfl⟩, List.forall_mem_cons.mpr ⟨⟨RX3, TX3, 8, rfl, by decide, ab_in 293 (by decide +kernel) rfl⟩, List.forall_mem_cons.mpr ⟨⟨RX3, TX3, 8, rfl, by decide, ab_in 294 (by decide +kernel) rfl⟩, List.forall_mem_cons.mpr ⟨⟨RX3, TX3, 8, rfl, by decide, ab_in 296 (by decide +kernel) rfl⟩, List.forall_mem_cons.mpr ⟨⟨RX3, TX3, 8, rfl, by decide, ab_in 298 (by decide +kernel) rfl⟩, List.forall_mem_cons.mpr ⟨⟨RX2, TX2, 8, rfl, by decide, ab_in 53 (by decide +kernel) rfl⟩, List.forall_mem_cons.mpr ⟨⟨RX2, TX2, 8, rfl, by decide, ab_in 49 (by decide +kernel) rfl⟩, List.forall_mem_nil _⟩⟩⟩⟩⟩⟩⟩⟩⟩⟩)
def zc_X3 : List (Nat × Value) := [(67, .long 1000), (85, .long 100), (91, .long 48271), (93, .long 2147483647)]
def zf_X4 : List (Nat × Nat × Nat) := [(12, 4, 0), (18, 4, 1), (22, 4, 2), (26, 4, 3), (29, 4, 4)]
theorem zf_X4_ok : ab_Fld RX4 vwCl zf_X4 := zl_fldL (List.forall_mem_cons.mpr ⟨⟨RX4, TX4, 5, rfl, by decide, ab_in 344 (by decide +kernel) rfl⟩, List.forall_mem_cons.mpr ⟨⟨RX4, TX4, 5, rfl, by decide, ab_in 346 (by decide +kernel) rfl⟩, List.forall_mem_cons.mpr ⟨⟨RX4, TX4, 5, rfl, by decide, ab_in 348 (by decide +kernel) rfl⟩, List.forall_mem_cons.mpr ⟨⟨RX4, TX4, 5, rfl, by decide, ab_in 350 (by decide +kernel) rfl⟩, List.forall_mem_cons.mpr ⟨⟨RX4, TX4, 5, rfl, by decide, ab_in 352 (by decide +kernel) rfl⟩, List.forall_mem_nil _⟩⟩⟩⟩⟩)
def zf_X5 : List (Nat × Nat × Nat) := [(9, 5, 0), (15, 5, 1), (18, 5, 2), (21, 5, 3), (24, 5, 4), (27, 5, 5), (30, 5, 6)]
theorem zf_X5_ok : ab_Fld RX5 vwCl zf_X5 := zl_fldL (List.forall_mem_cons.mpr ⟨⟨RX5, TX5, 7, rfl, by decide, ab_in 86 (by decide +kernel) rfl⟩, List.forall_mem_cons.mpr ⟨⟨RX5, TX5, 7, rfl, by decide, ab_in 89 (by decide +kernel) rfl⟩, List.forall_mem_cons.mpr ⟨⟨RX5, TX5, 7, rfl, by decide, ab_in 92 (by decide +kernel) rfl⟩, List.forall_mem_cons.mpr ⟨⟨RX5, TX5, 7, rfl, by decide, ab_in 95 (by decide +kernel) rfl⟩, List.forall_mem_cons.mpr ⟨⟨RX5, TX5, 7, rfl, by decide, ab_in 98 (by decide +kernel) rfl⟩, List.forall_mem_cons.mpr ⟨⟨RX5, TX5, 7, rfl, by decide, ab_in 100 (by decide +kernel) rfl⟩, List.forall_mem_cons.mpr ⟨⟨RX5, TX5, 7, rfl, by decide, ab_in 103 (by decide +kernel) rfl⟩, List.forall_mem_nil _⟩⟩⟩⟩⟩⟩⟩)
def zf_X6 : List (Nat × Nat × Nat) := [(9, 6, 3), (15, 6, 0), (19, 6, 1), (23, 6, 2), (27, 6, 4), (31, 2, 5), (37, 6, 5)]
theorem zf_X6_ok : ab_Fld RX6 vwCl zf_X6 := zl_fldL (List.forall_mem_cons.mpr ⟨⟨RX6, TX6, 6, rfl, by decide, ab_in 264 (by decide +kernel) rfl⟩, List.forall_mem_cons.mpr ⟨⟨RX6, TX6, 6, rfl, by decide, ab_in 261 (by decide +kernel) rfl⟩, List.forall_mem_cons.mpr ⟨⟨RX6, TX6, 6, rfl, by decide, ab_in 262 (by decide +kernel) rfl⟩, List.forall_mem_cons.mpr ⟨⟨RX6, TX6, 6, rfl, by decide, ab_in 263 (by decide +kernel) rfl⟩, List.forall_mem_cons.mpr ⟨⟨RX6, TX6, 6, rfl, by decide, ab_in 266 (by decide +kernel) rfl⟩, List.forall_mem_cons.mpr ⟨⟨RX2, TX2, 8, rfl, by decide, ab_in 52 (by decide +kernel) rfl⟩, List.forall_mem_cons.mpr ⟨⟨RX6, TX6, 6, rfl, by decide, ab_in 268 (by decide +kernel) rfl⟩, List.forall_mem_nil _⟩⟩⟩⟩⟩⟩⟩)
def zc_X6 : List (Nat × Value) := [(46, .long 1000000000), (80, .long 1000), (82, .long 100)]
def zf_X7 : List (Nat × Nat × Nat) := [(9, 7, 0), (15, 7, 1), (18, 7, 2)]
theorem zf_X7_ok : ab_Fld RX7 vwCl zf_X7 := zl_fldL (List.forall_mem_cons.mpr ⟨⟨RX7, TX7, 3, rfl, by decide, ab_in 323 (by decide +kernel) rfl⟩, List.forall_mem_cons.mpr ⟨⟨RX7, TX7, 3, rfl, by decide, ab_in 325 (by decide +kernel) rfl⟩, List.forall_mem_cons.mpr ⟨⟨RX7, TX7, 3, rfl, by decide, ab_in 327 (by decide +kernel) rfl⟩, List.forall_mem_nil _⟩⟩⟩)
def zf_X8 : List (Nat × Nat × Nat) := [(9, 8, 1), (15, 8, 2), (19, 8, 0), (23, 9, 2), (28, 8, 6), (31, 8, 7), (37, 8, 3), (40, 8, 5), (47, 9, 1), (72, 8, 4), (75, 9, 0)]
theorem zf_X8_ok : ab_Fld RX8 vwCl zf_X8 := zl_fldL (List.forall_mem_cons.mpr ⟨⟨RX8, TX8, 8, rfl, by decide, ab_in 155 (by decide +kernel) rfl⟩, List.forall_mem_cons.mpr ⟨⟨RX8, TX8, 8, rfl, by decide, ab_in 156 (by decide +kernel) rfl⟩, List.forall_mem_cons.mpr ⟨⟨RX8, TX8, 8, rfl, by decide, ab_in 154 (by decide +kernel) rfl⟩, List.forall_mem_cons.mpr ⟨⟨RX9, TX9, 5, rfl, by decide, ab_in 132 (by decide +kernel) rfl⟩, List.forall_mem_cons.mpr ⟨⟨RX8, TX8, 8, rfl, by decide, ab_in 161 (by decide +kernel) rfl⟩, List.forall_mem_cons.mpr ⟨⟨RX8, TX8, 8, rfl, by decide, ab_in 162 (by decide +kernel) rfl⟩, List.forall_mem_cons.mpr ⟨⟨RX8, TX8, 8, rfl, by decide, ab_in 158 (by decide +kernel) rfl⟩, List.forall_mem_cons.mpr ⟨⟨RX8, TX8, 8, rfl, by decide, ab_in 160 (by decide +kernel) rfl⟩, List.forall_mem_cons.mpr ⟨⟨RX9, TX9, 5, rfl, by decide, ab_in 130 (by decide +kernel) rfl⟩, List.forall_mem_cons.mpr ⟨⟨RX8, TX8, 8, rfl, by decide, ab_in 159 (by decide +kernel) rfl⟩, List.forall_mem_cons.mpr ⟨⟨RX9, TX9, 5, rfl, by decide, ab_in 128 (by decide +kernel) rfl⟩, List.forall_mem_nil _⟩⟩⟩⟩⟩⟩⟩⟩⟩⟩⟩)
def zf_X9 : List (Nat × Nat × Nat) := [(9, 9, 0), (15, 9, 1), (18, 9, 2), (22, 9, 3), (25, 9, 4)]
theorem zf_X9_ok : ab_Fld RX9 vwCl zf_X9 := zl_fldL (List.forall_mem_cons.mpr ⟨⟨RX9, TX9, 5, rfl, by decide, ab_in 127 (by decide +kernel) rfl⟩, List.forall_mem_cons.mpr ⟨⟨RX9, TX9, 5, rfl, by decide, ab_in 129 (by decide +kernel) rfl⟩, List.forall_mem_cons.mpr ⟨⟨RX9, TX9, 5, rfl, by decide, ab_in 131 (by decide +kernel) rfl⟩, List.forall_mem_cons.mpr ⟨⟨RX9, TX9, 5, rfl, by decide, ab_in 134 (by decide +kernel) rfl⟩, List.forall_mem_cons.mpr ⟨⟨RX9, TX9, 5, rfl, by decide, ab_in 136 (by decide +kernel) rfl⟩, List.forall_mem_nil _⟩⟩⟩⟩⟩)
def zf_X10 : List (Nat × Nat × Nat) := [(9, 10, 3), (15, 10, 4), (18, 10, 5), (21, 10, 6), (25, 10, 7), (29, 10, 8), (32, 10, 9), (35, 10, 10), (38, 10, 11), (41, 10, 12), (44, 10, 0), (48, 10, 1), (52, 10, 2), (62, 5, 3), (69, 2, 5), (74, 2, 4), (84, 5, 6), (90, 5, 1), (93, 5, 2), (102, 2, 3), (105, 5, 0), (115, 5, 5)]
theorem zf_X10_ok : ab_Fld RX10 vwCl zf_X10 := zl_fldL (List.forall_mem_cons.mpr ⟨⟨RX10, TX10, 13, rfl, by decide, ab_in 211 (by decide +kernel) rfl⟩, List.forall_mem_cons.mpr ⟨⟨RX10, TX10, 13, rfl, by decide, ab_in 212 (by decide +kernel) rfl⟩, List.forall_mem_cons.mpr ⟨⟨RX10, TX10, 13, rfl, by decide, ab_in 213 (by decide +kernel) rfl⟩, List.forall_mem_cons.mpr ⟨⟨RX10, TX10, 13, rfl, by decide, ab_in 214 (by decide +kernel) rfl⟩, List.forall_mem_cons.mpr ⟨⟨RX10, TX10, 13, rfl, by decide, ab_in 215 (by decide +kernel) rfl⟩, List.forall_mem_cons.mpr ⟨⟨RX10, TX10, 13, rfl, by decide, ab_in 217 (by decide +kernel) rfl⟩, List.forall_mem_cons.mpr ⟨⟨RX10, TX10, 13, rfl, by decide, ab_in 219 (by decide +kernel) rfl⟩, List.forall_mem_cons.mpr ⟨⟨RX10, TX10, 13, rfl, by decide, ab_in 221 (by decide +kernel) rfl⟩, List.forall_mem_cons.mpr ⟨⟨RX10, TX10, 13, rfl, by decide, ab_in 223 (by decide +kernel) rfl⟩, List.forall_mem_cons.mpr ⟨⟨RX10, TX10, 13, rfl, by decide, ab_in 225 (by decide +kernel) rfl⟩, List.forall_mem_cons.mpr ⟨⟨RX10, TX10, 13, rfl, by decide, ab_in 208 (by decide +kernel) rfl⟩, List.forall_mem_cons.mpr ⟨⟨RX10, TX10, 13, rfl, by decide, ab_in 209 (by decide +kernel) rfl⟩, List.forall_mem_cons.mpr ⟨⟨RX10, TX10, 13, rfl, by decide, ab_in 210 (by decide +kernel) rfl⟩, List.forall_mem_cons.mpr ⟨⟨RX5, TX5, 7, rfl, by decide, ab_in 96 (by decide +kernel) rfl⟩, List.forall_mem_cons.mpr ⟨⟨RX2, TX2, 8, rfl, by decide, ab_in 56 (by decide +kernel) rfl⟩, List.forall_mem_cons.mpr ⟨⟨RX2, TX2, 8, rfl, by decide, ab_in 50 (by decide +kernel) rfl⟩, List.forall_mem_cons.mpr ⟨⟨RX5, TX5, 7, rfl, by decide, ab_in 105 (by decide +kernel) rfl⟩, List.forall_mem_cons.mpr ⟨⟨RX5, TX5, 7, rfl, by decide, ab_in 90 (by decide +kernel) rfl⟩, List.forall_mem_cons.mpr ⟨⟨RX5, TX5, 7, rfl, by decide, ab_in 93 (by decide +kernel) rfl⟩, List.forall_mem_cons.mpr ⟨⟨RX2, TX2, 8, rfl, by decide, ab_in 45 (by decide +kernel) rfl⟩, List.forall_mem_cons.mpr ⟨⟨RX5, TX5, 7, rfl, by decide, ab_in 87 (by decide +kernel) rfl⟩, List.forall_mem_cons.mpr ⟨⟨RX5, TX5, 7, rfl, by decide, ab_in 101 (by decide +kernel) rfl⟩, List.forall_mem_nil _⟩⟩⟩⟩⟩⟩⟩⟩⟩⟩⟩⟩⟩⟩⟩⟩⟩⟩⟩⟩⟩⟩)
def zf_X11 : List (Nat × Nat × Nat) := [(10, 11, 0), (19, 11, 1), (26, 11, 2), (35, 11, 3), (44, 11, 4), (53, 11, 5), (62, 11, 6), (69, 11, 7), (76, 11, 8), (83, 11, 9), (90, 11, 10), (113, 8, 2), (121, 2, 4), (134, 2, 0), (138, 2, 1), (141, 2, 2), (150, 2, 5), (153, 2, 6), (156, 5, 6), (159, 9, 2), (160, 9, 3), (173, 5, 5), (180, 5, 3), (183, 5, 0), (186, 5, 1), (189, 5, 2), (192, 5, 4), (227, 6, 3), (239, 0, 0), (246, 10, 11), (249, 10, 12), (252, 0, 1), (256, 2, 3), (261, 10, 8), (264, 10, 9), (272, 10, 10), (275, 10, 7), (279, 7, 0), (282, 7, 1), (287, 2, 7), (298, 3, 5), (301, 3, 6), (304, 3, 7), (307, 4, 0), (312, 4, 1), (319, 4, 2), (321, 4, 3), (322, 4, 4), (333, 7, 2), (342, 6, 4)]
theorem zf_X11_ok : ab_Fld RX11 vwCl zf_X11 := zl_fldL (List.forall_mem_cons.mpr ⟨⟨RX11, TX11, 11, rfl, by decide, ab_in 497 (by decide +kernel) rfl⟩, List.forall_mem_cons.mpr ⟨⟨RX11, TX11, 11, rfl, by decide, ab_in 498 (by decide +kernel) rfl⟩, List.forall_mem_cons.mpr ⟨⟨RX11, TX11, 11, rfl, by decide, ab_in 499 (by decide +kernel) rfl⟩, List.forall_mem_cons.mpr ⟨⟨RX11, TX11, 11, rfl, by decide, ab_in 500 (by decide +kernel) rfl⟩, List.forall_mem_cons.mpr ⟨⟨RX11, TX11, 11, rfl, by decide, ab_in 501 (by decide +kernel) rfl⟩, List.forall_mem_cons.mpr ⟨⟨RX11, TX11, 11, rfl, by decide, ab_in 502 (by decide +kernel) rfl⟩, List.forall_mem_cons.mpr ⟨⟨RX11, TX11, 11, rfl, by decide, ab_in 503 (by decide +kernel) rfl⟩, List.forall_mem_cons.mpr ⟨⟨RX11, TX11, 11, rfl, by decide, ab_in 504 (by decide +kernel) rfl⟩, List.forall_mem_cons.mpr ⟨⟨RX11, TX11, 11, rfl, by decide, ab_in 505 (by decide +kernel) rfl⟩, List.forall_mem_cons.mpr ⟨⟨RX11, TX11, 11, rfl, by decide, ab_in 506 (by decide +kernel) rfl⟩, List.forall_mem_cons.mpr ⟨⟨RX11, TX11, 11, rfl, by decide, ab_in 507 (by decide +kernel) rfl⟩, List.forall_mem_cons.mpr ⟨⟨RX8, TX8, 8, rfl, by decide, ab_in 157 (by decide +kernel) rfl⟩, List.forall_mem_cons.mpr ⟨⟨RX2, TX2, 8, rfl, by decide, ab_in 48 (by decide +kernel) rfl⟩, List.forall_mem_cons.mpr ⟨⟨RX2, TX2, 8, rfl, by decide, ab_in 36 (by decide +kernel) rfl⟩, List.forall_mem_cons.mpr ⟨⟨RX2, TX2, 8, rfl, by decide, ab_in 39 (by decide +kernel) rfl⟩, List.forall_mem_cons.mpr ⟨⟨RX2, TX2, 8, rfl, by decide, ab_in 43 (by decide +kernel) rfl⟩, List.forall_mem_cons.mpr ⟨⟨RX2, TX2, 8, rfl, by decide, ab_in 55 (by decide +kernel) rfl⟩, List.forall_mem_cons.mpr ⟨⟨RX2, TX2, 8, rfl, by decide, ab_in 59 (by decide +kernel) rfl⟩, List.forall_mem_cons.mpr ⟨⟨RX5, TX5, 7, rfl, by decide, ab_in 104 (by decide +kernel) rfl⟩, List.forall_mem_cons.mpr ⟨⟨RX9, TX9, 5, rfl, by decide, ab_in 133 (by decide +kernel) rfl⟩, List.forall_mem_cons.mpr ⟨⟨RX9, TX9, 5, rfl, by decide, ab_in 135 (by decide +kernel) rfl⟩, List.forall_mem_cons.mpr ⟨⟨RX5, TX5, 7, rfl, by decide, ab_in 102 (by decide +kernel) rfl⟩, List.forall_mem_cons.mpr ⟨⟨RX5, TX5, 7, rfl, by decide, ab_in 97 (by decide +kernel) rfl⟩, List.forall_mem_cons.mpr ⟨⟨RX5, TX5, 7, rfl, by decide, ab_in 88 (by decide +kernel) rfl⟩, List.forall_mem_cons.mpr ⟨⟨RX5, TX5, 7, rfl, by decide, ab_in 91 (by decide +kernel) rfl⟩, List.forall_mem_cons.mpr ⟨⟨RX5, TX5, 7, rfl, by decide, ab_in 94 (by decide +kernel) rfl⟩, List.forall_mem_cons.mpr ⟨⟨RX5, TX5, 7, rfl, by decide, ab_in 99 (by decide +kernel) rfl⟩, List.forall_mem_cons.mpr ⟨⟨RX6, TX6, 6, rfl, by decide, ab_in 265 (by decide +kernel) rfl⟩, List.forall_mem_cons.mpr ⟨⟨RX0, TX0, 2, rfl, by decide, ab_in 372 (by decide +kernel) rfl⟩, List.forall_mem_cons.mpr ⟨⟨RX10, TX10, 13, rfl, by decide, ab_in 224 (by decide +kernel) rfl⟩, List.forall_mem_cons.mpr ⟨⟨RX10, TX10, 13, rfl, by decide, ab_in 226 (by decide +kernel) rfl⟩, List.forall_mem_cons.mpr ⟨⟨RX0, TX0, 2, rfl, by decide, ab_in 374 (by decide +kernel) rfl⟩, List.forall_mem_cons.mpr ⟨⟨RX2, TX2, 8, rfl, by decide, ab_in 46 (by decide +kernel) rfl⟩, List.forall_mem_cons.mpr ⟨⟨RX10, TX10, 13, rfl, by decide, ab_in 218 (by decide +kernel) rfl⟩, List.forall_mem_cons.mpr ⟨⟨RX10, TX10, 13, rfl, by decide, ab_in 220 (by decide +kernel) rfl⟩, List.forall_mem_cons.mpr ⟨⟨RX10, TX10, 13, rfl, by decide, ab_in 222 (by decide +kernel) rfl⟩, List.forall_mem_cons.mpr ⟨⟨RX10, TX10, 13, rfl, by decide, ab_in 216 (by decide +kernel) rfl⟩, List.forall_mem_cons.mpr ⟨⟨RX7, TX7, 3, rfl, by decide, ab_in 324 (by decide +kernel) rfl⟩, List.forall_mem_cons.mpr ⟨⟨RX7, TX7, 3, rfl, by decide, ab_in 326 (by decide +kernel) rfl⟩, List.forall_mem_cons.mpr ⟨⟨RX2, TX2, 8, rfl, by decide, ab_in 61 (by decide +kernel) rfl⟩, List.forall_mem_cons.mpr ⟨⟨RX3, TX3, 8, rfl, by decide, ab_in 295 (by decide +kernel) rfl⟩, List.forall_mem_cons.mpr ⟨⟨RX3, TX3, 8, rfl, by decide, ab_in 297 (by decide +kernel) rfl⟩, List.forall_mem_cons.mpr ⟨⟨RX3, TX3, 8, rfl, by decide, ab_in 299 (by decide +kernel) rfl⟩, List.forall_mem_cons.mpr ⟨⟨RX4, TX4, 5, rfl, by decide, ab_in 345 (by decide +kernel) rfl⟩, List.forall_mem_cons.mpr ⟨⟨RX4, TX4, 5, rfl, by decide, ab_in 347 (by decide +kernel) rfl⟩, List.forall_mem_cons.mpr ⟨⟨RX4, TX4, 5, rfl, by decide, ab_in 349 (by decide +kernel) rfl⟩, List.forall_mem_cons.mpr ⟨⟨RX4, TX4, 5, rfl, by decide, ab_in 351 (by decide +kernel) rfl⟩, List.forall_mem_cons.mpr ⟨⟨RX4, TX4, 5, rfl, by decide, ab_in 353 (by decide +kernel) rfl⟩, List.forall_mem_cons.mpr ⟨⟨RX7, TX7, 3, rfl, by decide, ab_in 328 (by decide +kernel) rfl⟩, List.forall_mem_cons.mpr ⟨⟨RX6, TX6, 6, rfl, by decide, ab_in 267 (by decide +kernel) rfl⟩, List.forall_mem_nil _⟩⟩⟩⟩⟩⟩⟩⟩⟩⟩⟩⟩⟩⟩⟩⟩⟩⟩⟩⟩⟩⟩⟩⟩⟩⟩⟩⟩⟩⟩⟩⟩⟩⟩⟩⟩⟩⟩⟩⟩⟩⟩⟩⟩⟩⟩⟩⟩⟩⟩)
def zc_X11 : List (Nat × Value) := [(218, .long (-4611686018427387904)), (259, .long 1000000000000000000), (290, .long 1000000000), (295, .int 99999)]
def zf_X12 : List (Nat × Nat × Nat) := [(7, 12, 0), (13, 12, 1), (16, 12, 3), (19, 12, 4), (22, 12, 5), (25, 12, 6), (29, 12, 8), (32, 12, 9), (35, 12, 10), (38, 12, 11), (41, 12, 13), (44, 12, 14), (47, 12, 15), (50, 12, 16), (53, 12, 17), (56, 12, 18), (59, 12, 19), (62, 12, 21), (65, 12, 22), (68, 12, 23), (71, 12, 25), (74, 12, 27), (77, 12, 30), (80, 12, 41), (83, 12, 42), (86, 12, 43), (89, 12, 44), (92, 12, 45), (95, 12, 46), (98, 12, 47), (101, 12, 48), (104, 12, 49), (131, 12, 54), (135, 12, 55), (138, 12, 59), (141, 12, 60), (144, 12, 61), (147, 12, 62), (150, 12, 63), (153, 12, 64), (157, 12, 65), (160, 12, 69), (172, 12, 7), (179, 12, 12), (190, 12, 2), (193, 12, 24), (196, 12, 20), (201, 12, 50), (204, 12, 51), (207, 12, 52), (210, 12, 53), (217, 12, 58), (220, 12, 56), (226, 12, 57), (289, 12, 26), (292, 12, 28), (295, 12, 29), (319, 12, 67), (323, 12, 66), (358, 12, 68), (368, 12, 70), (371, 12, 71), (381, 12, 31), (385, 12, 32), (388, 12, 33), (391, 12, 34), (394, 12, 35), (397, 12, 36), (400, 12, 37), (403, 12, 38), (406, 12, 39), (409, 12, 40)]
theorem zf_X12_ok : ab_Fld RX12 vwCl zf_X12 := zl_fldL (List.forall_mem_cons.mpr ⟨⟨RX12, TX12, 72, rfl, by decide, ab_in 977 (by decide +kernel) rfl⟩, List.forall_mem_cons.mpr ⟨⟨RX12, TX12, 72, rfl, by decide, ab_in 978 (by decide +kernel) rfl⟩, List.forall_mem_cons.mpr ⟨⟨RX12, TX12, 72, rfl, by decide, ab_in 980 (by decide +kernel) rfl⟩, List.forall_mem_cons.mpr ⟨⟨RX12, TX12, 72, rfl, by decide, ab_in 981 (by decide +kernel) rfl⟩, List.forall_mem_cons.mpr ⟨⟨RX12, TX12, 72, rfl, by decide, ab_in 982 (by decide +kernel) rfl⟩, List.forall_mem_cons.mpr ⟨⟨RX12, TX12, 72, rfl, by decide, ab_in 983 (by decide +kernel) rfl⟩, List.forall_mem_cons.mpr ⟨⟨RX12, TX12, 72, rfl, by decide, ab_in 985 (by decide +kernel) rfl⟩, List.forall_mem_cons.mpr ⟨⟨RX12, TX12, 72, rfl, by decide, ab_in 986 (by decide +kernel) rfl⟩, List.forall_mem_cons.mpr ⟨⟨RX12, TX12, 72, rfl, by decide, ab_in 987 (by decide +kernel) rfl⟩, List.forall_mem_cons.mpr ⟨⟨RX12, TX12, 72, rfl, by decide, ab_in 988 (by decide +kernel) rfl⟩, List.forall_mem_cons.mpr ⟨⟨RX12, TX12, 72, rfl, by decide, ab_in 990 (by decide +kernel) rfl⟩, List.forall_mem_cons.mpr ⟨⟨RX12, TX12, 72, rfl, by decide, ab_in 991 (by decide +kernel) rfl⟩, List.forall_mem_cons.mpr ⟨⟨RX12, TX12, 72, rfl, by decide, ab_in 992 (by decide +kernel) rfl⟩, List.forall_mem_cons.mpr ⟨⟨RX12, TX12, 72, rfl, by decide, ab_in 993 (by decide +kernel) rfl⟩, List.forall_mem_cons.mpr ⟨⟨RX12, TX12, 72, rfl, by decide, ab_in 994 (by decide +kernel) rfl⟩, List.forall_mem_cons.mpr ⟨⟨RX12, TX12, 72, rfl, by decide, ab_in 995 (by decide +kernel) rfl⟩, List.forall_mem_cons.mpr ⟨⟨RX12, TX12, 72, rfl, by decide, ab_in 996 (by decide +kernel) rfl⟩, List.forall_mem_cons.mpr ⟨⟨RX12, TX12, 72, rfl, by decide, ab_in 998 (by decide +kernel) rfl⟩, List.forall_mem_cons.mpr ⟨⟨RX12, TX12, 72, rfl, by decide, ab_in 999 (by decide +kernel) rfl⟩, List.forall_mem_cons.mpr ⟨⟨RX12, TX12, 72, rfl, by decide, ab_in 1000 (by decide +kernel) rfl⟩, List.forall_mem_cons.mpr ⟨⟨RX12, TX12, 72, rfl, by decide, ab_in 1002 (by decide +kernel) rfl⟩, List.forall_mem_cons.mpr ⟨⟨RX12, TX12, 72, rfl, by decide, ab_in 1004 (by decide +kernel) rfl⟩, List.forall_mem_cons.mpr ⟨⟨RX12, TX12, 72, rfl, by decide, ab_in 1007 (by decide +kernel) rfl⟩, List.forall_mem_cons.mpr ⟨⟨RX12, TX12, 72, rfl, by decide, ab_in 1018 (by decide +kernel) rfl⟩, List.forall_mem_cons.mpr ⟨⟨RX12, TX12, 72, rfl, by decide, ab_in 1019 (by decide +kernel) rfl⟩, List.forall_mem_cons.mpr ⟨⟨RX12, TX12, 72, rfl, by decide, ab_in 1020 (by decide +kernel) rfl⟩, List.forall_mem_cons.mpr ⟨⟨RX12, TX12, 72, rfl, by decide, ab_in 1021 (by decide +kernel) rfl⟩, List.forall_mem_cons.mpr ⟨⟨RX12, TX12, 72, rfl, by decide, ab_in 1022 (by decide +kernel) rfl⟩, List.forall_mem_cons.mpr ⟨⟨RX12, TX12, 72, rfl, by decide, ab_in 1023 (by decide +kernel) rfl⟩, List.forall_mem_cons.mpr ⟨⟨RX12, TX12, 72, rfl, by decide, ab_in 1024 (by decide +kernel) rfl⟩, List.forall_mem_cons.mpr ⟨⟨RX12, TX12, 72, rfl, by decide, ab_in 1025 (by decide +kernel) rfl⟩, List.forall_mem_cons.mpr ⟨⟨RX12, TX12, 72, rfl, by decide, ab_in 1026 (by decide +kernel) rfl⟩, List.forall_mem_cons.mpr ⟨⟨RX12, TX12, 72, rfl, by decide, ab_in 1031 (by decide +kernel) rfl⟩, List.forall_mem_cons.mpr ⟨⟨RX12, TX12, 72, rfl, by decide, ab_in 1032 (by decide +kernel) rfl⟩, List.forall_mem_cons.mpr ⟨⟨RX12, TX12, 72, rfl, by decide, ab_in 1036 (by decide +kernel) rfl⟩, List.forall_mem_cons.mpr ⟨⟨RX12, TX12, 72, rfl, by decide, ab_in 1037 (by decide +kernel) rfl⟩, List.forall_mem_cons.mpr ⟨⟨RX12, TX12, 72, rfl, by decide, ab_in 1038 (by decide +kernel) rfl⟩, List.forall_mem_cons.mpr ⟨⟨RX12, TX12, 72, rfl, by decide, ab_in 1039 (by decide +kernel) rfl⟩, List.forall_mem_cons.mpr ⟨⟨RX12, TX12, 72, rfl, by decide, ab_in 1040 (by decide +kernel) rfl⟩, List.forall_mem_cons.mpr ⟨⟨RX12, TX12, 72, rfl, by decide, ab_in 1041 (by decide +kernel) rfl⟩, List.forall_mem_cons.mpr ⟨⟨RX12, TX12, 72, rfl, by decide, ab_in 1042 (by decide +kernel) rfl⟩, List.forall_mem_cons.mpr ⟨⟨RX12, TX12, 72, rfl, by decide, ab_in 1046 (by decide +kernel) rfl⟩, List.forall_mem_cons.mpr ⟨⟨RX12, TX12, 72, rfl, by decide, ab_in 984 (by decide +kernel) rfl⟩, List.forall_mem_cons.mpr ⟨⟨RX12, TX12, 72, rfl, by decide, ab_in 989 (by decide +kernel) rfl⟩, List.forall_mem_cons.mpr ⟨⟨RX12, TX12, 72, rfl, by decide, ab_in 979 (by decide +kernel) rfl⟩, List.forall_mem_cons.mpr ⟨⟨RX12, TX12, 72, rfl, by decide, ab_in 1001 (by decide +kernel) rfl⟩, List.forall_mem_cons.mpr ⟨⟨RX12, TX12, 72, rfl, by decide, ab_in 997 (by decide +kernel) rfl⟩, List.forall_mem_cons.mpr ⟨⟨RX12, TX12, 72, rfl, by decide, ab_in 1027 (by decide +kernel) rfl⟩, List.forall_mem_cons.mpr ⟨⟨RX12, TX12, 72, rfl, by decide, ab_in 1028 (by decide +kernel) rfl⟩, List.forall_mem_cons.mpr ⟨⟨RX12, TX12, 72, rfl, by decide, ab_in 1029 (by decide +kernel) rfl⟩, List.forall_mem_cons.mpr ⟨⟨RX12, TX12, 72, rfl, by decide, ab_in 1030 (by decide +kernel) rfl⟩, List.forall_mem_cons.mpr ⟨⟨RX12, TX12, 72, rfl, by decide, ab_in 1035 (by decide +kernel) rfl⟩, List.forall_mem_cons.mpr ⟨⟨RX12, TX12, 72, rfl, by decide, ab_in 1033 (by decide +kernel) rfl⟩, List.forall_mem_cons.mpr ⟨⟨RX12, TX12, 72, rfl, by decide, ab_in 1034 (by decide +kernel) rfl⟩, List.forall_mem_cons.mpr ⟨⟨RX12, TX12, 72, rfl, by decide, ab_in 1003 (by decide +kernel) rfl⟩, List.forall_mem_cons.mpr ⟨⟨RX12, TX12, 72, rfl, by decide, ab_in 1005 (by decide +kernel) rfl⟩, List.forall_mem_cons.mpr ⟨⟨RX12, TX12, 72, rfl, by decide, ab_in 1006 (by decide +kernel) rfl⟩, List.forall_mem_cons.mpr ⟨⟨RX12, TX12, 72, rfl, by decide, ab_in 1044 (by decide +kernel) rfl⟩, List.forall_mem_cons.mpr ⟨⟨RX12, TX12, 72, rfl, by decide, ab_in 1043 (by decide +kernel) rfl⟩, List.forall_mem_cons.mpr ⟨⟨RX12, TX12, 72, rfl, by decide, ab_in 1045 (by decide +kernel) rfl⟩, List.forall_mem_cons.mpr ⟨⟨RX12, TX12, 72, rfl, by decide, ab_in 1047 (by decide +kernel) rfl⟩, List.forall_mem_cons.mpr ⟨⟨RX12, TX12, 72, rfl, by decide, ab_in 1048 (by decide +kernel) rfl⟩, List.forall_mem_cons.mpr ⟨⟨RX12, TX12, 72, rfl, by decide, ab_in 1008 (by decide +kernel) rfl⟩, List.forall_mem_cons.mpr ⟨⟨RX12, TX12, 72, rfl, by decide, ab_in 1009 (by decide +kernel) rfl⟩, List.forall_mem_cons.mpr ⟨⟨RX12, TX12, 72, rfl, by decide, ab_in 1010 (by decide +kernel) rfl⟩, List.forall_mem_cons.mpr ⟨⟨RX12, TX12, 72, rfl, by decide, ab_in 1011 (by decide +kernel) rfl⟩, List.forall_mem_cons.mpr ⟨⟨RX12, TX12, 72, rfl, by decide, ab_in 1012 (by decide +kernel) rfl⟩, List.forall_mem_cons.mpr ⟨⟨RX12, TX12, 72, rfl, by decide, ab_in 1013 (by decide +kernel) rfl⟩, List.forall_mem_cons.mpr ⟨⟨RX12, TX12, 72, rfl, by decide, ab_in 1014 (by decide +kernel) rfl⟩, List.forall_mem_cons.mpr ⟨⟨RX12, TX12, 72, rfl, by decide, ab_in 1015 (by decide +kernel) rfl⟩, List.forall_mem_cons.mpr ⟨⟨RX12, TX12, 72, rfl, by decide, ab_in 1016 (by decide +kernel) rfl⟩, List.forall_mem_cons.mpr ⟨⟨RX12, TX12, 72, rfl, by decide, ab_in 1017 (by decide +kernel) rfl⟩, List.forall_mem_nil _⟩⟩⟩⟩⟩⟩⟩⟩⟩⟩⟩⟩⟩⟩⟩⟩⟩⟩⟩⟩⟩⟩⟩⟩⟩⟩⟩⟩⟩⟩⟩⟩⟩⟩⟩⟩⟩⟩⟩⟩⟩⟩⟩⟩⟩⟩⟩⟩⟩⟩⟩⟩⟩⟩⟩⟩⟩⟩⟩⟩⟩⟩⟩⟩⟩⟩⟩⟩⟩⟩⟩⟩)
def zc_X12 : List (Nat × Value) := [(107, .long 1919513451), (109, .long 1936024942), (111, .long 1751216749), (113, .long 512736126322), (115, .long 7302244), (117, .long 2003398244), (119, .long 1937007984), (121, .long 512970880104), (123, .long 1885430629), (125, .long 28530), (127, .long 6385252), (129, .long 7237492), (163, .int 100004), (168, .int 100020), (169, .int 100030), (170, .int 100015), (171, .int 100010), (199, .long 255), (242, .int 100000), (317, .long 100), (326, .long 1000000000), (328, .long 1000), (341, .long (-4611686018427387904)), (361, .long 48271), (363, .long 2147483647), (377, .int 99999)]
/-- transformers: a value that depends on the arguments and the memory alone; a start and an end -/
def ab_pure (f : List Value → ab_M → ab_N → Option Value) : ab_T := fun as M N k => match f as M N with
  | some v => k (some v) M N
  | none => False
def ab_pp (g : List Value → ab_M → ab_N → Option (Prop × Value)) : ab_T := fun as M N k => match g as M N with
  | some q => q.1 ∧ k (some q.2) M N
  | none => False
theorem ab_pp_mono (g : List Value → ab_M → ab_N → Option (Prop × Value)) : ab_mono (ab_pp g) := fun as M N k k2 hk h => by
  unfold ab_pp at h ⊢
  split at h
  · exact ⟨h.1, hk _ _ _ h.2⟩
  · exact h
def ab_spec (pre : List Value → ab_M → ab_N → Prop) (post : List Value → ab_M → ab_N → Option Value → ab_M → ab_N → Prop) : ab_T := fun as M N k => pre as M N ∧ ∀ (r : Option Value) (M2 : ab_M) (N2 : ab_N), post as M N r M2 N2 → k r M2 N2
theorem ab_pure_mono (f : List Value → ab_M → ab_N → Option Value) : ab_mono (ab_pure f) := fun as M N k k2 hk h => by
  unfold ab_pure at h ⊢
  split at h
  · exact hk _ _ _ h
  · exact h
theorem ab_spec_mono (pre : List Value → ab_M → ab_N → Prop) (post : List Value → ab_M → ab_N → Option Value → ab_M → ab_N → Prop) : ab_mono (ab_spec pre post) := fun as M N k k2 hk h => ⟨h.1, fun r M2 N2 hp => hk r M2 N2 (h.2 r M2 N2 hp)⟩
theorem ab_MGof {G : ab_G} (h1 : ∀ q ∈ G.2.2.2.2.2.1, ab_mono q.2.2) (h2 : ∀ q ∈ G.2.2.2.2.2.2, ab_mono q.2.2) : ab_MG G := ⟨fun i n T h => h1 _ (ab_a_in _ _ _ h), fun i n T h => h2 _ (ab_a_in _ _ _ h)⟩
def ab_b (c : Prop) [Decidable c] : Int32 := if c then 1 else 0
theorem ab_b_0 {c : Prop} [Decidable c] : ab_b c = 0 ↔ ¬ c := by unfold ab_b; split <;> simp_all
theorem ab_b_1 {c : Prop} [Decidable c] : ab_b c = 1 ↔ c := by unfold ab_b; split <;> simp_all
theorem ab_b_n {c : Prop} [Decidable c] : narrow .boolean (.int (ab_b c)) = .int (ab_b c) := by unfold ab_b; split <;> rfl
theorem ab_n0 : narrow .boolean (.int 0) = .int 0 := rfl
theorem ab_n1 : narrow .boolean (.int 1) = .int 1 := rfl
/-- the JDK's own -/
def zt_max : ab_T := ab_pure (fun as _ _ => match as with
  | [.int x, .int y] => some (.int (if x < y then y else x))
  | _ => none)
def zt_min : ab_T := ab_pure (fun as _ _ => match as with
  | [.int x, .int y] => some (.int (if y < x then y else x))
  | _ => none)
def zt_abs : ab_T := ab_pure (fun as _ _ => match as with
  | [.int x] => some (.int (if 0 ≤ x then x else 0 - x))
  | _ => none)
theorem ab_callMax {l : Launch} {own : String} {rm : Room} {Λ : List ab_L} {cl : List vw_C} {Z : ab_Zt} {i : Nat} (h1 : Cond.methodLink own i Lib.Math.max.name ∈ ab_B) (h2 : Cond.static Lib.Math.max.name ∈ ab_B) (h3 : Cond.initialized "java/lang/Math" ∈ ab_B) (h4 : Cond.code Lib.Math.max.name Lib.Math.max.code 2 (some .int) ∈ ab_B) (hf : 1 ≤ rm.frames) (hlo : 21 ≤ rm.locals) : ab_Call l own rm Λ cl Z .invokestatic i 2 zt_max := by
  intro p e s m args below meth c cc nL ret D cy ad Qm hE hZs pc H locs lsC as rest M N k hdec hlen hcat hsz hP hS hT kk
  obtain ⟨⟨hx, hb, hml, hown, hts⟩, -⟩ := hE
  match as, hlen, hT with
  | [.int x, .int y], _, hT => exact va_mmax (rest := rest) hx hb (hml.trans hsz.symm) hown (hts _ h1) (hts _ h2) (hts _ h3) (hts _ h4) hf (by omega) (Nat.zero_le _) (Nat.zero_le _) hdec (kk _ M N H locs hT hP hS)
theorem ab_callMin {l : Launch} {own : String} {rm : Room} {Λ : List ab_L} {cl : List vw_C} {Z : ab_Zt} {i : Nat} (h1 : Cond.methodLink own i Lib.Math.min.name ∈ ab_B) (h2 : Cond.static Lib.Math.min.name ∈ ab_B) (h3 : Cond.initialized "java/lang/Math" ∈ ab_B) (h4 : Cond.code Lib.Math.min.name Lib.Math.min.code 2 (some .int) ∈ ab_B) (hf : 1 ≤ rm.frames) (hlo : 21 ≤ rm.locals) : ab_Call l own rm Λ cl Z .invokestatic i 2 zt_min := by
  intro p e s m args below meth c cc nL ret D cy ad Qm hE hZs pc H locs lsC as rest M N k hdec hlen hcat hsz hP hS hT kk
  obtain ⟨⟨hx, hb, hml, hown, hts⟩, -⟩ := hE
  match as, hlen, hT with
  | [.int x, .int y], _, hT => exact va_mmin (rest := rest) hx hb (hml.trans hsz.symm) hown (hts _ h1) (hts _ h2) (hts _ h3) (hts _ h4) hf (by omega) (Nat.zero_le _) (Nat.zero_le _) hdec (kk _ M N H locs hT hP hS)
theorem ab_callAbs {l : Launch} {own : String} {rm : Room} {Λ : List ab_L} {cl : List vw_C} {Z : ab_Zt} {i : Nat} (h1 : Cond.methodLink own i Lib.Math.abs.name ∈ ab_B) (h2 : Cond.static Lib.Math.abs.name ∈ ab_B) (h3 : Cond.initialized "java/lang/Math" ∈ ab_B) (h4 : Cond.code Lib.Math.abs.name Lib.Math.abs.code 1 (some .int) ∈ ab_B) (hf : 1 ≤ rm.frames) (hlo : 21 ≤ rm.locals) : ab_Call l own rm Λ cl Z .invokestatic i 1 zt_abs := by
  intro p e s m args below meth c cc nL ret D cy ad Qm hE hZs pc H locs lsC as rest M N k hdec hlen hcat hsz hP hS hT kk
  obtain ⟨⟨hx, hb, hml, hown, hts⟩, -⟩ := hE
  match as, hlen, hT with
  | [.int x], _, hT => exact va_mabs (rest := rest) hx hb (hml.trans hsz.symm) hown (hts _ h1) (hts _ h2) (hts _ h3) (hts _ h4) hf (by omega) (Nat.zero_le _) (Nat.zero_le _) hdec (kk _ M N H locs hT hP hS)
/-- System.arraycopy between int arrays of the world -/
def zt_acopy (Λ : List ab_L) : ab_T := fun as M N k => match as with
  | [.ref a, .int sp, .ref b, .int dp, .int n] => match Λ[a]?, Λ[b]? with
    | some (.inr (.int, n0)), some (.inr (.int, n1)) => (¬ sp < 0 ∧ ¬ dp < 0 ∧ ¬ n < 0 ∧ sp.toNatClampNeg + n.toNatClampNeg ≤ n0 ∧ dp.toNatClampNeg + n.toNatClampNeg ≤ n1) ∧ k none (ab_u M b (va_cpy (M a) (M b) sp.toNatClampNeg dp.toNatClampNeg n.toNatClampNeg)) N
    | _, _ => False
  | _ => False
theorem zt_acopy_mono (Λ : List ab_L) : ab_mono (zt_acopy Λ) := fun as M N k k2 hk h => by
  unfold zt_acopy at h ⊢
  split at h
  · split at h
    · exact ⟨h.1, hk _ _ _ h.2⟩
    · exact h
  · exact h
theorem ab_callCopy {l : Launch} {own : String} {rm : Room} {Λ : List ab_L} {cl : List vw_C} {Z : ab_Zt} {i : Nat} (h1 : Cond.methodLink own i arraycopyName ∈ ab_B) (h2 : Cond.native arraycopyName ∈ ab_B) (h3 : Cond.static arraycopyName ∈ ab_B) (h4 : Cond.initialized "java/lang/System" ∈ ab_B) (hf : 1 ≤ rm.frames) (hlo : 26 ≤ rm.locals) : ab_Call l own rm Λ cl Z .invokestatic i 5 (zt_acopy Λ) := by
  intro p e s m args below meth c cc nL ret D cy ad Qm hE hZs pc H locs lsC as rest M N k hdec hlen hcat hsz hP hS hT kk
  obtain ⟨⟨hx, hb, hml, hown, hts⟩, hr, hlocks, hK, hinj, hAad, hA⟩ := hE
  have hD := ab_w_D (cy := cy) hinj hAad M N
  match as, hlen, hT with
  | [.ref a, .int sp, .ref b, .int dp, .int n], _, hT =>
    unfold zt_acopy at hT
    dsimp only at hT
    split at hT
    · rename_i n0 n1 ha hb2
      obtain ⟨⟨g1, g2, g3, g4, g5⟩, hk⟩ := hT
      refine va_copyi (rest := rest) hx hb (hml.trans hsz.symm) hown (hts _ h1) (hts _ h2) (hts _ h3) (hts _ h4) hK hP hD hS a b 0 0 (ab_w_at ha) (ab_w_at hb2) rfl rfl rfl g1 g2 g3 g4 g5 (fun _ _ => rfl) hf (by show _ + ((5 + 2) + 11) ≤ _; omega) hdec (fun H1 locs1 hP1 hD1 hS1 => ?_)
      rw [ab_w_I hb2 (by decide)] at hP1
      exact kk none _ N H1 locs1 hk hP1 hS1
    · exact hT.elim
def ab_m0 (r : Nat) (pre : ab_M → ab_N → Prop) (post : ab_M → ab_N → Option Value → ab_M → ab_N → Prop) : ab_T := fun as M N k => match as with
  | [.ref q] => (match Nat.beq q r with
    | true => pre M N ∧ ∀ (o : Option Value) (M2 : ab_M) (N2 : ab_N), post M N o M2 N2 → k o M2 N2
    | false => False)
  | _ => False
theorem ab_m0_e {r : Nat} {pre : ab_M → ab_N → Prop} {post : ab_M → ab_N → Option Value → ab_M → ab_N → Prop} {as : List Value} {M : ab_M} {N : ab_N} {k : ab_R} (h : ab_m0 r pre post as M N k) : as = [.ref r] ∧ pre M N ∧ ∀ (o : Option Value) (M2 : ab_M) (N2 : ab_N), post M N o M2 N2 → k o M2 N2 := by
  unfold ab_m0 at h
  split at h
  · split at h
    · rename_i hb
      rw [Nat.eq_of_beq_eq_true hb]
      exact ⟨rfl, h⟩
    · exact h.elim
  · exact h.elim
theorem ab_m0_mono (r : Nat) (pre : ab_M → ab_N → Prop) (post : ab_M → ab_N → Option Value → ab_M → ab_N → Prop) : ab_mono (ab_m0 r pre post) := fun as M N k k2 hk h => by
  unfold ab_m0 at h ⊢
  split at h
  · split at h
    · exact ⟨h.1, fun o M2 N2 hp => hk o M2 N2 (h.2 o M2 N2 hp)⟩
    · exact h
  · exact h
theorem ab_m0_v {Λ : List ab_L} {cl : List vw_C} {C : String} {r ci : Nat} {fs : List (Nat ⊕ FieldType)} {T0 : u_T} {N0 : Nat} {pre : ab_M → ab_N → Prop} {post : ab_M → ab_N → Option Value → ab_M → ab_N → Prop} (h1 : Λ[r]? = some (.inl (ci, fs))) (h2 : cl[ci]? = some (C, T0, N0)) : ab_recv Λ cl C (ab_m0 r pre post) := fun as M N k h => by
  obtain ⟨rfl, -⟩ := ab_m0_e h
  exact ⟨r, _, ci, fs, T0, N0, rfl, h1, h2⟩
def ab_m1 (r : Nat) (pre : Int32 → ab_M → ab_N → Prop) (post : Int32 → ab_M → ab_N → Option Value → ab_M → ab_N → Prop) : ab_T := fun as M N k => match as with
  | [.ref q, .int a] => (match Nat.beq q r with
    | true => pre a M N ∧ ∀ (o : Option Value) (M2 : ab_M) (N2 : ab_N), post a M N o M2 N2 → k o M2 N2
    | false => False)
  | _ => False
theorem ab_m1_e {r : Nat} {pre : Int32 → ab_M → ab_N → Prop} {post : Int32 → ab_M → ab_N → Option Value → ab_M → ab_N → Prop} {as : List Value} {M : ab_M} {N : ab_N} {k : ab_R} (h : ab_m1 r pre post as M N k) : ∃ (a : Int32), as = [.ref r, .int a] ∧ pre a M N ∧ ∀ (o : Option Value) (M2 : ab_M) (N2 : ab_N), post a M N o M2 N2 → k o M2 N2 := by
  unfold ab_m1 at h
  split at h
  · split at h
    · rename_i hb
      rw [Nat.eq_of_beq_eq_true hb]
      exact ⟨_, rfl, h⟩
    · exact h.elim
  · exact h.elim
theorem ab_m1_mono (r : Nat) (pre : Int32 → ab_M → ab_N → Prop) (post : Int32 → ab_M → ab_N → Option Value → ab_M → ab_N → Prop) : ab_mono (ab_m1 r pre post) := fun as M N k k2 hk h => by
  unfold ab_m1 at h ⊢
  split at h
  · split at h
    · exact ⟨h.1, fun o M2 N2 hp => hk o M2 N2 (h.2 o M2 N2 hp)⟩
    · exact h
  · exact h
theorem ab_m1_v {Λ : List ab_L} {cl : List vw_C} {C : String} {r ci : Nat} {fs : List (Nat ⊕ FieldType)} {T0 : u_T} {N0 : Nat} {pre : Int32 → ab_M → ab_N → Prop} {post : Int32 → ab_M → ab_N → Option Value → ab_M → ab_N → Prop} (h1 : Λ[r]? = some (.inl (ci, fs))) (h2 : cl[ci]? = some (C, T0, N0)) : ab_recv Λ cl C (ab_m1 r pre post) := fun as M N k h => by
  obtain ⟨_, rfl, -⟩ := ab_m1_e h
  exact ⟨r, _, ci, fs, T0, N0, rfl, h1, h2⟩
def ab_m2 (r : Nat) (pre : Int32 → Int32 → ab_M → ab_N → Prop) (post : Int32 → Int32 → ab_M → ab_N → Option Value → ab_M → ab_N → Prop) : ab_T := fun as M N k => match as with
  | [.ref q, .int a, .int b] => (match Nat.beq q r with
    | true => pre a b M N ∧ ∀ (o : Option Value) (M2 : ab_M) (N2 : ab_N), post a b M N o M2 N2 → k o M2 N2
    | false => False)
  | _ => False
theorem ab_m2_e {r : Nat} {pre : Int32 → Int32 → ab_M → ab_N → Prop} {post : Int32 → Int32 → ab_M → ab_N → Option Value → ab_M → ab_N → Prop} {as : List Value} {M : ab_M} {N : ab_N} {k : ab_R} (h : ab_m2 r pre post as M N k) : ∃ (a b : Int32), as = [.ref r, .int a, .int b] ∧ pre a b M N ∧ ∀ (o : Option Value) (M2 : ab_M) (N2 : ab_N), post a b M N o M2 N2 → k o M2 N2 := by
  unfold ab_m2 at h
  split at h
  · split at h
    · rename_i hb
      rw [Nat.eq_of_beq_eq_true hb]
      exact ⟨_, _, rfl, h⟩
    · exact h.elim
  · exact h.elim
theorem ab_m2_mono (r : Nat) (pre : Int32 → Int32 → ab_M → ab_N → Prop) (post : Int32 → Int32 → ab_M → ab_N → Option Value → ab_M → ab_N → Prop) : ab_mono (ab_m2 r pre post) := fun as M N k k2 hk h => by
  unfold ab_m2 at h ⊢
  split at h
  · split at h
    · exact ⟨h.1, fun o M2 N2 hp => hk o M2 N2 (h.2 o M2 N2 hp)⟩
    · exact h
  · exact h
theorem ab_m2_v {Λ : List ab_L} {cl : List vw_C} {C : String} {r ci : Nat} {fs : List (Nat ⊕ FieldType)} {T0 : u_T} {N0 : Nat} {pre : Int32 → Int32 → ab_M → ab_N → Prop} {post : Int32 → Int32 → ab_M → ab_N → Option Value → ab_M → ab_N → Prop} (h1 : Λ[r]? = some (.inl (ci, fs))) (h2 : cl[ci]? = some (C, T0, N0)) : ab_recv Λ cl C (ab_m2 r pre post) := fun as M N k h => by
  obtain ⟨_, _, rfl, -⟩ := ab_m2_e h
  exact ⟨r, _, ci, fs, T0, N0, rfl, h1, h2⟩
def ab_m3 (r : Nat) (pre : Int32 → Int32 → Int32 → ab_M → ab_N → Prop) (post : Int32 → Int32 → Int32 → ab_M → ab_N → Option Value → ab_M → ab_N → Prop) : ab_T := fun as M N k => match as with
  | [.ref q, .int a, .int b, .int c] => (match Nat.beq q r with
    | true => pre a b c M N ∧ ∀ (o : Option Value) (M2 : ab_M) (N2 : ab_N), post a b c M N o M2 N2 → k o M2 N2
    | false => False)
  | _ => False
theorem ab_m3_e {r : Nat} {pre : Int32 → Int32 → Int32 → ab_M → ab_N → Prop} {post : Int32 → Int32 → Int32 → ab_M → ab_N → Option Value → ab_M → ab_N → Prop} {as : List Value} {M : ab_M} {N : ab_N} {k : ab_R} (h : ab_m3 r pre post as M N k) : ∃ (a b c : Int32), as = [.ref r, .int a, .int b, .int c] ∧ pre a b c M N ∧ ∀ (o : Option Value) (M2 : ab_M) (N2 : ab_N), post a b c M N o M2 N2 → k o M2 N2 := by
  unfold ab_m3 at h
  split at h
  · split at h
    · rename_i hb
      rw [Nat.eq_of_beq_eq_true hb]
      exact ⟨_, _, _, rfl, h⟩
    · exact h.elim
  · exact h.elim
theorem ab_m3_mono (r : Nat) (pre : Int32 → Int32 → Int32 → ab_M → ab_N → Prop) (post : Int32 → Int32 → Int32 → ab_M → ab_N → Option Value → ab_M → ab_N → Prop) : ab_mono (ab_m3 r pre post) := fun as M N k k2 hk h => by
  unfold ab_m3 at h ⊢
  split at h
  · split at h
    · exact ⟨h.1, fun o M2 N2 hp => hk o M2 N2 (h.2 o M2 N2 hp)⟩
    · exact h
  · exact h
theorem ab_m3_v {Λ : List ab_L} {cl : List vw_C} {C : String} {r ci : Nat} {fs : List (Nat ⊕ FieldType)} {T0 : u_T} {N0 : Nat} {pre : Int32 → Int32 → Int32 → ab_M → ab_N → Prop} {post : Int32 → Int32 → Int32 → ab_M → ab_N → Option Value → ab_M → ab_N → Prop} (h1 : Λ[r]? = some (.inl (ci, fs))) (h2 : cl[ci]? = some (C, T0, N0)) : ab_recv Λ cl C (ab_m3 r pre post) := fun as M N k h => by
  obtain ⟨_, _, _, rfl, -⟩ := ab_m3_e h
  exact ⟨r, _, ci, fs, T0, N0, rfl, h1, h2⟩
def ab_m4 (r : Nat) (pre : Int32 → Int32 → Int32 → Int32 → ab_M → ab_N → Prop) (post : Int32 → Int32 → Int32 → Int32 → ab_M → ab_N → Option Value → ab_M → ab_N → Prop) : ab_T := fun as M N k => match as with
  | [.ref q, .int a, .int b, .int c, .int d] => (match Nat.beq q r with
    | true => pre a b c d M N ∧ ∀ (o : Option Value) (M2 : ab_M) (N2 : ab_N), post a b c d M N o M2 N2 → k o M2 N2
    | false => False)
  | _ => False
theorem ab_m4_e {r : Nat} {pre : Int32 → Int32 → Int32 → Int32 → ab_M → ab_N → Prop} {post : Int32 → Int32 → Int32 → Int32 → ab_M → ab_N → Option Value → ab_M → ab_N → Prop} {as : List Value} {M : ab_M} {N : ab_N} {k : ab_R} (h : ab_m4 r pre post as M N k) : ∃ (a b c d : Int32), as = [.ref r, .int a, .int b, .int c, .int d] ∧ pre a b c d M N ∧ ∀ (o : Option Value) (M2 : ab_M) (N2 : ab_N), post a b c d M N o M2 N2 → k o M2 N2 := by
  unfold ab_m4 at h
  split at h
  · split at h
    · rename_i hb
      rw [Nat.eq_of_beq_eq_true hb]
      exact ⟨_, _, _, _, rfl, h⟩
    · exact h.elim
  · exact h.elim
theorem ab_m4_mono (r : Nat) (pre : Int32 → Int32 → Int32 → Int32 → ab_M → ab_N → Prop) (post : Int32 → Int32 → Int32 → Int32 → ab_M → ab_N → Option Value → ab_M → ab_N → Prop) : ab_mono (ab_m4 r pre post) := fun as M N k k2 hk h => by
  unfold ab_m4 at h ⊢
  split at h
  · split at h
    · exact ⟨h.1, fun o M2 N2 hp => hk o M2 N2 (h.2 o M2 N2 hp)⟩
    · exact h
  · exact h
theorem ab_m4_v {Λ : List ab_L} {cl : List vw_C} {C : String} {r ci : Nat} {fs : List (Nat ⊕ FieldType)} {T0 : u_T} {N0 : Nat} {pre : Int32 → Int32 → Int32 → Int32 → ab_M → ab_N → Prop} {post : Int32 → Int32 → Int32 → Int32 → ab_M → ab_N → Option Value → ab_M → ab_N → Prop} (h1 : Λ[r]? = some (.inl (ci, fs))) (h2 : cl[ci]? = some (C, T0, N0)) : ab_recv Λ cl C (ab_m4 r pre post) := fun as M N k h => by
  obtain ⟨_, _, _, _, rfl, -⟩ := ab_m4_e h
  exact ⟨r, _, ci, fs, T0, N0, rfl, h1, h2⟩
def ab_m5 (r : Nat) (pre : Int32 → Int32 → Int32 → Int32 → Int32 → ab_M → ab_N → Prop) (post : Int32 → Int32 → Int32 → Int32 → Int32 → ab_M → ab_N → Option Value → ab_M → ab_N → Prop) : ab_T := fun as M N k => match as with
  | [.ref q, .int a, .int b, .int c, .int d, .int e] => (match Nat.beq q r with
    | true => pre a b c d e M N ∧ ∀ (o : Option Value) (M2 : ab_M) (N2 : ab_N), post a b c d e M N o M2 N2 → k o M2 N2
    | false => False)
  | _ => False
theorem ab_m5_e {r : Nat} {pre : Int32 → Int32 → Int32 → Int32 → Int32 → ab_M → ab_N → Prop} {post : Int32 → Int32 → Int32 → Int32 → Int32 → ab_M → ab_N → Option Value → ab_M → ab_N → Prop} {as : List Value} {M : ab_M} {N : ab_N} {k : ab_R} (h : ab_m5 r pre post as M N k) : ∃ (a b c d e : Int32), as = [.ref r, .int a, .int b, .int c, .int d, .int e] ∧ pre a b c d e M N ∧ ∀ (o : Option Value) (M2 : ab_M) (N2 : ab_N), post a b c d e M N o M2 N2 → k o M2 N2 := by
  unfold ab_m5 at h
  split at h
  · split at h
    · rename_i hb
      rw [Nat.eq_of_beq_eq_true hb]
      exact ⟨_, _, _, _, _, rfl, h⟩
    · exact h.elim
  · exact h.elim
theorem ab_m5_mono (r : Nat) (pre : Int32 → Int32 → Int32 → Int32 → Int32 → ab_M → ab_N → Prop) (post : Int32 → Int32 → Int32 → Int32 → Int32 → ab_M → ab_N → Option Value → ab_M → ab_N → Prop) : ab_mono (ab_m5 r pre post) := fun as M N k k2 hk h => by
  unfold ab_m5 at h ⊢
  split at h
  · split at h
    · exact ⟨h.1, fun o M2 N2 hp => hk o M2 N2 (h.2 o M2 N2 hp)⟩
    · exact h
  · exact h
theorem ab_m5_v {Λ : List ab_L} {cl : List vw_C} {C : String} {r ci : Nat} {fs : List (Nat ⊕ FieldType)} {T0 : u_T} {N0 : Nat} {pre : Int32 → Int32 → Int32 → Int32 → Int32 → ab_M → ab_N → Prop} {post : Int32 → Int32 → Int32 → Int32 → Int32 → ab_M → ab_N → Option Value → ab_M → ab_N → Prop} (h1 : Λ[r]? = some (.inl (ci, fs))) (h2 : cl[ci]? = some (C, T0, N0)) : ab_recv Λ cl C (ab_m5 r pre post) := fun as M N k h => by
  obtain ⟨_, _, _, _, _, rfl, -⟩ := ab_m5_e h
  exact ⟨r, _, ci, fs, T0, N0, rfl, h1, h2⟩
theorem ab_qi {Q : ab_R} {M : ab_M} {N : ab_N} {a b : Int32} (h : Q (some (.int a)) M N) (e : b = a) : Q (some (.int b)) M N := e ▸ h
theorem ab_vp {i : Int32} {n : Nat} (m : Int32) (hm : m.toInt = (n : Int)) (h0 : 0 ≤ i) (h1 : i < m) : vp_in i n := vp_in_iff.mpr ⟨by simpa using Int32.le_iff_toInt_le.mp h0, by rw [← hm]; exact Int32.lt_iff_toInt_lt.mp h1⟩
theorem ab_vpk {i : Int32} {n : Nat} (h : (decide (0 ≤ i.toInt) && decide (i.toInt < n)) = true) : vp_in i n := vp_in_iff.mpr (by simpa using h)
theorem ab_cl0 {i : Int32} (h0 : 0 ≤ i) : i = nI i.toNatClampNeg := by
  obtain ⟨j, hj, rfl⟩ := nI_of (Int32.not_lt.mpr h0)
  rw [nI_clamp hj]
theorem ab_m0_i {r : Nat} {pre : ab_M → ab_N → Prop} {post : ab_M → ab_N → Option Value → ab_M → ab_N → Prop} {M : ab_M} {N : ab_N} {k : ab_R} (h1 : pre M N) (h2 : ∀ (o : Option Value) (M2 : ab_M) (N2 : ab_N), post M N o M2 N2 → k o M2 N2) : ab_m0 r pre post [.ref r] M N k := by
  unfold ab_m0
  dsimp only
  rw [Nat.beq_refl]
  exact ⟨h1, h2⟩
theorem ab_m1_i {r : Nat} {pre : Int32 → ab_M → ab_N → Prop} {post : Int32 → ab_M → ab_N → Option Value → ab_M → ab_N → Prop} {a : Int32} {M : ab_M} {N : ab_N} {k : ab_R} (h1 : pre a M N) (h2 : ∀ (o : Option Value) (M2 : ab_M) (N2 : ab_N), post a M N o M2 N2 → k o M2 N2) : ab_m1 r pre post [.ref r, .int a] M N k := by
  unfold ab_m1
  dsimp only
  rw [Nat.beq_refl]
  exact ⟨h1, h2⟩
theorem ab_m2_i {r : Nat} {pre : Int32 → Int32 → ab_M → ab_N → Prop} {post : Int32 → Int32 → ab_M → ab_N → Option Value → ab_M → ab_N → Prop} {a b : Int32} {M : ab_M} {N : ab_N} {k : ab_R} (h1 : pre a b M N) (h2 : ∀ (o : Option Value) (M2 : ab_M) (N2 : ab_N), post a b M N o M2 N2 → k o M2 N2) : ab_m2 r pre post [.ref r, .int a, .int b] M N k := by
  unfold ab_m2
  dsimp only
  rw [Nat.beq_refl]
  exact ⟨h1, h2⟩
theorem ab_m3_i {r : Nat} {pre : Int32 → Int32 → Int32 → ab_M → ab_N → Prop} {post : Int32 → Int32 → Int32 → ab_M → ab_N → Option Value → ab_M → ab_N → Prop} {a b c : Int32} {M : ab_M} {N : ab_N} {k : ab_R} (h1 : pre a b c M N) (h2 : ∀ (o : Option Value) (M2 : ab_M) (N2 : ab_N), post a b c M N o M2 N2 → k o M2 N2) : ab_m3 r pre post [.ref r, .int a, .int b, .int c] M N k := by
  unfold ab_m3
  dsimp only
  rw [Nat.beq_refl]
  exact ⟨h1, h2⟩
theorem ab_m4_i {r : Nat} {pre : Int32 → Int32 → Int32 → Int32 → ab_M → ab_N → Prop} {post : Int32 → Int32 → Int32 → Int32 → ab_M → ab_N → Option Value → ab_M → ab_N → Prop} {a b c d : Int32} {M : ab_M} {N : ab_N} {k : ab_R} (h1 : pre a b c d M N) (h2 : ∀ (o : Option Value) (M2 : ab_M) (N2 : ab_N), post a b c d M N o M2 N2 → k o M2 N2) : ab_m4 r pre post [.ref r, .int a, .int b, .int c, .int d] M N k := by
  unfold ab_m4
  dsimp only
  rw [Nat.beq_refl]
  exact ⟨h1, h2⟩
theorem ab_m5_i {r : Nat} {pre : Int32 → Int32 → Int32 → Int32 → Int32 → ab_M → ab_N → Prop} {post : Int32 → Int32 → Int32 → Int32 → Int32 → ab_M → ab_N → Option Value → ab_M → ab_N → Prop} {a b c d e : Int32} {M : ab_M} {N : ab_N} {k : ab_R} (h1 : pre a b c d e M N) (h2 : ∀ (o : Option Value) (M2 : ab_M) (N2 : ab_N), post a b c d e M N o M2 N2 → k o M2 N2) : ab_m5 r pre post [.ref r, .int a, .int b, .int c, .int d, .int e] M N k := by
  unfold ab_m5
  dsimp only
  rw [Nat.beq_refl]
  exact ⟨h1, h2⟩
theorem zN_mul (a k : Nat) (K : Int32) (h : K = nI k := by rfl) : nI a * K = nI (a * k) := by rw [h, pk_mul]
theorem zN_add (a k : Nat) (K : Int32) (h : K = nI k := by rfl) : nI a + K = nI (a + k) := by rw [h, nI_add]
end
section
/-! what the statics hold: three tables, two texts *)
-/
def zs_LEAST_OF_NIGHT : Nat → Int32 := fun j => ([1, 2, 0, 0, 0] : List Int32).getD j 0
def zs_MOST_OF_NIGHT : Nat → Int32 := fun j => ([12, 6, 9, 8, 12] : List Int32).getD j 0
def zs_MOST_OF_THING : Nat → Int32 := fun j => ([200, 100, 999] : List Int32).getD j 0
def zs_tab : List (Nat × Nat × (Nat → Int32)) := [(50, 5, zs_LEAST_OF_NIGHT), (51, 5, zs_MOST_OF_NIGHT), (52, 3, zs_MOST_OF_THING)]
def zs_len : List Nat := [89, 57]
def zs_byt : List (List Int32) := [[114, 105, 115, 107, 32, 119, 97, 116, 101, 114, 32, 42, 32, 52, 32, 43, 32, 111, 108, 100, 32, 42, 32, 50, 48, 32, 43, 32, 115, 116, 101, 112, 32, 59, 32, 115, 101, 101, 110, 32, 51, 48, 32, 43, 32, 115, 116, 101, 112, 32, 42, 32, 49, 53, 32, 45, 32, 112, 97, 99, 101, 32, 42, 32, 49, 48, 32, 59, 32, 104, 97, 114, 109, 32, 115, 116, 101, 112, 32, 42, 32, 119, 111, 114, 116, 104, 32, 59, 32], [119, 97, 116, 101, 114, 32, 111, 108, 100, 32, 119, 105, 110, 100, 32, 115, 116, 101, 112, 32, 119, 111, 114, 116, 104, 32, 112, 97, 99, 101, 32, 114, 105, 115, 107, 32, 115, 101, 101, 110, 32, 104, 97, 114, 109, 32, 111, 114, 32, 97, 110, 100, 32, 110, 111, 116, 32]]
def zs_tx0 : String := "risk water * 4 + old * 20 + step ; seen 30 + step * 15 - pace * 10 ; harm step * worth ; "
def zs_tx1 : String := "water old wind step worth pace risk seen harm or and not "
def zZ_T (n : String) (k N : Nat) (f : Nat → Int32) : ab_Zt := fun ad A U H => va_Z "WalkTheDike" n "[I" (.ref (ad k)) A U H ∧ va_T .int (ad k) N (fun j => .int (f j)) A U H
def zZ_S : ab_Zt := fun ad A U H => vk_S 2 zs_len zs_byt (fun i => ad (60 + i)) (fun i => ad (62 + i)) A U H ∧ vk_R "WalkTheDike" 94 zs_tx0 (ad 60) U ∧ vk_R "WalkTheDike$Tape" 98 zs_tx1 (ad 61) U ∧ va_Z "java/lang/String" "COMPACT_STRINGS" "Z" (.int 1) A U H ∧ va_Zq "jdk/internal/util/Preconditions" "SIOOBE_FORMATTER" "Ljava/util/function/BiFunction;" A U H ∧ va_Nw (.fieldLinkNest "WalkTheDike$Chances" 63 "WalkTheDike" "MOST_OF_THING" "[I" "WalkTheDike") U
def zZ_C : ab_Zt := fun ad A U H => zZ_T "LEAST_OF_NIGHT" 50 5 zs_LEAST_OF_NIGHT ad A U H ∧ zZ_T "MOST_OF_NIGHT" 51 5 zs_MOST_OF_NIGHT ad A U H ∧ zZ_T "MOST_OF_THING" 52 3 zs_MOST_OF_THING ad A U H ∧ zZ_S ad A U H
def zZ_M : ab_Zt := fun _ _ _ _ => True
theorem zZ_M_ok : ab_ZOK zZ_M := ⟨fun _ _ _ _ _ _ _ => trivial, fun _ _ _ _ _ _ _ => trivial, fun _ _ _ _ _ _ _ => trivial, fun _ _ _ _ _ _ _ => trivial⟩
theorem zZ_T_mv {n : String} {k N : Nat} {f : Nat → Int32} {ad : Nat → Nat} {A : Nat → Prop} {u U : State} {H : Heap} (hv : u.vm.Alike U.vm) (h : zZ_T n k N f ad A u H) : zZ_T n k N f ad A U H := ⟨va_Z.moved hv h.1, va_T.moved hv h.2⟩
theorem zZ_T_kp {n : String} {k N : Nat} {f : Nat → Int32} {ad : Nat → Nat} {A : Nat → Prop} {U : State} {H H1 : Heap} (hq : ∀ a : Nat, a < H.size → ¬ A a → H1[a]? = H[a]?) (h : zZ_T n k N f ad A U H) : zZ_T n k N f ad A U H1 := ⟨h.1.kept hq, h.2.kept hq⟩
theorem zZ_T_nr {n : String} {k N : Nat} {f : Nat → Int32} {ad : Nat → Nat} {A B : Nat → Prop} {U : State} {H : Heap} (hq : ∀ q, B q → A q) (h : zZ_T n k N f ad A U H) : zZ_T n k N f ad B U H := ⟨h.1.narrow hq, h.2.narrow hq⟩
theorem zZ_al {U U2 : State} (h : U2.vm = U.vm) : U.vm.Alike U2.vm := by rw [h]; exact Vm.Alike.refl _
theorem zZ_Zq_kp {C n d : String} {A : Nat → Prop} {U : State} {H H1 : Heap} (hq : ∀ a : Nat, a < H.size → ¬ A a → H1[a]? = H[a]?) (h : va_Zq C n d A U H) : va_Zq C n d A U H1 := h.elim (fun z => Or.inl (z.kept hq)) (fun ⟨t, z⟩ => Or.inr ⟨t, z.kept hq⟩)
theorem zZ_Zq_nr {C n d : String} {A B : Nat → Prop} {U : State} {H : Heap} (hq : ∀ q, B q → A q) (h : va_Zq C n d A U H) : va_Zq C n d B U H := h.elim (fun z => Or.inl (z.narrow hq)) (fun ⟨t, z⟩ => Or.inr ⟨t, z.narrow hq⟩)
theorem zZ_C_ok : ab_ZOK zZ_C := by
  refine ⟨fun ad A s U H hW h => ?_, fun ad A U U2 H hv h => ?_, fun ad A U H H1 hq h => ?_, fun ad A B U H hq h => ?_⟩
  · obtain ⟨h1, h2, h3, h4, h5, h6, h7, h8, h9⟩ := h
    exact ⟨zZ_T_mv hW.alike h1, zZ_T_mv hW.alike h2, zZ_T_mv hW.alike h3, vk_S.moved hW.alike h4, vk_R.warm hW h5, vk_R.warm hW h6, va_Z.moved hW.alike h7, va_Zq.moved hW.alike h8, va_Nw.warmF hW h9⟩
  · obtain ⟨h1, h2, h3, h4, h5, h6, h7, h8, h9⟩ := h
    exact ⟨zZ_T_mv (zZ_al hv) h1, zZ_T_mv (zZ_al hv) h2, zZ_T_mv (zZ_al hv) h3, vk_S.moved (zZ_al hv) h4, vk_R.same hv h5, vk_R.same hv h6, va_Z.moved (zZ_al hv) h7, va_Zq.moved (zZ_al hv) h8, va_Nw.same rfl hv.symm h9⟩
  · obtain ⟨h1, h2, h3, h4, h5, h6, h7, h8, h9⟩ := h
    exact ⟨zZ_T_kp hq h1, zZ_T_kp hq h2, zZ_T_kp hq h3, h4.kept hq, h5, h6, h7.kept hq, zZ_Zq_kp hq h8, h9⟩
  · obtain ⟨h1, h2, h3, h4, h5, h6, h7, h8, h9⟩ := h
    exact ⟨zZ_T_nr hq h1, zZ_T_nr hq h2, zZ_T_nr hq h3, h4.narrow hq, h5, h6, h7.narrow hq, zZ_Zq_nr hq h8, h9⟩
theorem ab_Tab_nil {Z : ab_Zt} : ab_TabOK Z [] := fun _ _ _ _ _ _ _ _ _ _ _ _ _ _ _ _ _ _ _ _ h => by cases h
theorem ab_Sta_nil {Z : ab_Zt} {own : String} : ab_StaOK Z own [] := fun _ _ _ _ _ _ _ _ _ _ _ _ _ _ _ _ _ _ _ _ _ h => by cases h
theorem ab_Cst_nil {Z : ab_Zt} {own : String} : ab_CstOK Z own [] := fun _ _ _ _ _ _ _ _ _ _ _ _ _ _ _ _ _ _ _ _ _ h => by cases h
theorem zs_tabOK : ab_TabOK zZ_C zs_tab := by
  intro p l e R s m args below meth c cc ad A Qm hx hb hZ k n f hk pc H locs lsC rest i hS hin hdec kk
  obtain ⟨h1, h2, h3, -⟩ := hZ
  have hm := ab_a_in _ _ _ hk
  simp only [zs_tab, List.mem_cons, Prod.mk.injEq, List.not_mem_nil, or_false] at hm
  rcases hm with ⟨rfl, rfl, rfl⟩ | ⟨rfl, rfl, rfl⟩ | ⟨rfl, rfl, rfl⟩
  · exact va_ti hx hb h1.2 hS hin rfl hdec kk
  · exact va_ti hx hb h2.2 hS hin rfl hdec kk
  · exact va_ti hx hb h3.2 hS hin rfl hdec kk
/-- numbers among the constants -/
def ab_cstW (own : String) (q : Nat × Value) : Prop := match q.2 with
  | .int v => Cond.constant own q.1 v ∈ ab_B
  | .long v => Cond.constantLong own q.1 v ∈ ab_B
  | _ => False
theorem ab_CstOf {Z : ab_Zt} {own : String} {cst : List (Nat × Value)} (h : ∀ q ∈ cst, ab_cstW own q) : ab_CstOK Z own cst := by
  intro p l e R s m args below meth c cc ad A Qm hx hb hown hts hZ i v hi pc n H locs lsC rest hS hdec kk
  have h1 := h _ (ab_a_in _ _ _ hi)
  unfold ab_cstW at h1
  dsimp only at h1
  split at h1
  · rcases hdec with ⟨d1, rfl, d3⟩ | ⟨d1, rfl, d3⟩ | ⟨d1, rfl, d3⟩
    · exact lv_ldc hx hb hown (hts _ h1) d1 kk
    · exact lv_ldcw hx hb hown (hts _ h1) d1 kk
    · cases d3
  · rcases hdec with ⟨d1, rfl, d3⟩ | ⟨d1, rfl, d3⟩ | ⟨d1, rfl, d3⟩
    · cases d3
    · obtain ⟨x, hx2⟩ := d3
      cases hx2
    · exact lv_ldc2 hx hb hown (hts _ h1) d1 kk
  · exact h1.elim
theorem zc_X3_ok : ab_CstOK zZ_C RX3 zc_X3 := ab_CstOf (List.forall_mem_cons.mpr ⟨(show ab_cstW RX3 (67, .long 1000) from ab_in 894 (by decide +kernel) rfl), List.forall_mem_cons.mpr ⟨(show ab_cstW RX3 (85, .long 100) from ab_in 902 (by decide +kernel) rfl), List.forall_mem_cons.mpr ⟨(show ab_cstW RX3 (91, .long 48271) from ab_in 892 (by decide +kernel) rfl), List.forall_mem_cons.mpr ⟨(show ab_cstW RX3 (93, .long 2147483647) from ab_in 893 (by decide +kernel) rfl), List.forall_mem_nil _⟩⟩⟩⟩)
theorem zc_X6_ok : ab_CstOK zZ_C RX6 zc_X6 := ab_CstOf (List.forall_mem_cons.mpr ⟨(show ab_cstW RX6 (46, .long 1000000000) from ab_in 741 (by decide +kernel) rfl), List.forall_mem_cons.mpr ⟨(show ab_cstW RX6 (80, .long 1000) from ab_in 748 (by decide +kernel) rfl), List.forall_mem_cons.mpr ⟨(show ab_cstW RX6 (82, .long 100) from ab_in 763 (by decide +kernel) rfl), List.forall_mem_nil _⟩⟩⟩)
theorem zc_X11_ok : ab_CstOK zZ_C RX11 zc_X11 := ab_CstOf (List.forall_mem_cons.mpr ⟨(show ab_cstW RX11 (218, .long (-4611686018427387904)) from ab_in 733 (by decide +kernel) rfl), List.forall_mem_cons.mpr ⟨(show ab_cstW RX11 (259, .long 1000000000000000000) from ab_in 812 (by decide +kernel) rfl), List.forall_mem_cons.mpr ⟨(show ab_cstW RX11 (290, .long 1000000000) from ab_in 855 (by decide +kernel) rfl), List.forall_mem_cons.mpr ⟨(show ab_cstW RX11 (295, .int 99999) from ab_in 876 (by decide +kernel) rfl), List.forall_mem_nil _⟩⟩⟩⟩)
theorem zc_X12_ok : ab_CstOK zZ_M RX12 zc_X12 := ab_CstOf (List.forall_mem_cons.mpr ⟨(show ab_cstW RX12 (107, .long 1919513451) from ab_in 956 (by decide +kernel) rfl), List.forall_mem_cons.mpr ⟨(show ab_cstW RX12 (109, .long 1936024942) from ab_in 957 (by decide +kernel) rfl), List.forall_mem_cons.mpr ⟨(show ab_cstW RX12 (111, .long 1751216749) from ab_in 958 (by decide +kernel) rfl), List.forall_mem_cons.mpr ⟨(show ab_cstW RX12 (113, .long 512736126322) from ab_in 959 (by decide +kernel) rfl), List.forall_mem_cons.mpr ⟨(show ab_cstW RX12 (115, .long 7302244) from ab_in 960 (by decide +kernel) rfl), List.forall_mem_cons.mpr ⟨(show ab_cstW RX12 (117, .long 2003398244) from ab_in 961 (by decide +kernel) rfl), List.forall_mem_cons.mpr ⟨(show ab_cstW RX12 (119, .long 1937007984) from ab_in 962 (by decide +kernel) rfl), List.forall_mem_cons.mpr ⟨(show ab_cstW RX12 (121, .long 512970880104) from ab_in 963 (by decide +kernel) rfl), List.forall_mem_cons.mpr ⟨(show ab_cstW RX12 (123, .long 1885430629) from ab_in 964 (by decide +kernel) rfl), List.forall_mem_cons.mpr ⟨(show ab_cstW RX12 (125, .long 28530) from ab_in 965 (by decide +kernel) rfl), List.forall_mem_cons.mpr ⟨(show ab_cstW RX12 (127, .long 6385252) from ab_in 966 (by decide +kernel) rfl), List.forall_mem_cons.mpr ⟨(show ab_cstW RX12 (129, .long 7237492) from ab_in 967 (by decide +kernel) rfl), List.forall_mem_cons.mpr ⟨(show ab_cstW RX12 (163, .int 100004) from ab_in 968 (by decide +kernel) rfl), List.forall_mem_cons.mpr ⟨(show ab_cstW RX12 (168, .int 100020) from ab_in 973 (by decide +kernel) rfl), List.forall_mem_cons.mpr ⟨(show ab_cstW RX12 (169, .int 100030) from ab_in 974 (by decide +kernel) rfl), List.forall_mem_cons.mpr ⟨(show ab_cstW RX12 (170, .int 100015) from ab_in 975 (by decide +kernel) rfl), List.forall_mem_cons.mpr ⟨(show ab_cstW RX12 (171, .int 100010) from ab_in 976 (by decide +kernel) rfl), List.forall_mem_cons.mpr ⟨(show ab_cstW RX12 (199, .long 255) from ab_in 1226 (by decide +kernel) rfl), List.forall_mem_cons.mpr ⟨(show ab_cstW RX12 (242, .int 100000) from ab_in 1243 (by decide +kernel) rfl), List.forall_mem_cons.mpr ⟨(show ab_cstW RX12 (317, .long 100) from ab_in 1383 (by decide +kernel) rfl), List.forall_mem_cons.mpr ⟨(show ab_cstW RX12 (326, .long 1000000000) from ab_in 1377 (by decide +kernel) rfl), List.forall_mem_cons.mpr ⟨(show ab_cstW RX12 (328, .long 1000) from ab_in 1378 (by decide +kernel) rfl), List.forall_mem_cons.mpr ⟨(show ab_cstW RX12 (341, .long (-4611686018427387904)) from ab_in 1384 (by decide +kernel) rfl), List.forall_mem_cons.mpr ⟨(show ab_cstW RX12 (361, .long 48271) from ab_in 1502 (by decide +kernel) rfl), List.forall_mem_cons.mpr ⟨(show ab_cstW RX12 (363, .long 2147483647) from ab_in 1503 (by decide +kernel) rfl), List.forall_mem_cons.mpr ⟨(show ab_cstW RX12 (377, .int 99999) from ab_in 1493 (by decide +kernel) rfl), List.forall_mem_nil _⟩⟩⟩⟩⟩⟩⟩⟩⟩⟩⟩⟩⟩⟩⟩⟩⟩⟩⟩⟩⟩⟩⟩⟩⟩⟩)
/-- WORDS -/
def zc_X8 : List (Nat × Value) := [(98, .ref 61)]
theorem zc_X8_ok : ab_CstOK zZ_C RX8 zc_X8 := by
  intro p l e R s m args below meth c cc ad A Qm hx hb hown hts hZ i v hi pc n H locs lsC rest hS hdec kk
  obtain ⟨-, -, -, -, -, h6, -⟩ := hZ
  have hm := ab_a_in _ _ _ hi
  simp only [zc_X8, List.mem_cons, Prod.mk.injEq, List.not_mem_nil, or_false] at hm
  obtain ⟨rfl, rfl⟩ := hm
  rcases hdec with ⟨d1, rfl, d3⟩ | ⟨d1, rfl, d3⟩ | ⟨d1, rfl, d3⟩
  · exact va_ldcS hx hb hown h6 d1 kk
  · obtain ⟨x, hx2⟩ := d3
    cases hx2
  · cases d3
theorem zs_X11_ok : ab_StaOK zZ_C RX11 [(144, 50), (147, 51)] := by
  intro p l e R s m args below meth c cc ad A Qm hx hb hown hts hZ i k hi pc H locs lsC rest hS hdec kk
  obtain ⟨h1, h2, -⟩ := hZ
  have hm := ab_a_in _ _ _ hi
  simp only [List.mem_cons, Prod.mk.injEq, List.not_mem_nil, or_false] at hm
  rcases hm with ⟨rfl, rfl⟩ | ⟨rfl, rfl⟩
  · exact va_gets hx hb h1.1 hS hown (hts _ (ab_in 559 (by decide +kernel) rfl)) (fun _ h => h) hdec kk
  · exact va_gets hx hb h2.1 hS hown (hts _ (ab_in 561 (by decide +kernel) rfl)) (fun _ h => h) hdec kk
theorem zs_X1_ok : ab_StaOK zZ_C RX1 [(63, 52)] := by
  intro p l e R s m args below meth c cc ad A Qm hx hb hown hts hZ i k hi pc H locs lsC rest hS hdec kk
  obtain ⟨-, -, h3, -, -, -, -, -, h9⟩ := hZ
  have hm := ab_a_in _ _ _ hi
  simp only [List.mem_cons, Prod.mk.injEq, List.not_mem_nil, or_false] at hm
  obtain ⟨rfl, rfl⟩ := hm
  exact va_getsN hx hb h3.1 hS hown (va_Nw.use rfl h9) (fun _ h => h) hdec kk
end
section
/-! Dike, Men, Sheets: small methods *)
-/
def zt_X2_has : ab_T := ab_pure (fun as M N => match as with
  | [.ref r1, .int p] => (match Nat.beq r1 1 with | true => some (.int (ab_b (0 ≤ p ∧ p < (M 1) 4 ∧ p < 8))) | false => none)
  | _ => none)
theorem zI_X2_has {as : List Value} {M : ab_M} {N : ab_N} {k : ab_R} (hk : zt_X2_has as M N k) : ∃ (p : Int32), as = [.ref 1, .int p] ∧ k (some (.int (ab_b (0 ≤ p ∧ p < (M 1) 4 ∧ p < 8)))) M N := by
  unfold zt_X2_has ab_pure at hk
  dsimp only at hk
  split at hk
  · rename_i v hv
    split at hv
    · split at hv
      · rename_i hb0
        cases hv
        rw [Nat.eq_of_beq_eq_true hb0]
        exact ⟨_, rfl, hk⟩
      · cases hv
    · cases hv
  · exact hk.elim
def zp_X2_has : ab_P := [(0, .iload_n 1, 1, [1], []),
  (1, .ifCond .lt 21, 4, [22], []),
  (4, .iload_n 1, 5, [1], []),
  (5, .aload_n 0, 6, [0], []),
  (6, .getfield 24, 9, [], []),
  (9, .if_icmp .ge 13, 12, [22], []),
  (12, .iload_n 1, 13, [1], []),
  (13, .bipush 8, 15, [], [8]),
  (15, .if_icmp .ge 7, 18, [22], []),
  (18, .iconst 1, 19, [], [1]),
  (19, .goto 4, 22, [23], []),
  (22, .iconst 0, 23, [], [0]),
  (23, .ireturn, 24, [], [])]
theorem zo_X2_has : ab_ok cX2_has zp_X2_has = true := by decide +kernel
def zg_X2_has : ab_G := (zw_C, zs_tab, zf_X2, [], [], [], [])
theorem zm_X2_has : ab_MG zg_X2_has := ab_MGof (List.forall_mem_nil _) (List.forall_mem_nil _)
abbrev zr_X2_has (Q : ab_R) : ab_K := ab_Run zg_X2_has zp_X2_has (some .boolean) 2 Q
set_option maxRecDepth 20000 in
theorem zv_X2_has_0 {Q : ab_R} {M : ab_M} {N : ab_N} (l1 : Int32) (h : (l1 < 0 → narrow .boolean (.int (0 : Int32)) = .int (0 : Int32) ∧ Q (some (.int (0 : Int32))) M N) ∧ (¬ (l1 < 0) → ((M 1 4) ≤ l1 → narrow .boolean (.int (0 : Int32)) = .int (0 : Int32) ∧ Q (some (.int (0 : Int32))) M N) ∧ (¬ ((M 1 4) ≤ l1) → ((8 : Int32) ≤ l1 → narrow .boolean (.int (0 : Int32)) = .int (0 : Int32) ∧ Q (some (.int (0 : Int32))) M N) ∧ (¬ ((8 : Int32) ≤ l1) → narrow .boolean (.int (1 : Int32)) = .int (1 : Int32) ∧ Q (some (.int (1 : Int32))) M N)))) : zr_X2_has Q 0 [some (.ref 1), some (.int l1)] [] M N := ab_Run_s zm_X2_has (sp := []) 15 h
theorem zH_X2_has (p : Int32) {M : ab_M} {N : ab_N} {k : ab_R} (hk : k (some (.int (ab_b (0 ≤ p ∧ p < (M 1) 4 ∧ p < 8)))) M N) : zr_X2_has k 0 [some (.ref 1), some (.int p)] [] M N := by
  refine zv_X2_has_0 _ ?_
  (repeat' first | exact ab_vpk (by decide) | exact hp | refine And.intro ?_ ?_ | intro _)
  all_goals first | rfl | exact ab_b_n | (refine ab_qi hk ?_; (try unfold ab_b at *); grind) | grind
abbrev zR_X2_has : Room := { frames := 0, cells := 0, slots := 0, locals := 0 }
theorem zV_X2_has : ab_recv zw_C vwCl RX2 zt_X2_has := fun as M N k h => by
  obtain ⟨_, rfl, -⟩ := zI_X2_has h
  exact ⟨_, _, _, _, _, _, rfl, rfl, rfl⟩
theorem zE_X2_has (as : List Value) (M : ab_M) (N : ab_N) (k : ab_R) (hk : zt_X2_has as M N k) : ab_cs as ≤ 2 ∧ zr_X2_has k 0 (ab_en as) [] M N := by
  obtain ⟨p, rfl, hk2⟩ := zI_X2_has hk
  exact ⟨Nat.le_of_ble_eq_true rfl, zH_X2_has p hk2⟩
set_option maxRecDepth 20000 in
theorem zM_X2_has (l : Launch) : ab_Met l zw_C vwCl zZ_C yX2_has cX2_has 2 (some .boolean) zR_X2_has zt_X2_has := ab_ofRun (G := zg_X2_has) (P := zp_X2_has) rfl zo_X2_has (by decide +kernel) zl_cl zl_lamC zf_X2_ok zs_tabOK ab_Cst_nil ab_Sta_nil (List.forall_mem_nil _) (List.forall_mem_nil _) zE_X2_has
def zt_X5_has : ab_T := ab_pure (fun as M N => match as with
  | [.ref r1, .int p] => (match Nat.beq r1 2 with | true => some (.int (ab_b (0 ≤ p ∧ p < (M 2) 6 ∧ p < 5))) | false => none)
  | _ => none)
theorem zI_X5_has {as : List Value} {M : ab_M} {N : ab_N} {k : ab_R} (hk : zt_X5_has as M N k) : ∃ (p : Int32), as = [.ref 2, .int p] ∧ k (some (.int (ab_b (0 ≤ p ∧ p < (M 2) 6 ∧ p < 5)))) M N := by
  unfold zt_X5_has ab_pure at hk
  dsimp only at hk
  split at hk
  · rename_i v hv
    split at hv
    · split at hv
      · rename_i hb0
        cases hv
        rw [Nat.eq_of_beq_eq_true hb0]
        exact ⟨_, rfl, hk⟩
      · cases hv
    · cases hv
  · exact hk.elim
def zp_X5_has : ab_P := [(0, .iload_n 1, 1, [1], []),
  (1, .ifCond .lt 20, 4, [21], []),
  (4, .iload_n 1, 5, [1], []),
  (5, .aload_n 0, 6, [0], []),
  (6, .getfield 30, 9, [], []),
  (9, .if_icmp .ge 12, 12, [21], []),
  (12, .iload_n 1, 13, [1], []),
  (13, .iconst 5, 14, [], [5]),
  (14, .if_icmp .ge 7, 17, [21], []),
  (17, .iconst 1, 18, [], [1]),
  (18, .goto 4, 21, [22], []),
  (21, .iconst 0, 22, [], [0]),
  (22, .ireturn, 23, [], [])]
theorem zo_X5_has : ab_ok cX5_has zp_X5_has = true := by decide +kernel
def zg_X5_has : ab_G := (zw_C, zs_tab, zf_X5, [], [], [], [])
theorem zm_X5_has : ab_MG zg_X5_has := ab_MGof (List.forall_mem_nil _) (List.forall_mem_nil _)
abbrev zr_X5_has (Q : ab_R) : ab_K := ab_Run zg_X5_has zp_X5_has (some .boolean) 2 Q
set_option maxRecDepth 20000 in
theorem zv_X5_has_0 {Q : ab_R} {M : ab_M} {N : ab_N} (l1 : Int32) (h : (l1 < 0 → narrow .boolean (.int (0 : Int32)) = .int (0 : Int32) ∧ Q (some (.int (0 : Int32))) M N) ∧ (¬ (l1 < 0) → ((M 2 6) ≤ l1 → narrow .boolean (.int (0 : Int32)) = .int (0 : Int32) ∧ Q (some (.int (0 : Int32))) M N) ∧ (¬ ((M 2 6) ≤ l1) → ((5 : Int32) ≤ l1 → narrow .boolean (.int (0 : Int32)) = .int (0 : Int32) ∧ Q (some (.int (0 : Int32))) M N) ∧ (¬ ((5 : Int32) ≤ l1) → narrow .boolean (.int (1 : Int32)) = .int (1 : Int32) ∧ Q (some (.int (1 : Int32))) M N)))) : zr_X5_has Q 0 [some (.ref 2), some (.int l1)] [] M N := ab_Run_s zm_X5_has (sp := []) 15 h
theorem zH_X5_has (p : Int32) {M : ab_M} {N : ab_N} {k : ab_R} (hk : k (some (.int (ab_b (0 ≤ p ∧ p < (M 2) 6 ∧ p < 5)))) M N) : zr_X5_has k 0 [some (.ref 2), some (.int p)] [] M N := by
  refine zv_X5_has_0 _ ?_
  (repeat' first | exact ab_vpk (by decide) | exact hp | refine And.intro ?_ ?_ | intro _)
  all_goals first | rfl | exact ab_b_n | (refine ab_qi hk ?_; (try unfold ab_b at *); grind) | grind
abbrev zR_X5_has : Room := { frames := 0, cells := 0, slots := 0, locals := 0 }
theorem zV_X5_has : ab_recv zw_C vwCl RX5 zt_X5_has := fun as M N k h => by
  obtain ⟨_, rfl, -⟩ := zI_X5_has h
  exact ⟨_, _, _, _, _, _, rfl, rfl, rfl⟩
theorem zE_X5_has (as : List Value) (M : ab_M) (N : ab_N) (k : ab_R) (hk : zt_X5_has as M N k) : ab_cs as ≤ 2 ∧ zr_X5_has k 0 (ab_en as) [] M N := by
  obtain ⟨p, rfl, hk2⟩ := zI_X5_has hk
  exact ⟨Nat.le_of_ble_eq_true rfl, zH_X5_has p hk2⟩
set_option maxRecDepth 20000 in
theorem zM_X5_has (l : Launch) : ab_Met l zw_C vwCl zZ_C yX5_has cX5_has 2 (some .boolean) zR_X5_has zt_X5_has := ab_ofRun (G := zg_X5_has) (P := zp_X5_has) rfl zo_X5_has (by decide +kernel) zl_cl zl_lamC zf_X5_ok zs_tabOK ab_Cst_nil ab_Sta_nil (List.forall_mem_nil _) (List.forall_mem_nil _) zE_X5_has
def zt_X2_hasHour : ab_T := ab_pure (fun as M N => match as with
  | [.ref r1, .int h] => (match Nat.beq r1 1 with | true => some (.int (ab_b (0 ≤ h ∧ h < (M 17) 0 ∧ h < 12))) | false => none)
  | _ => none)
theorem zI_X2_hasHour {as : List Value} {M : ab_M} {N : ab_N} {k : ab_R} (hk : zt_X2_hasHour as M N k) : ∃ (h : Int32), as = [.ref 1, .int h] ∧ k (some (.int (ab_b (0 ≤ h ∧ h < (M 17) 0 ∧ h < 12)))) M N := by
  unfold zt_X2_hasHour ab_pure at hk
  dsimp only at hk
  split at hk
  · rename_i v hv
    split at hv
    · split at hv
      · rename_i hb0
        cases hv
        rw [Nat.eq_of_beq_eq_true hb0]
        exact ⟨_, rfl, hk⟩
      · cases hv
    · cases hv
  · exact hk.elim
def zp_X2_hasHour : ab_P := [(0, .iload_n 1, 1, [1], []),
  (1, .ifCond .lt 23, 4, [24], []),
  (4, .iload_n 1, 5, [1], []),
  (5, .aload_n 0, 6, [0], []),
  (6, .getfield 28, 9, [], []),
  (9, .iconst 0, 10, [], [0]),
  (10, .iaload, 11, [], []),
  (11, .if_icmp .ge 13, 14, [24], []),
  (14, .iload_n 1, 15, [1], []),
  (15, .bipush 12, 17, [], [12]),
  (17, .if_icmp .ge 7, 20, [24], []),
  (20, .iconst 1, 21, [], [1]),
  (21, .goto 4, 24, [25], []),
  (24, .iconst 0, 25, [], [0]),
  (25, .ireturn, 26, [], [])]
theorem zo_X2_hasHour : ab_ok cX2_hasHour zp_X2_hasHour = true := by decide +kernel
def zg_X2_hasHour : ab_G := (zw_C, zs_tab, zf_X2, [], [], [], [])
theorem zm_X2_hasHour : ab_MG zg_X2_hasHour := ab_MGof (List.forall_mem_nil _) (List.forall_mem_nil _)
abbrev zr_X2_hasHour (Q : ab_R) : ab_K := ab_Run zg_X2_hasHour zp_X2_hasHour (some .boolean) 2 Q
set_option maxRecDepth 20000 in
theorem zv_X2_hasHour_0 {Q : ab_R} {M : ab_M} {N : ab_N} (l1 : Int32) (h : (l1 < 0 → narrow .boolean (.int (0 : Int32)) = .int (0 : Int32) ∧ Q (some (.int (0 : Int32))) M N) ∧ (¬ (l1 < 0) → vp_in (0 : Int32) 5 ∧ (((M 17 0) ≤ l1 → narrow .boolean (.int (0 : Int32)) = .int (0 : Int32) ∧ Q (some (.int (0 : Int32))) M N) ∧ (¬ ((M 17 0) ≤ l1) → ((12 : Int32) ≤ l1 → narrow .boolean (.int (0 : Int32)) = .int (0 : Int32) ∧ Q (some (.int (0 : Int32))) M N) ∧ (¬ ((12 : Int32) ≤ l1) → narrow .boolean (.int (1 : Int32)) = .int (1 : Int32) ∧ Q (some (.int (1 : Int32))) M N))))) : zr_X2_hasHour Q 0 [some (.ref 1), some (.int l1)] [] M N := ab_Run_s zm_X2_hasHour (sp := []) 17 h
theorem zH_X2_hasHour (h : Int32) {M : ab_M} {N : ab_N} {k : ab_R} (hk : k (some (.int (ab_b (0 ≤ h ∧ h < (M 17) 0 ∧ h < 12)))) M N) : zr_X2_hasHour k 0 [some (.ref 1), some (.int h)] [] M N := by
  refine zv_X2_hasHour_0 _ ?_
  (repeat' first | exact ab_vpk (by decide) | exact hp | refine And.intro ?_ ?_ | intro _)
  all_goals first | rfl | exact ab_b_n | (refine ab_qi hk ?_; (try unfold ab_b at *); grind) | grind
abbrev zR_X2_hasHour : Room := { frames := 0, cells := 0, slots := 0, locals := 0 }
theorem zV_X2_hasHour : ab_recv zw_C vwCl RX2 zt_X2_hasHour := fun as M N k h => by
  obtain ⟨_, rfl, -⟩ := zI_X2_hasHour h
  exact ⟨_, _, _, _, _, _, rfl, rfl, rfl⟩
theorem zE_X2_hasHour (as : List Value) (M : ab_M) (N : ab_N) (k : ab_R) (hk : zt_X2_hasHour as M N k) : ab_cs as ≤ 2 ∧ zr_X2_hasHour k 0 (ab_en as) [] M N := by
  obtain ⟨h, rfl, hk2⟩ := zI_X2_hasHour hk
  exact ⟨Nat.le_of_ble_eq_true rfl, zH_X2_hasHour h hk2⟩
set_option maxRecDepth 20000 in
theorem zM_X2_hasHour (l : Launch) : ab_Met l zw_C vwCl zZ_C yX2_hasHour cX2_hasHour 2 (some .boolean) zR_X2_hasHour zt_X2_hasHour := ab_ofRun (G := zg_X2_hasHour) (P := zp_X2_hasHour) rfl zo_X2_hasHour (by decide +kernel) zl_cl zl_lamC zf_X2_ok zs_tabOK ab_Cst_nil ab_Sta_nil (List.forall_mem_nil _) (List.forall_mem_nil _) zE_X2_hasHour
def zt_X7_has : ab_T := ab_pure (fun as M N => match as with
  | [.ref r1, .int s] => (match Nat.beq r1 9 with | true => some (.int (ab_b (0 ≤ s ∧ s < 4))) | false => none)
  | _ => none)
theorem zI_X7_has {as : List Value} {M : ab_M} {N : ab_N} {k : ab_R} (hk : zt_X7_has as M N k) : ∃ (s : Int32), as = [.ref 9, .int s] ∧ k (some (.int (ab_b (0 ≤ s ∧ s < 4)))) M N := by
  unfold zt_X7_has ab_pure at hk
  dsimp only at hk
  split at hk
  · rename_i v hv
    split at hv
    · split at hv
      · rename_i hb0
        cases hv
        rw [Nat.eq_of_beq_eq_true hb0]
        exact ⟨_, rfl, hk⟩
      · cases hv
    · cases hv
  · exact hk.elim
def zp_X7_has : ab_P := [(0, .iload_n 1, 1, [1], []),
  (1, .ifCond .lt 12, 4, [13], []),
  (4, .iload_n 1, 5, [1], []),
  (5, .iconst 4, 6, [], [4]),
  (6, .if_icmp .ge 7, 9, [13], []),
  (9, .iconst 1, 10, [], [1]),
  (10, .goto 4, 13, [14], []),
  (13, .iconst 0, 14, [], [0]),
  (14, .ireturn, 15, [], [])]
theorem zo_X7_has : ab_ok cX7_has zp_X7_has = true := by decide +kernel
def zg_X7_has : ab_G := (zw_C, zs_tab, zf_X7, [], [], [], [])
theorem zm_X7_has : ab_MG zg_X7_has := ab_MGof (List.forall_mem_nil _) (List.forall_mem_nil _)
abbrev zr_X7_has (Q : ab_R) : ab_K := ab_Run zg_X7_has zp_X7_has (some .boolean) 2 Q
set_option maxRecDepth 20000 in
theorem zv_X7_has_0 {Q : ab_R} {M : ab_M} {N : ab_N} (l1 : Int32) (h : (l1 < 0 → narrow .boolean (.int (0 : Int32)) = .int (0 : Int32) ∧ Q (some (.int (0 : Int32))) M N) ∧ (¬ (l1 < 0) → ((4 : Int32) ≤ l1 → narrow .boolean (.int (0 : Int32)) = .int (0 : Int32) ∧ Q (some (.int (0 : Int32))) M N) ∧ (¬ ((4 : Int32) ≤ l1) → narrow .boolean (.int (1 : Int32)) = .int (1 : Int32) ∧ Q (some (.int (1 : Int32))) M N))) : zr_X7_has Q 0 [some (.ref 9), some (.int l1)] [] M N := ab_Run_s zm_X7_has (sp := []) 11 h
theorem zH_X7_has (s : Int32) {M : ab_M} {N : ab_N} {k : ab_R} (hk : k (some (.int (ab_b (0 ≤ s ∧ s < 4)))) M N) : zr_X7_has k 0 [some (.ref 9), some (.int s)] [] M N := by
  refine zv_X7_has_0 _ ?_
  (repeat' first | exact ab_vpk (by decide) | exact hp | refine And.intro ?_ ?_ | intro _)
  all_goals first | rfl | exact ab_b_n | (refine ab_qi hk ?_; (try unfold ab_b at *); grind) | grind
abbrev zR_X7_has : Room := { frames := 0, cells := 0, slots := 0, locals := 0 }
theorem zV_X7_has : ab_recv zw_C vwCl RX7 zt_X7_has := fun as M N k h => by
  obtain ⟨_, rfl, -⟩ := zI_X7_has h
  exact ⟨_, _, _, _, _, _, rfl, rfl, rfl⟩
theorem zE_X7_has (as : List Value) (M : ab_M) (N : ab_N) (k : ab_R) (hk : zt_X7_has as M N k) : ab_cs as ≤ 2 ∧ zr_X7_has k 0 (ab_en as) [] M N := by
  obtain ⟨s, rfl, hk2⟩ := zI_X7_has hk
  exact ⟨Nat.le_of_ble_eq_true rfl, zH_X7_has s hk2⟩
set_option maxRecDepth 20000 in
theorem zM_X7_has (l : Launch) : ab_Met l zw_C vwCl zZ_C yX7_has cX7_has 2 (some .boolean) zR_X7_has zt_X7_has := ab_ofRun (G := zg_X7_has) (P := zp_X7_has) rfl zo_X7_has (by decide +kernel) zl_cl zl_lamC zf_X7_ok zs_tabOK ab_Cst_nil ab_Sta_nil (List.forall_mem_nil _) (List.forall_mem_nil _) zE_X7_has
def zt_X11_within : ab_T := ab_pure (fun as M N => match as with
  | [.int v, .int a, .int b] => some (.int (ab_b (a ≤ v ∧ v ≤ b)))
  | _ => none)
theorem zI_X11_within {as : List Value} {M : ab_M} {N : ab_N} {k : ab_R} (hk : zt_X11_within as M N k) : ∃ (v : Int32) (a : Int32) (b : Int32), as = [.int v, .int a, .int b] ∧ k (some (.int (ab_b (a ≤ v ∧ v ≤ b)))) M N := by
  unfold zt_X11_within ab_pure at hk
  dsimp only at hk
  split at hk
  · rename_i v hv
    split at hv
    · cases hv
      exact ⟨_, _, _, rfl, hk⟩
    · cases hv
  · exact hk.elim
def zp_X11_within : ab_P := [(0, .iload_n 0, 1, [0], []),
  (1, .iload_n 1, 2, [1], []),
  (2, .if_icmp .lt 12, 5, [14], []),
  (5, .iload_n 0, 6, [0], []),
  (6, .iload_n 2, 7, [2], []),
  (7, .if_icmp .gt 7, 10, [14], []),
  (10, .iconst 1, 11, [], [1]),
  (11, .goto 4, 14, [15], []),
  (14, .iconst 0, 15, [], [0]),
  (15, .ireturn, 16, [], [])]
theorem zo_X11_within : ab_ok cX11_within zp_X11_within = true := by decide +kernel
def zg_X11_within : ab_G := (zw_C, zs_tab, zf_X11, zc_X11, [(144, 50), (147, 51)], [], [])
theorem zm_X11_within : ab_MG zg_X11_within := ab_MGof (List.forall_mem_nil _) (List.forall_mem_nil _)
abbrev zr_X11_within (Q : ab_R) : ab_K := ab_Run zg_X11_within zp_X11_within (some .boolean) 3 Q
set_option maxRecDepth 20000 in
theorem zv_X11_within_0 {Q : ab_R} {M : ab_M} {N : ab_N} (l0 : Int32) (l1 : Int32) (l2 : Int32) (h : (l0 < l1 → narrow .boolean (.int (0 : Int32)) = .int (0 : Int32) ∧ Q (some (.int (0 : Int32))) M N) ∧ (¬ (l0 < l1) → (l2 < l0 → narrow .boolean (.int (0 : Int32)) = .int (0 : Int32) ∧ Q (some (.int (0 : Int32))) M N) ∧ (¬ (l2 < l0) → narrow .boolean (.int (1 : Int32)) = .int (1 : Int32) ∧ Q (some (.int (1 : Int32))) M N))) : zr_X11_within Q 0 [some (.int l0), some (.int l1), some (.int l2)] [] M N := ab_Run_s zm_X11_within (sp := []) 12 h
theorem zH_X11_within (v : Int32) (a : Int32) (b : Int32) {M : ab_M} {N : ab_N} {k : ab_R} (hk : k (some (.int (ab_b (a ≤ v ∧ v ≤ b)))) M N) : zr_X11_within k 0 [some (.int v), some (.int a), some (.int b)] [] M N := by
  refine zv_X11_within_0 _ _ _ ?_
  (repeat' first | exact ab_vpk (by decide) | exact hp | refine And.intro ?_ ?_ | intro _)
  all_goals first | rfl | exact ab_b_n | (refine ab_qi hk ?_; (try unfold ab_b at *); grind) | grind
abbrev zR_X11_within : Room := { frames := 0, cells := 0, slots := 0, locals := 0 }
theorem zE_X11_within (as : List Value) (M : ab_M) (N : ab_N) (k : ab_R) (hk : zt_X11_within as M N k) : ab_cs as ≤ 3 ∧ zr_X11_within k 0 (ab_en as) [] M N := by
  obtain ⟨v, a, b, rfl, hk2⟩ := zI_X11_within hk
  exact ⟨Nat.le_of_ble_eq_true rfl, zH_X11_within v a b hk2⟩
set_option maxRecDepth 20000 in
theorem zM_X11_within (l : Launch) : ab_Met l zw_C vwCl zZ_C yX11_within cX11_within 3 (some .boolean) zR_X11_within zt_X11_within := ab_ofRun (G := zg_X11_within) (P := zp_X11_within) rfl zo_X11_within (by decide +kernel) zl_cl zl_lamC zf_X11_ok zs_tabOK zc_X11_ok zs_X11_ok (List.forall_mem_nil _) (List.forall_mem_nil _) zE_X11_within
end
section
/-! small methods with a place to look at *)
-/
def zt_X2_villageAt : ab_T := ab_pure (fun as M N => match as with
  | [.ref r1, .int p, .int h] => (match Nat.beq r1 1 with | true => some (.int (ab_b (0 ≤ (M 1) 7 ∧ p < (M 17) 3 ∧ (M 1) 7 + (M 17) 4 ≤ h))) | false => none)
  | _ => none)
theorem zI_X2_villageAt {as : List Value} {M : ab_M} {N : ab_N} {k : ab_R} (hk : zt_X2_villageAt as M N k) : ∃ (p : Int32) (h : Int32), as = [.ref 1, .int p, .int h] ∧ k (some (.int (ab_b (0 ≤ (M 1) 7 ∧ p < (M 17) 3 ∧ (M 1) 7 + (M 17) 4 ≤ h)))) M N := by
  unfold zt_X2_villageAt ab_pure at hk
  dsimp only at hk
  split at hk
  · rename_i v hv
    split at hv
    · split at hv
      · rename_i hb0
        cases hv
        rw [Nat.eq_of_beq_eq_true hb0]
        exact ⟨_, _, rfl, hk⟩
      · cases hv
    · cases hv
  · exact hk.elim
def zp_X2_villageAt : ab_P := [(0, .aload_n 0, 1, [0], []),
  (1, .getfield 34, 4, [], []),
  (4, .ifCond .lt 32, 7, [36], []),
  (7, .iload_n 1, 8, [1], []),
  (8, .aload_n 0, 9, [0], []),
  (9, .getfield 28, 12, [], []),
  (12, .iconst 3, 13, [], [3]),
  (13, .iaload, 14, [], []),
  (14, .if_icmp .ge 22, 17, [36], []),
  (17, .iload_n 2, 18, [2], []),
  (18, .aload_n 0, 19, [0], []),
  (19, .getfield 34, 22, [], []),
  (22, .aload_n 0, 23, [0], []),
  (23, .getfield 28, 26, [], []),
  (26, .iconst 4, 27, [], [4]),
  (27, .iaload, 28, [], []),
  (28, .iadd, 29, [], []),
  (29, .if_icmp .lt 7, 32, [36], []),
  (32, .iconst 1, 33, [], [1]),
  (33, .goto 4, 36, [37], []),
  (36, .iconst 0, 37, [], [0]),
  (37, .ireturn, 38, [], [])]
theorem zo_X2_villageAt : ab_ok cX2_villageAt zp_X2_villageAt = true := by decide +kernel
def zg_X2_villageAt : ab_G := (zw_C, zs_tab, zf_X2, [], [], [], [])
theorem zm_X2_villageAt : ab_MG zg_X2_villageAt := ab_MGof (List.forall_mem_nil _) (List.forall_mem_nil _)
abbrev zr_X2_villageAt (Q : ab_R) : ab_K := ab_Run zg_X2_villageAt zp_X2_villageAt (some .boolean) 3 Q
set_option maxRecDepth 20000 in
theorem zv_X2_villageAt_0 {Q : ab_R} {M : ab_M} {N : ab_N} (l1 : Int32) (l2 : Int32) (h : ((M 1 7) < 0 → narrow .boolean (.int (0 : Int32)) = .int (0 : Int32) ∧ Q (some (.int (0 : Int32))) M N) ∧ (¬ ((M 1 7) < 0) → vp_in (3 : Int32) 5 ∧ (((M 17 3) ≤ l1 → narrow .boolean (.int (0 : Int32)) = .int (0 : Int32) ∧ Q (some (.int (0 : Int32))) M N) ∧ (¬ ((M 17 3) ≤ l1) → vp_in (4 : Int32) 5 ∧ ((l2 < ((M 1 7) + (M 17 4)) → narrow .boolean (.int (0 : Int32)) = .int (0 : Int32) ∧ Q (some (.int (0 : Int32))) M N) ∧ (¬ (l2 < ((M 1 7) + (M 17 4))) → narrow .boolean (.int (1 : Int32)) = .int (1 : Int32) ∧ Q (some (.int (1 : Int32))) M N)))))) : zr_X2_villageAt Q 0 [some (.ref 1), some (.int l1), some (.int l2)] [] M N := ab_Run_s zm_X2_villageAt (sp := []) 24 h
theorem zH_X2_villageAt (p : Int32) (h : Int32) {M : ab_M} {N : ab_N} {k : ab_R} (hk : k (some (.int (ab_b (0 ≤ (M 1) 7 ∧ p < (M 17) 3 ∧ (M 1) 7 + (M 17) 4 ≤ h)))) M N) : zr_X2_villageAt k 0 [some (.ref 1), some (.int p), some (.int h)] [] M N := by
  refine zv_X2_villageAt_0 _ _ ?_
  (repeat' first | exact ab_vpk (by decide) | exact hp | refine And.intro ?_ ?_ | intro _)
  all_goals first | rfl | exact ab_b_n | (refine ab_qi hk ?_; (try unfold ab_b at *); grind) | grind
abbrev zR_X2_villageAt : Room := { frames := 0, cells := 0, slots := 0, locals := 0 }
theorem zV_X2_villageAt : ab_recv zw_C vwCl RX2 zt_X2_villageAt := fun as M N k h => by
  obtain ⟨_, _, rfl, -⟩ := zI_X2_villageAt h
  exact ⟨_, _, _, _, _, _, rfl, rfl, rfl⟩
theorem zE_X2_villageAt (as : List Value) (M : ab_M) (N : ab_N) (k : ab_R) (hk : zt_X2_villageAt as M N k) : ab_cs as ≤ 3 ∧ zr_X2_villageAt k 0 (ab_en as) [] M N := by
  obtain ⟨p, h, rfl, hk2⟩ := zI_X2_villageAt hk
  exact ⟨Nat.le_of_ble_eq_true rfl, zH_X2_villageAt p h hk2⟩
set_option maxRecDepth 20000 in
theorem zM_X2_villageAt (l : Launch) : ab_Met l zw_C vwCl zZ_C yX2_villageAt cX2_villageAt 3 (some .boolean) zR_X2_villageAt zt_X2_villageAt := ab_ofRun (G := zg_X2_villageAt) (P := zp_X2_villageAt) rfl zo_X2_villageAt (by decide +kernel) zl_cl zl_lamC zf_X2_ok zs_tabOK ab_Cst_nil ab_Sta_nil (List.forall_mem_nil _) (List.forall_mem_nil _) zE_X2_villageAt
abbrev zAwk (kd mo h : Int32) : Prop := ¬ kd = 5 ∨ mo + 2 ≤ 0 ∨ ¬ h - h / (mo + 2) * (mo + 2) = mo + 1
def zt_X5_awake : ab_T := ab_pp (fun as M N => match as with
  | [.ref r1, .int m, .int h] => (match Nat.beq r1 2 with | true => some ((vp_in m 5), (.int (ab_b (zAwk ((M 25) m.toNatClampNeg) ((M 29) m.toNatClampNeg) h)))) | false => none)
  | _ => none)
theorem zI_X5_awake {as : List Value} {M : ab_M} {N : ab_N} {k : ab_R} (hk : zt_X5_awake as M N k) : ∃ (m : Int32) (h : Int32), as = [.ref 2, .int m, .int h] ∧ (vp_in m 5) ∧ k (some (.int (ab_b (zAwk ((M 25) m.toNatClampNeg) ((M 29) m.toNatClampNeg) h)))) M N := by
  unfold zt_X5_awake ab_pp at hk
  dsimp only at hk
  split at hk
  · rename_i v hv
    split at hv
    · split at hv
      · rename_i hb0
        cases hv
        rw [Nat.eq_of_beq_eq_true hb0]
        exact ⟨_, _, rfl, hk⟩
      · cases hv
    · cases hv
  · exact hk.elim
def zp_X5_awake : ab_P := [(0, .aload_n 0, 1, [0], []),
  (1, .getfield 24, 4, [], []),
  (4, .iload_n 1, 5, [1], []),
  (5, .iaload, 6, [], []),
  (6, .iconst 2, 7, [], [2]),
  (7, .iadd, 8, [], []),
  (8, .istore_n 3, 9, [3], []),
  (9, .aload_n 0, 10, [0], []),
  (10, .getfield 9, 13, [], []),
  (13, .iload_n 1, 14, [1], []),
  (14, .iaload, 15, [], []),
  (15, .iconst 5, 16, [], [5]),
  (16, .if_icmp .ne 21, 19, [37], []),
  (19, .iload_n 3, 20, [3], []),
  (20, .ifCond .le 17, 23, [37], []),
  (23, .iload_n 2, 24, [2], []),
  (24, .iload_n 3, 25, [3], []),
  (25, .irem, 26, [], []),
  (26, .aload_n 0, 27, [0], []),
  (27, .getfield 24, 30, [], []),
  (30, .iload_n 1, 31, [1], []),
  (31, .iaload, 32, [], []),
  (32, .iconst 1, 33, [], [1]),
  (33, .iadd, 34, [], []),
  (34, .if_icmp .eq 7, 37, [41], []),
  (37, .iconst 1, 38, [], [1]),
  (38, .goto 4, 41, [42], []),
  (41, .iconst 0, 42, [], [0]),
  (42, .ireturn, 43, [], [])]
theorem zo_X5_awake : ab_ok cX5_awake zp_X5_awake = true := by decide +kernel
def zg_X5_awake : ab_G := (zw_C, zs_tab, zf_X5, [], [], [], [])
theorem zm_X5_awake : ab_MG zg_X5_awake := ab_MGof (List.forall_mem_nil _) (List.forall_mem_nil _)
abbrev zr_X5_awake (Q : ab_R) : ab_K := ab_Run zg_X5_awake zp_X5_awake (some .boolean) 4 Q
set_option maxRecDepth 20000 in
theorem zv_X5_awake_0 {Q : ab_R} {M : ab_M} {N : ab_N} (l1 : Int32) (l2 : Int32) (h : vp_in l1 5 ∧ (vp_in l1 5 ∧ (((M 25 l1.toNatClampNeg) = (5 : Int32) → (((M 29 l1.toNatClampNeg) + (2 : Int32)) ≤ 0 → narrow .boolean (.int (1 : Int32)) = .int (1 : Int32) ∧ Q (some (.int (1 : Int32))) M N) ∧ (¬ (((M 29 l1.toNatClampNeg) + (2 : Int32)) ≤ 0) → ¬ ((M 29 l1.toNatClampNeg) + (2 : Int32)) = 0 ∧ (vp_in l1 5 ∧ (((l2 - l2 / ((M 29 l1.toNatClampNeg) + (2 : Int32)) * ((M 29 l1.toNatClampNeg) + (2 : Int32))) = ((M 29 l1.toNatClampNeg) + (1 : Int32)) → narrow .boolean (.int (0 : Int32)) = .int (0 : Int32) ∧ Q (some (.int (0 : Int32))) M N) ∧ (¬ ((l2 - l2 / ((M 29 l1.toNatClampNeg) + (2 : Int32)) * ((M 29 l1.toNatClampNeg) + (2 : Int32))) = ((M 29 l1.toNatClampNeg) + (1 : Int32))) → narrow .boolean (.int (1 : Int32)) = .int (1 : Int32) ∧ Q (some (.int (1 : Int32))) M N))))) ∧ (¬ ((M 25 l1.toNatClampNeg) = (5 : Int32)) → narrow .boolean (.int (1 : Int32)) = .int (1 : Int32) ∧ Q (some (.int (1 : Int32))) M N)))) : zr_X5_awake Q 0 [some (.ref 2), some (.int l1), some (.int l2)] [] M N := ab_Run_s zm_X5_awake (sp := []) 31 h
theorem zH_X5_awake (m : Int32) (h : Int32) {M : ab_M} {N : ab_N} {k : ab_R} (hp : vp_in m 5) (hk : k (some (.int (ab_b (zAwk ((M 25) m.toNatClampNeg) ((M 29) m.toNatClampNeg) h)))) M N) : zr_X5_awake k 0 [some (.ref 2), some (.int m), some (.int h)] [] M N := by
  refine zv_X5_awake_0 _ _ ?_
  (repeat' first | exact ab_vpk (by decide) | exact hp | refine And.intro ?_ ?_ | intro _)
  all_goals first | rfl | exact ab_b_n | (refine ab_qi hk ?_; (try unfold ab_b at *); grind) | grind
abbrev zR_X5_awake : Room := { frames := 0, cells := 0, slots := 0, locals := 0 }
theorem zV_X5_awake : ab_recv zw_C vwCl RX5 zt_X5_awake := fun as M N k h => by
  obtain ⟨_, _, rfl, -⟩ := zI_X5_awake h
  exact ⟨_, _, _, _, _, _, rfl, rfl, rfl⟩
theorem zE_X5_awake (as : List Value) (M : ab_M) (N : ab_N) (k : ab_R) (hk : zt_X5_awake as M N k) : ab_cs as ≤ 4 ∧ zr_X5_awake k 0 (ab_en as) [] M N := by
  obtain ⟨m, h, rfl, hp, hk2⟩ := zI_X5_awake hk
  exact ⟨Nat.le_of_ble_eq_true rfl, zH_X5_awake m h hp hk2⟩
set_option maxRecDepth 20000 in
theorem zM_X5_awake (l : Launch) : ab_Met l zw_C vwCl zZ_C yX5_awake cX5_awake 4 (some .boolean) zR_X5_awake zt_X5_awake := ab_ofRun (G := zg_X5_awake) (P := zp_X5_awake) rfl zo_X5_awake (by decide +kernel) zl_cl zl_lamC zf_X5_ok zs_tabOK ab_Cst_nil ab_Sta_nil (List.forall_mem_nil _) (List.forall_mem_nil _) zE_X5_awake
def zt_X5_hasOf : ab_T := ab_pp (fun as M N => match as with
  | [.ref r1, .int m, .int w] => (match Nat.beq r1 2 with | true => some ((vp_in m 5), (.int (ab_b (w = 0 ∨ w = (M 25) m.toNatClampNeg ∨ (w = 1 ∧ ((M 25) m.toNatClampNeg = 1 ∨ (M 25) m.toNatClampNeg = 4 ∨ (M 25) m.toNatClampNeg = 5)))))) | false => none)
  | _ => none)
theorem zI_X5_hasOf {as : List Value} {M : ab_M} {N : ab_N} {k : ab_R} (hk : zt_X5_hasOf as M N k) : ∃ (m : Int32) (w : Int32), as = [.ref 2, .int m, .int w] ∧ (vp_in m 5) ∧ k (some (.int (ab_b (w = 0 ∨ w = (M 25) m.toNatClampNeg ∨ (w = 1 ∧ ((M 25) m.toNatClampNeg = 1 ∨ (M 25) m.toNatClampNeg = 4 ∨ (M 25) m.toNatClampNeg = 5)))))) M N := by
  unfold zt_X5_hasOf ab_pp at hk
  dsimp only at hk
  split at hk
  · rename_i v hv
    split at hv
    · split at hv
      · rename_i hb0
        cases hv
        rw [Nat.eq_of_beq_eq_true hb0]
        exact ⟨_, _, rfl, hk⟩
      · cases hv
    · cases hv
  · exact hk.elim
def zp_X5_hasOf : ab_P := [(0, .aload_n 0, 1, [0], []),
  (1, .getfield 9, 4, [], []),
  (4, .iload_n 1, 5, [1], []),
  (5, .iaload, 6, [], []),
  (6, .iconst 1, 7, [], [1]),
  (7, .if_icmp .eq 23, 10, [30], []),
  (10, .aload_n 0, 11, [0], []),
  (11, .getfield 9, 14, [], []),
  (14, .iload_n 1, 15, [1], []),
  (15, .iaload, 16, [], []),
  (16, .iconst 4, 17, [], [4]),
  (17, .if_icmp .eq 13, 20, [30], []),
  (20, .aload_n 0, 21, [0], []),
  (21, .getfield 9, 24, [], []),
  (24, .iload_n 1, 25, [1], []),
  (25, .iaload, 26, [], []),
  (26, .iconst 5, 27, [], [5]),
  (27, .if_icmp .ne 7, 30, [34], []),
  (30, .iconst 1, 31, [], [1]),
  (31, .goto 4, 34, [35], []),
  (34, .iconst 0, 35, [], [0]),
  (35, .istore_n 3, 36, [3], []),
  (36, .iload_n 2, 37, [2], []),
  (37, .ifCond .eq 22, 40, [59], []),
  (40, .iload_n 2, 41, [2], []),
  (41, .aload_n 0, 42, [0], []),
  (42, .getfield 9, 45, [], []),
  (45, .iload_n 1, 46, [1], []),
  (46, .iaload, 47, [], []),
  (47, .if_icmp .eq 12, 50, [59], []),
  (50, .iload_n 2, 51, [2], []),
  (51, .iconst 1, 52, [], [1]),
  (52, .if_icmp .ne 11, 55, [63], []),
  (55, .iload_n 3, 56, [3], []),
  (56, .ifCond .eq 7, 59, [63], []),
  (59, .iconst 1, 60, [], [1]),
  (60, .goto 4, 63, [64], []),
  (63, .iconst 0, 64, [], [0]),
  (64, .ireturn, 65, [], [])]
theorem zo_X5_hasOf : ab_ok cX5_hasOf zp_X5_hasOf = true := by decide +kernel
def zg_X5_hasOf : ab_G := (zw_C, zs_tab, zf_X5, [], [], [], [])
theorem zm_X5_hasOf : ab_MG zg_X5_hasOf := ab_MGof (List.forall_mem_nil _) (List.forall_mem_nil _)
abbrev zr_X5_hasOf (Q : ab_R) : ab_K := ab_Run zg_X5_hasOf zp_X5_hasOf (some .boolean) 4 Q
set_option maxRecDepth 20000 in
theorem zv_X5_hasOf_0 {Q : ab_R} {M : ab_M} {N : ab_N} (l1 : Int32) (l2 : Int32) (h : vp_in l1 5 ∧ (((M 25 l1.toNatClampNeg) = (1 : Int32) → zr_X5_hasOf Q 35 [some (.ref 2), some (.int l1), some (.int l2), none] [.int (1 : Int32)] M N) ∧ (¬ ((M 25 l1.toNatClampNeg) = (1 : Int32)) → vp_in l1 5 ∧ (((M 25 l1.toNatClampNeg) = (4 : Int32) → zr_X5_hasOf Q 35 [some (.ref 2), some (.int l1), some (.int l2), none] [.int (1 : Int32)] M N) ∧ (¬ ((M 25 l1.toNatClampNeg) = (4 : Int32)) → vp_in l1 5 ∧ (((M 25 l1.toNatClampNeg) = (5 : Int32) → zr_X5_hasOf Q 35 [some (.ref 2), some (.int l1), some (.int l2), none] [.int (1 : Int32)] M N) ∧ (¬ ((M 25 l1.toNatClampNeg) = (5 : Int32)) → zr_X5_hasOf Q 35 [some (.ref 2), some (.int l1), some (.int l2), none] [.int (0 : Int32)] M N))))))) : zr_X5_hasOf Q 0 [some (.ref 2), some (.int l1), some (.int l2)] [] M N := ab_Run_s zm_X5_hasOf (sp := [(35, [true, true, true, false])]) 41 h
set_option maxRecDepth 20000 in
theorem zv_X5_hasOf_35 {Q : ab_R} {M : ab_M} {N : ab_N} (l1 : Int32) (l2 : Int32) (s0 : Int32) (h : (l2 = 0 → narrow .boolean (.int (1 : Int32)) = .int (1 : Int32) ∧ Q (some (.int (1 : Int32))) M N) ∧ (¬ (l2 = 0) → vp_in l1 5 ∧ ((l2 = (M 25 l1.toNatClampNeg) → narrow .boolean (.int (1 : Int32)) = .int (1 : Int32) ∧ Q (some (.int (1 : Int32))) M N) ∧ (¬ (l2 = (M 25 l1.toNatClampNeg)) → (l2 = (1 : Int32) → (s0 = 0 → narrow .boolean (.int (0 : Int32)) = .int (0 : Int32) ∧ Q (some (.int (0 : Int32))) M N) ∧ (¬ (s0 = 0) → narrow .boolean (.int (1 : Int32)) = .int (1 : Int32) ∧ Q (some (.int (1 : Int32))) M N)) ∧ (¬ (l2 = (1 : Int32)) → narrow .boolean (.int (0 : Int32)) = .int (0 : Int32) ∧ Q (some (.int (0 : Int32))) M N))))) : zr_X5_hasOf Q 35 [some (.ref 2), some (.int l1), some (.int l2), none] [.int s0] M N := ab_Run_s zm_X5_hasOf (sp := [(35, [true, true, true, false])]) 41 h
theorem zH_X5_hasOf (m : Int32) (w : Int32) {M : ab_M} {N : ab_N} {k : ab_R} (hp : vp_in m 5) (hk : k (some (.int (ab_b (w = 0 ∨ w = (M 25) m.toNatClampNeg ∨ (w = 1 ∧ ((M 25) m.toNatClampNeg = 1 ∨ (M 25) m.toNatClampNeg = 4 ∨ (M 25) m.toNatClampNeg = 5)))))) M N) : zr_X5_hasOf k 0 [some (.ref 2), some (.int m), some (.int w)] [] M N := by
  refine zv_X5_hasOf_0 _ _ ?_
  (repeat' first | exact ab_vpk (by decide) | exact hp | refine And.intro ?_ ?_ | apply zv_X5_hasOf_35 | intro _)
  all_goals first | rfl | exact ab_b_n | (refine ab_qi hk ?_; (try unfold ab_b at *); grind) | grind
abbrev zR_X5_hasOf : Room := { frames := 0, cells := 0, slots := 0, locals := 0 }
theorem zV_X5_hasOf : ab_recv zw_C vwCl RX5 zt_X5_hasOf := fun as M N k h => by
  obtain ⟨_, _, rfl, -⟩ := zI_X5_hasOf h
  exact ⟨_, _, _, _, _, _, rfl, rfl, rfl⟩
theorem zE_X5_hasOf (as : List Value) (M : ab_M) (N : ab_N) (k : ab_R) (hk : zt_X5_hasOf as M N k) : ab_cs as ≤ 4 ∧ zr_X5_hasOf k 0 (ab_en as) [] M N := by
  obtain ⟨m, w, rfl, hp, hk2⟩ := zI_X5_hasOf hk
  exact ⟨Nat.le_of_ble_eq_true rfl, zH_X5_hasOf m w hp hk2⟩
set_option maxRecDepth 20000 in
theorem zM_X5_hasOf (l : Launch) : ab_Met l zw_C vwCl zZ_C yX5_hasOf cX5_hasOf 4 (some .boolean) zR_X5_hasOf zt_X5_hasOf := ab_ofRun (G := zg_X5_hasOf) (P := zp_X5_hasOf) rfl zo_X5_hasOf (by decide +kernel) zl_cl zl_lamC zf_X5_ok zs_tabOK ab_Cst_nil ab_Sta_nil (List.forall_mem_nil _) (List.forall_mem_nil _) zE_X5_hasOf
def zt_X7_holds : ab_T := ab_pure (fun as M N => match as with
  | [.ref r1, .int s, .int i] => (match Nat.beq r1 9 with | true => some (.int (ab_b (0 ≤ s ∧ s < 4 ∧ 0 ≤ i ∧ i < (M 44) s.toNatClampNeg))) | false => none)
  | _ => none)
theorem zI_X7_holds {as : List Value} {M : ab_M} {N : ab_N} {k : ab_R} (hk : zt_X7_holds as M N k) : ∃ (s : Int32) (i : Int32), as = [.ref 9, .int s, .int i] ∧ k (some (.int (ab_b (0 ≤ s ∧ s < 4 ∧ 0 ≤ i ∧ i < (M 44) s.toNatClampNeg)))) M N := by
  unfold zt_X7_holds ab_pure at hk
  dsimp only at hk
  split at hk
  · rename_i v hv
    split at hv
    · split at hv
      · rename_i hb0
        cases hv
        rw [Nat.eq_of_beq_eq_true hb0]
        exact ⟨_, _, rfl, hk⟩
      · cases hv
    · cases hv
  · exact hk.elim
def zp_X7_holds : ab_P := [(0, .aload_n 0, 1, [0], []),
  (1, .iload_n 1, 2, [1], []),
  (2, .invokevirtual 21, 5, [], []),
  (5, .ifCond .eq 21, 8, [26], []),
  (8, .iload_n 2, 9, [2], []),
  (9, .ifCond .lt 17, 12, [26], []),
  (12, .iload_n 2, 13, [2], []),
  (13, .aload_n 0, 14, [0], []),
  (14, .getfield 15, 17, [], []),
  (17, .iload_n 1, 18, [1], []),
  (18, .iaload, 19, [], []),
  (19, .if_icmp .ge 7, 22, [26], []),
  (22, .iconst 1, 23, [], [1]),
  (23, .goto 4, 26, [27], []),
  (26, .iconst 0, 27, [], [0]),
  (27, .ireturn, 28, [], [])]
theorem zo_X7_holds : ab_ok cX7_holds zp_X7_holds = true := by decide +kernel
def zg_X7_holds : ab_G := (zw_C, zs_tab, zf_X7, [], [], [(21, 2, zt_X7_has)], [])
theorem zm_X7_holds : ab_MG zg_X7_holds := ab_MGof (List.forall_mem_cons.mpr ⟨ab_pure_mono _, List.forall_mem_nil _⟩) (List.forall_mem_nil _)
abbrev zr_X7_holds (Q : ab_R) : ab_K := ab_Run zg_X7_holds zp_X7_holds (some .boolean) 3 Q
set_option maxRecDepth 20000 in
theorem zv_X7_holds_0 {Q : ab_R} {M : ab_M} {N : ab_N} (l1 : Int32) (l2 : Int32) (h : ((ab_b (0 ≤ l1 ∧ l1 < 4)) = 0 → narrow .boolean (.int (0 : Int32)) = .int (0 : Int32) ∧ Q (some (.int (0 : Int32))) M N) ∧ (¬ ((ab_b (0 ≤ l1 ∧ l1 < 4)) = 0) → (l2 < 0 → narrow .boolean (.int (0 : Int32)) = .int (0 : Int32) ∧ Q (some (.int (0 : Int32))) M N) ∧ (¬ (l2 < 0) → vp_in l1 4 ∧ (((M 44 l1.toNatClampNeg) ≤ l2 → narrow .boolean (.int (0 : Int32)) = .int (0 : Int32) ∧ Q (some (.int (0 : Int32))) M N) ∧ (¬ ((M 44 l1.toNatClampNeg) ≤ l2) → narrow .boolean (.int (1 : Int32)) = .int (1 : Int32) ∧ Q (some (.int (1 : Int32))) M N))))) : zr_X7_holds Q 0 [some (.ref 9), some (.int l1), some (.int l2)] [] M N := ab_Run_s zm_X7_holds (sp := []) 18 h
theorem zH_X7_holds (s : Int32) (i : Int32) {M : ab_M} {N : ab_N} {k : ab_R} (hk : k (some (.int (ab_b (0 ≤ s ∧ s < 4 ∧ 0 ≤ i ∧ i < (M 44) s.toNatClampNeg)))) M N) : zr_X7_holds k 0 [some (.ref 9), some (.int s), some (.int i)] [] M N := by
  refine zv_X7_holds_0 _ _ ?_
  refine ⟨fun c => ⟨ab_n0, ab_qi hk ?_⟩, fun c => ⟨fun c2 => ⟨ab_n0, ab_qi hk ?_⟩, fun c2 => ⟨ab_vp 4 rfl ?_ ?_, fun c3 => ⟨ab_n0, ab_qi hk ?_⟩, fun c3 => ⟨ab_n1, ab_qi hk ?_⟩⟩⟩⟩ <;> (try unfold ab_b at *) <;> grind
abbrev zR_X7_holds : Room := { frames := 1, cells := 0, slots := 0, locals := 21 }
theorem zV_X7_holds : ab_recv zw_C vwCl RX7 zt_X7_holds := fun as M N k h => by
  obtain ⟨_, _, rfl, -⟩ := zI_X7_holds h
  exact ⟨_, _, _, _, _, _, rfl, rfl, rfl⟩
theorem zE_X7_holds (as : List Value) (M : ab_M) (N : ab_N) (k : ab_R) (hk : zt_X7_holds as M N k) : ab_cs as ≤ 3 ∧ zr_X7_holds k 0 (ab_en as) [] M N := by
  obtain ⟨s, i, rfl, hk2⟩ := zI_X7_holds hk
  exact ⟨Nat.le_of_ble_eq_true rfl, zH_X7_holds s i hk2⟩
set_option maxRecDepth 20000 in
theorem zM_X7_holds (l : Launch) : ab_Met l zw_C vwCl zZ_C yX7_holds cX7_holds 3 (some .boolean) zR_X7_holds zt_X7_holds := ab_ofRun (G := zg_X7_holds) (P := zp_X7_holds) rfl zo_X7_holds (by decide +kernel) zl_cl zl_lamC zf_X7_ok zs_tabOK ab_Cst_nil ab_Sta_nil (List.forall_mem_cons.mpr ⟨ab_callV zZ_C_ok (zM_X7_has l) (ab_in 621 (by decide +kernel) rfl) (ab_in 630 (by decide +kernel) rfl) (ab_in 619 (by decide +kernel) rfl) (ab_in 620 (by decide +kernel) rfl) (ab_in 10 (by decide +kernel) rfl) (by unfold ab_yok; decide +kernel) ⟨rfl, rfl⟩ (by decide) zV_X7_has, List.forall_mem_nil _⟩) (List.forall_mem_nil _) zE_X7_holds
def zt_X7_at : ab_T := ab_pp (fun as M N => match as with
  | [.ref r1, .int s, .int i] => (match Nat.beq r1 9 with | true => some (((0 ≤ s ∧ s < 4 → (M 44) s.toNatClampNeg ≤ 40)), (.int (if 0 ≤ s ∧ s < 4 ∧ 0 ≤ i ∧ i < (M 44) s.toNatClampNeg then (M 45) (s * 40 + i).toNatClampNeg else 0))) | false => none)
  | _ => none)
theorem zI_X7_at {as : List Value} {M : ab_M} {N : ab_N} {k : ab_R} (hk : zt_X7_at as M N k) : ∃ (s : Int32) (i : Int32), as = [.ref 9, .int s, .int i] ∧ ((0 ≤ s ∧ s < 4 → (M 44) s.toNatClampNeg ≤ 40)) ∧ k (some (.int (if 0 ≤ s ∧ s < 4 ∧ 0 ≤ i ∧ i < (M 44) s.toNatClampNeg then (M 45) (s * 40 + i).toNatClampNeg else 0))) M N := by
  unfold zt_X7_at ab_pp at hk
  dsimp only at hk
  split at hk
  · rename_i v hv
    split at hv
    · split at hv
      · rename_i hb0
        cases hv
        rw [Nat.eq_of_beq_eq_true hb0]
        exact ⟨_, _, rfl, hk⟩
      · cases hv
    · cases hv
  · exact hk.elim
def zp_X7_at : ab_P := [(0, .aload_n 0, 1, [0], []),
  (1, .iload_n 1, 2, [1], []),
  (2, .iload_n 2, 3, [2], []),
  (3, .invokevirtual 25, 6, [], []),
  (6, .ifCond .eq 17, 9, [23], []),
  (9, .aload_n 0, 10, [0], []),
  (10, .getfield 18, 13, [], []),
  (13, .iload_n 1, 14, [1], []),
  (14, .bipush 40, 16, [], [40]),
  (16, .imul, 17, [], []),
  (17, .iload_n 2, 18, [2], []),
  (18, .iadd, 19, [], []),
  (19, .iaload, 20, [], []),
  (20, .goto 4, 23, [24], []),
  (23, .iconst 0, 24, [], [0]),
  (24, .ireturn, 25, [], [])]
theorem zo_X7_at : ab_ok cX7_at zp_X7_at = true := by decide +kernel
def zg_X7_at : ab_G := (zw_C, zs_tab, zf_X7, [], [], [(25, 3, zt_X7_holds)], [])
theorem zm_X7_at : ab_MG zg_X7_at := ab_MGof (List.forall_mem_cons.mpr ⟨ab_pure_mono _, List.forall_mem_nil _⟩) (List.forall_mem_nil _)
abbrev zr_X7_at (Q : ab_R) : ab_K := ab_Run zg_X7_at zp_X7_at (some .int) 3 Q
set_option maxRecDepth 20000 in
theorem zv_X7_at_0 {Q : ab_R} {M : ab_M} {N : ab_N} (l1 : Int32) (l2 : Int32) (h : ((ab_b (0 ≤ l1 ∧ l1 < 4 ∧ 0 ≤ l2 ∧ l2 < (M 44) l1.toNatClampNeg)) = 0 → Q (some (.int (0 : Int32))) M N) ∧ (¬ ((ab_b (0 ≤ l1 ∧ l1 < 4 ∧ 0 ≤ l2 ∧ l2 < (M 44) l1.toNatClampNeg)) = 0) → vp_in ((l1 * (40 : Int32)) + l2) 160 ∧ (Q (some (.int (M 45 ((l1 * (40 : Int32)) + l2).toNatClampNeg))) M N))) : zr_X7_at Q 0 [some (.ref 9), some (.int l1), some (.int l2)] [] M N := ab_Run_s zm_X7_at (sp := []) 18 h
theorem zH_X7_at (s : Int32) (i : Int32) {M : ab_M} {N : ab_N} {k : ab_R} (hp : (0 ≤ s ∧ s < 4 → (M 44) s.toNatClampNeg ≤ 40)) (hk : k (some (.int (if 0 ≤ s ∧ s < 4 ∧ 0 ≤ i ∧ i < (M 44) s.toNatClampNeg then (M 45) (s * 40 + i).toNatClampNeg else 0))) M N) : zr_X7_at k 0 [some (.ref 9), some (.int s), some (.int i)] [] M N := by
  refine zv_X7_at_0 _ _ ?_
  refine ⟨fun c => ab_qi hk ?_, fun c => ⟨ab_vp 160 rfl ?_ ?_, ab_qi hk ?_⟩⟩ <;> (try unfold ab_b at *) <;> grind
abbrev zR_X7_at : Room := { frames := 2, cells := 0, slots := 0, locals := 43 }
theorem zV_X7_at : ab_recv zw_C vwCl RX7 zt_X7_at := fun as M N k h => by
  obtain ⟨_, _, rfl, -⟩ := zI_X7_at h
  exact ⟨_, _, _, _, _, _, rfl, rfl, rfl⟩
theorem zE_X7_at (as : List Value) (M : ab_M) (N : ab_N) (k : ab_R) (hk : zt_X7_at as M N k) : ab_cs as ≤ 3 ∧ zr_X7_at k 0 (ab_en as) [] M N := by
  obtain ⟨s, i, rfl, hp, hk2⟩ := zI_X7_at hk
  exact ⟨Nat.le_of_ble_eq_true rfl, zH_X7_at s i hp hk2⟩
set_option maxRecDepth 20000 in
theorem zM_X7_at (l : Launch) : ab_Met l zw_C vwCl zZ_C yX7_at cX7_at 3 (some .int) zR_X7_at zt_X7_at := ab_ofRun (G := zg_X7_at) (P := zp_X7_at) rfl zo_X7_at (by decide +kernel) zl_cl zl_lamC zf_X7_ok zs_tabOK ab_Cst_nil ab_Sta_nil (List.forall_mem_cons.mpr ⟨ab_callV zZ_C_ok (zM_X7_holds l) (ab_in 629 (by decide +kernel) rfl) (ab_in 626 (by decide +kernel) rfl) (ab_in 627 (by decide +kernel) rfl) (ab_in 628 (by decide +kernel) rfl) (ab_in 10 (by decide +kernel) rfl) (by unfold ab_yok; decide +kernel) ⟨rfl, rfl⟩ (by decide) zV_X7_holds, List.forall_mem_nil _⟩) (List.forall_mem_nil _) zE_X7_at
def zt_X9_truth : ab_T := ab_pure (fun as M N => match as with
  | [.int z] => some (.int (if z = 0 then 0 else 1))
  | _ => none)
theorem zI_X9_truth {as : List Value} {M : ab_M} {N : ab_N} {k : ab_R} (hk : zt_X9_truth as M N k) : ∃ (z : Int32), as = [.int z] ∧ k (some (.int (if z = 0 then 0 else 1))) M N := by
  unfold zt_X9_truth ab_pure at hk
  dsimp only at hk
  split at hk
  · rename_i v hv
    split at hv
    · cases hv
      exact ⟨_, rfl, hk⟩
    · cases hv
  · exact hk.elim
def zp_X9_truth : ab_P := [(0, .iload_n 0, 1, [0], []),
  (1, .ifCond .eq 7, 4, [8], []),
  (4, .iconst 1, 5, [], [1]),
  (5, .goto 4, 8, [9], []),
  (8, .iconst 0, 9, [], [0]),
  (9, .ireturn, 10, [], [])]
theorem zo_X9_truth : ab_ok cX9_truth zp_X9_truth = true := by decide +kernel
def zg_X9_truth : ab_G := (zw_C, zs_tab, zf_X9, [], [], [], [])
theorem zm_X9_truth : ab_MG zg_X9_truth := ab_MGof (List.forall_mem_nil _) (List.forall_mem_nil _)
abbrev zr_X9_truth (Q : ab_R) : ab_K := ab_Run zg_X9_truth zp_X9_truth (some .int) 1 Q
set_option maxRecDepth 20000 in
theorem zv_X9_truth_0 {Q : ab_R} {M : ab_M} {N : ab_N} (l0 : Int32) (h : (l0 = 0 → Q (some (.int (0 : Int32))) M N) ∧ (¬ (l0 = 0) → Q (some (.int (1 : Int32))) M N)) : zr_X9_truth Q 0 [some (.int l0)] [] M N := ab_Run_s zm_X9_truth (sp := []) 8 h
theorem zH_X9_truth (z : Int32) {M : ab_M} {N : ab_N} {k : ab_R} (hk : k (some (.int (if z = 0 then 0 else 1))) M N) : zr_X9_truth k 0 [some (.int z)] [] M N := by
  refine zv_X9_truth_0 _ ?_
  (repeat' first | exact ab_vpk (by decide) | exact hp | refine And.intro ?_ ?_ | intro _)
  all_goals first | rfl | exact ab_b_n | (refine ab_qi hk ?_; (try unfold ab_b at *); grind) | grind
abbrev zR_X9_truth : Room := { frames := 0, cells := 0, slots := 0, locals := 0 }
theorem zE_X9_truth (as : List Value) (M : ab_M) (N : ab_N) (k : ab_R) (hk : zt_X9_truth as M N k) : ab_cs as ≤ 1 ∧ zr_X9_truth k 0 (ab_en as) [] M N := by
  obtain ⟨z, rfl, hk2⟩ := zI_X9_truth hk
  exact ⟨Nat.le_of_ble_eq_true rfl, zH_X9_truth z hk2⟩
set_option maxRecDepth 20000 in
theorem zM_X9_truth (l : Launch) : ab_Met l zw_C vwCl zZ_C yX9_truth cX9_truth 1 (some .int) zR_X9_truth zt_X9_truth := ab_ofRun (G := zg_X9_truth) (P := zp_X9_truth) rfl zo_X9_truth (by decide +kernel) zl_cl zl_lamC zf_X9_ok zs_tabOK ab_Cst_nil ab_Sta_nil (List.forall_mem_nil _) (List.forall_mem_nil _) zE_X9_truth
def zj (c a b : Int32) : Int32 := if c = -9 then ab_b (¬ a = 0 ∨ ¬ b = 0) else if c = -10 then ab_b (¬ a = 0 ∧ ¬ b = 0) else if c = -11 then ab_b (a < b) else if c = -12 then ab_b (a = b) else if c = -13 then a + b else if c = -14 then a - b else a * b
def zt_X9_joined : ab_T := ab_pure (fun as M N => match as with
  | [.int c, .int a, .int b] => some (.int (zj c a b))
  | _ => none)
theorem zI_X9_joined {as : List Value} {M : ab_M} {N : ab_N} {k : ab_R} (hk : zt_X9_joined as M N k) : ∃ (c : Int32) (a : Int32) (b : Int32), as = [.int c, .int a, .int b] ∧ k (some (.int (zj c a b))) M N := by
  unfold zt_X9_joined ab_pure at hk
  dsimp only at hk
  split at hk
  · rename_i v hv
    split at hv
    · cases hv
      exact ⟨_, _, _, rfl, hk⟩
    · cases hv
  · exact hk.elim
def zp_X9_joined : ab_P := [(0, .iload_n 0, 1, [0], []),
  (1, .tableswitch 97 (-14) (-9) #[93, 89, 78, 67, 53, 39], 40, [98, 94, 90, 79, 68, 54, 40], [(-14), (-13), (-12), (-11), (-10), (-9)]),
  (40, .iload_n 1, 41, [1], []),
  (41, .ifCond .ne 7, 44, [48], []),
  (44, .iload_n 2, 45, [2], []),
  (45, .ifCond .eq 7, 48, [52], []),
  (48, .iconst 1, 49, [], [1]),
  (49, .goto 4, 52, [53], []),
  (52, .iconst 0, 53, [], [0]),
  (53, .ireturn, 54, [], []),
  (54, .iload_n 1, 55, [1], []),
  (55, .ifCond .eq 11, 58, [66], []),
  (58, .iload_n 2, 59, [2], []),
  (59, .ifCond .eq 7, 62, [66], []),
  (62, .iconst 1, 63, [], [1]),
  (63, .goto 4, 66, [67], []),
  (66, .iconst 0, 67, [], [0]),
  (67, .ireturn, 68, [], []),
  (68, .iload_n 1, 69, [1], []),
  (69, .iload_n 2, 70, [2], []),
  (70, .if_icmp .ge 7, 73, [77], []),
  (73, .iconst 1, 74, [], [1]),
  (74, .goto 4, 77, [78], []),
  (77, .iconst 0, 78, [], [0]),
  (78, .ireturn, 79, [], []),
  (79, .iload_n 1, 80, [1], []),
  (80, .iload_n 2, 81, [2], []),
  (81, .if_icmp .ne 7, 84, [88], []),
  (84, .iconst 1, 85, [], [1]),
  (85, .goto 4, 88, [89], []),
  (88, .iconst 0, 89, [], [0]),
  (89, .ireturn, 90, [], []),
  (90, .iload_n 1, 91, [1], []),
  (91, .iload_n 2, 92, [2], []),
  (92, .iadd, 93, [], []),
  (93, .ireturn, 94, [], []),
  (94, .iload_n 1, 95, [1], []),
  (95, .iload_n 2, 96, [2], []),
  (96, .isub, 97, [], []),
  (97, .ireturn, 98, [], []),
  (98, .iload_n 1, 99, [1], []),
  (99, .iload_n 2, 100, [2], []),
  (100, .imul, 101, [], []),
  (101, .ireturn, 102, [], [])]
theorem zo_X9_joined : ab_ok cX9_joined zp_X9_joined = true := by decide +kernel
def zg_X9_joined : ab_G := (zw_C, zs_tab, zf_X9, [], [], [], [])
theorem zm_X9_joined : ab_MG zg_X9_joined := ab_MGof (List.forall_mem_nil _) (List.forall_mem_nil _)
abbrev zr_X9_joined (Q : ab_R) : ab_K := ab_Run zg_X9_joined zp_X9_joined (some .int) 3 Q
set_option maxRecDepth 20000 in
theorem zv_X9_joined_0 {Q : ab_R} {M : ab_M} {N : ab_N} (l0 : Int32) (l1 : Int32) (l2 : Int32) (h : (l0 = (-14) → Q (some (.int (l1 - l2))) M N) ∧ (¬ l0 = (-14) → (l0 = (-13) → Q (some (.int (l1 + l2))) M N) ∧ (¬ l0 = (-13) → (l0 = (-12) → (l1 = l2 → Q (some (.int (1 : Int32))) M N) ∧ (¬ (l1 = l2) → Q (some (.int (0 : Int32))) M N)) ∧ (¬ l0 = (-12) → (l0 = (-11) → (l2 ≤ l1 → Q (some (.int (0 : Int32))) M N) ∧ (¬ (l2 ≤ l1) → Q (some (.int (1 : Int32))) M N)) ∧ (¬ l0 = (-11) → (l0 = (-10) → (l1 = 0 → Q (some (.int (0 : Int32))) M N) ∧ (¬ (l1 = 0) → (l2 = 0 → Q (some (.int (0 : Int32))) M N) ∧ (¬ (l2 = 0) → Q (some (.int (1 : Int32))) M N))) ∧ (¬ l0 = (-10) → (l0 = (-9) → (l1 = 0 → (l2 = 0 → Q (some (.int (0 : Int32))) M N) ∧ (¬ (l2 = 0) → Q (some (.int (1 : Int32))) M N)) ∧ (¬ (l1 = 0) → Q (some (.int (1 : Int32))) M N)) ∧ (¬ l0 = (-9) → Q (some (.int (l1 * l2))) M N))))))) : zr_X9_joined Q 0 [some (.int l0), some (.int l1), some (.int l2)] [] M N := ab_Run_s zm_X9_joined (sp := []) 46 h
theorem zH_X9_joined (c : Int32) (a : Int32) (b : Int32) {M : ab_M} {N : ab_N} {k : ab_R} (hk : k (some (.int (zj c a b))) M N) : zr_X9_joined k 0 [some (.int c), some (.int a), some (.int b)] [] M N := by
  refine zv_X9_joined_0 _ _ _ ?_
  (repeat' first | exact ab_vpk (by decide) | exact hp | refine And.intro ?_ ?_ | intro _)
  all_goals first | rfl | exact ab_b_n | (refine ab_qi hk ?_; (try unfold ab_b at *); grind [ab_b, zj]) | grind
abbrev zR_X9_joined : Room := { frames := 0, cells := 0, slots := 0, locals := 0 }
theorem zE_X9_joined (as : List Value) (M : ab_M) (N : ab_N) (k : ab_R) (hk : zt_X9_joined as M N k) : ab_cs as ≤ 3 ∧ zr_X9_joined k 0 (ab_en as) [] M N := by
  obtain ⟨c, a, b, rfl, hk2⟩ := zI_X9_joined hk
  exact ⟨Nat.le_of_ble_eq_true rfl, zH_X9_joined c a b hk2⟩
set_option maxRecDepth 20000 in
theorem zM_X9_joined (l : Launch) : ab_Met l zw_C vwCl zZ_C yX9_joined cX9_joined 3 (some .int) zR_X9_joined zt_X9_joined := ab_ofRun (G := zg_X9_joined) (P := zp_X9_joined) rfl zo_X9_joined (by decide +kernel) zl_cl zl_lamC zf_X9_ok zs_tabOK ab_Cst_nil ab_Sta_nil (List.forall_mem_nil _) (List.forall_mem_nil _) zE_X9_joined
def zt_X10_lookedAt : ab_T := ab_pp (fun as M N => match as with
  | [.ref r1, .int p, .int h] => (match Nat.beq r1 6 with | true => some ((vp_in (h * 8 + p) 96), (.int (ab_b (¬ (M 38) (h * 8 + p).toNatClampNeg = 0)))) | false => none)
  | _ => none)
theorem zI_X10_lookedAt {as : List Value} {M : ab_M} {N : ab_N} {k : ab_R} (hk : zt_X10_lookedAt as M N k) : ∃ (p : Int32) (h : Int32), as = [.ref 6, .int p, .int h] ∧ (vp_in (h * 8 + p) 96) ∧ k (some (.int (ab_b (¬ (M 38) (h * 8 + p).toNatClampNeg = 0)))) M N := by
  unfold zt_X10_lookedAt ab_pp at hk
  dsimp only at hk
  split at hk
  · rename_i v hv
    split at hv
    · split at hv
      · rename_i hb0
        cases hv
        rw [Nat.eq_of_beq_eq_true hb0]
        exact ⟨_, _, rfl, hk⟩
      · cases hv
    · cases hv
  · exact hk.elim
def zp_X10_lookedAt : ab_P := [(0, .aload_n 0, 1, [0], []),
  (1, .getfield 15, 4, [], []),
  (4, .iload_n 2, 5, [2], []),
  (5, .bipush 8, 7, [], [8]),
  (7, .imul, 8, [], []),
  (8, .iload_n 1, 9, [1], []),
  (9, .iadd, 10, [], []),
  (10, .iaload, 11, [], []),
  (11, .ifCond .eq 7, 14, [18], []),
  (14, .iconst 1, 15, [], [1]),
  (15, .goto 4, 18, [19], []),
  (18, .iconst 0, 19, [], [0]),
  (19, .ireturn, 20, [], [])]
theorem zo_X10_lookedAt : ab_ok cX10_lookedAt zp_X10_lookedAt = true := by decide +kernel
def zg_X10_lookedAt : ab_G := (zw_C, zs_tab, zf_X10, [], [], [], [])
theorem zm_X10_lookedAt : ab_MG zg_X10_lookedAt := ab_MGof (List.forall_mem_nil _) (List.forall_mem_nil _)
abbrev zr_X10_lookedAt (Q : ab_R) : ab_K := ab_Run zg_X10_lookedAt zp_X10_lookedAt (some .boolean) 3 Q
set_option maxRecDepth 20000 in
theorem zv_X10_lookedAt_0 {Q : ab_R} {M : ab_M} {N : ab_N} (l1 : Int32) (l2 : Int32) (h : vp_in ((l2 * (8 : Int32)) + l1) 96 ∧ (((M 38 ((l2 * (8 : Int32)) + l1).toNatClampNeg) = 0 → narrow .boolean (.int (0 : Int32)) = .int (0 : Int32) ∧ Q (some (.int (0 : Int32))) M N) ∧ (¬ ((M 38 ((l2 * (8 : Int32)) + l1).toNatClampNeg) = 0) → narrow .boolean (.int (1 : Int32)) = .int (1 : Int32) ∧ Q (some (.int (1 : Int32))) M N))) : zr_X10_lookedAt Q 0 [some (.ref 6), some (.int l1), some (.int l2)] [] M N := ab_Run_s zm_X10_lookedAt (sp := []) 15 h
theorem zH_X10_lookedAt (p : Int32) (h : Int32) {M : ab_M} {N : ab_N} {k : ab_R} (hp : vp_in (h * 8 + p) 96) (hk : k (some (.int (ab_b (¬ (M 38) (h * 8 + p).toNatClampNeg = 0)))) M N) : zr_X10_lookedAt k 0 [some (.ref 6), some (.int p), some (.int h)] [] M N := by
  refine zv_X10_lookedAt_0 _ _ ?_
  (repeat' first | exact ab_vpk (by decide) | exact hp | refine And.intro ?_ ?_ | intro _)
  all_goals first | rfl | exact ab_b_n | (refine ab_qi hk ?_; (try unfold ab_b at *); grind) | grind
abbrev zR_X10_lookedAt : Room := { frames := 0, cells := 0, slots := 0, locals := 0 }
theorem zV_X10_lookedAt : ab_recv zw_C vwCl RX10 zt_X10_lookedAt := fun as M N k h => by
  obtain ⟨_, _, rfl, -⟩ := zI_X10_lookedAt h
  exact ⟨_, _, _, _, _, _, rfl, rfl, rfl⟩
theorem zE_X10_lookedAt (as : List Value) (M : ab_M) (N : ab_N) (k : ab_R) (hk : zt_X10_lookedAt as M N k) : ab_cs as ≤ 3 ∧ zr_X10_lookedAt k 0 (ab_en as) [] M N := by
  obtain ⟨p, h, rfl, hp, hk2⟩ := zI_X10_lookedAt hk
  exact ⟨Nat.le_of_ble_eq_true rfl, zH_X10_lookedAt p h hp hk2⟩
set_option maxRecDepth 20000 in
theorem zM_X10_lookedAt (l : Launch) : ab_Met l zw_C vwCl zZ_C yX10_lookedAt cX10_lookedAt 3 (some .boolean) zR_X10_lookedAt zt_X10_lookedAt := ab_ofRun (G := zg_X10_lookedAt) (P := zp_X10_lookedAt) rfl zo_X10_lookedAt (by decide +kernel) zl_cl zl_lamC zf_X10_ok zs_tabOK ab_Cst_nil ab_Sta_nil (List.forall_mem_nil _) (List.forall_mem_nil _) zE_X10_lookedAt
def zt_X10_looksAt : ab_T := ab_pp (fun as M N => match as with
  | [.ref r1, .int w, .int p, .int h] => (match Nat.beq r1 6 with | true => some ((vp_in (h * 8 + p) 96), (.int (ab_b (¬ ((M 38) (h * 8 + p).toNatClampNeg >>> (w &&& 31)) &&& 1 = 0)))) | false => none)
  | _ => none)
theorem zI_X10_looksAt {as : List Value} {M : ab_M} {N : ab_N} {k : ab_R} (hk : zt_X10_looksAt as M N k) : ∃ (w : Int32) (p : Int32) (h : Int32), as = [.ref 6, .int w, .int p, .int h] ∧ (vp_in (h * 8 + p) 96) ∧ k (some (.int (ab_b (¬ ((M 38) (h * 8 + p).toNatClampNeg >>> (w &&& 31)) &&& 1 = 0)))) M N := by
  unfold zt_X10_looksAt ab_pp at hk
  dsimp only at hk
  split at hk
  · rename_i v hv
    split at hv
    · split at hv
      · rename_i hb0
        cases hv
        rw [Nat.eq_of_beq_eq_true hb0]
        exact ⟨_, _, _, rfl, hk⟩
      · cases hv
    · cases hv
  · exact hk.elim
def zp_X10_looksAt : ab_P := [(0, .aload_n 0, 1, [0], []),
  (1, .getfield 15, 4, [], []),
  (4, .iload_n 3, 5, [3], []),
  (5, .bipush 8, 7, [], [8]),
  (7, .imul, 8, [], []),
  (8, .iload_n 2, 9, [2], []),
  (9, .iadd, 10, [], []),
  (10, .iaload, 11, [], []),
  (11, .iload_n 1, 12, [1], []),
  (12, .ishr, 13, [], []),
  (13, .iconst 1, 14, [], [1]),
  (14, .iand, 15, [], []),
  (15, .ifCond .eq 7, 18, [22], []),
  (18, .iconst 1, 19, [], [1]),
  (19, .goto 4, 22, [23], []),
  (22, .iconst 0, 23, [], [0]),
  (23, .ireturn, 24, [], [])]
theorem zo_X10_looksAt : ab_ok cX10_looksAt zp_X10_looksAt = true := by decide +kernel
def zg_X10_looksAt : ab_G := (zw_C, zs_tab, zf_X10, [], [], [], [])
theorem zm_X10_looksAt : ab_MG zg_X10_looksAt := ab_MGof (List.forall_mem_nil _) (List.forall_mem_nil _)
abbrev zr_X10_looksAt (Q : ab_R) : ab_K := ab_Run zg_X10_looksAt zp_X10_looksAt (some .boolean) 4 Q
set_option maxRecDepth 20000 in
theorem zv_X10_looksAt_0 {Q : ab_R} {M : ab_M} {N : ab_N} (l1 : Int32) (l2 : Int32) (l3 : Int32) (h : vp_in ((l3 * (8 : Int32)) + l2) 96 ∧ (((((M 38 ((l3 * (8 : Int32)) + l2).toNatClampNeg) >>> (l1 &&& 31)) &&& (1 : Int32)) = 0 → narrow .boolean (.int (0 : Int32)) = .int (0 : Int32) ∧ Q (some (.int (0 : Int32))) M N) ∧ (¬ ((((M 38 ((l3 * (8 : Int32)) + l2).toNatClampNeg) >>> (l1 &&& 31)) &&& (1 : Int32)) = 0) → narrow .boolean (.int (1 : Int32)) = .int (1 : Int32) ∧ Q (some (.int (1 : Int32))) M N))) : zr_X10_looksAt Q 0 [some (.ref 6), some (.int l1), some (.int l2), some (.int l3)] [] M N := ab_Run_s zm_X10_looksAt (sp := []) 19 h
theorem zH_X10_looksAt (w : Int32) (p : Int32) (h : Int32) {M : ab_M} {N : ab_N} {k : ab_R} (hp : vp_in (h * 8 + p) 96) (hk : k (some (.int (ab_b (¬ ((M 38) (h * 8 + p).toNatClampNeg >>> (w &&& 31)) &&& 1 = 0)))) M N) : zr_X10_looksAt k 0 [some (.ref 6), some (.int w), some (.int p), some (.int h)] [] M N := by
  refine zv_X10_looksAt_0 _ _ _ ?_
  (repeat' first | exact ab_vpk (by decide) | exact hp | refine And.intro ?_ ?_ | intro _)
  all_goals first | rfl | exact ab_b_n | (refine ab_qi hk ?_; (try unfold ab_b at *); grind) | grind
abbrev zR_X10_looksAt : Room := { frames := 0, cells := 0, slots := 0, locals := 0 }
theorem zV_X10_looksAt : ab_recv zw_C vwCl RX10 zt_X10_looksAt := fun as M N k h => by
  obtain ⟨_, _, _, rfl, -⟩ := zI_X10_looksAt h
  exact ⟨_, _, _, _, _, _, rfl, rfl, rfl⟩
theorem zE_X10_looksAt (as : List Value) (M : ab_M) (N : ab_N) (k : ab_R) (hk : zt_X10_looksAt as M N k) : ab_cs as ≤ 4 ∧ zr_X10_looksAt k 0 (ab_en as) [] M N := by
  obtain ⟨w, p, h, rfl, hp, hk2⟩ := zI_X10_looksAt hk
  exact ⟨Nat.le_of_ble_eq_true rfl, zH_X10_looksAt w p h hp hk2⟩
set_option maxRecDepth 20000 in
theorem zM_X10_looksAt (l : Launch) : ab_Met l zw_C vwCl zZ_C yX10_looksAt cX10_looksAt 4 (some .boolean) zR_X10_looksAt zt_X10_looksAt := ab_ofRun (G := zg_X10_looksAt) (P := zp_X10_looksAt) rfl zo_X10_looksAt (by decide +kernel) zl_cl zl_lamC zf_X10_ok zs_tabOK ab_Cst_nil ab_Sta_nil (List.forall_mem_nil _) (List.forall_mem_nil _) zE_X10_looksAt
def zt_X10_paceOf : ab_T := ab_pure (fun as M N => match as with
  | [.ref r1, .int w] => (match Nat.beq r1 6 with | true => some (.int (if 0 ≤ w ∧ w < (M 2) 6 ∧ w < 5 then (M 28) w.toNatClampNeg else if w = 7 then 1 else 0)) | false => none)
  | _ => none)
theorem zI_X10_paceOf {as : List Value} {M : ab_M} {N : ab_N} {k : ab_R} (hk : zt_X10_paceOf as M N k) : ∃ (w : Int32), as = [.ref 6, .int w] ∧ k (some (.int (if 0 ≤ w ∧ w < (M 2) 6 ∧ w < 5 then (M 28) w.toNatClampNeg else if w = 7 then 1 else 0))) M N := by
  unfold zt_X10_paceOf ab_pure at hk
  dsimp only at hk
  split at hk
  · rename_i v hv
    split at hv
    · split at hv
      · rename_i hb0
        cases hv
        rw [Nat.eq_of_beq_eq_true hb0]
        exact ⟨_, rfl, hk⟩
      · cases hv
    · cases hv
  · exact hk.elim
def zp_X10_paceOf : ab_P := [(0, .aload_n 0, 1, [0], []),
  (1, .getfield 48, 4, [], []),
  (4, .iload_n 1, 5, [1], []),
  (5, .invokevirtual 56, 8, [], []),
  (8, .ifCond .eq 15, 11, [23], []),
  (11, .aload_n 0, 12, [0], []),
  (12, .getfield 48, 15, [], []),
  (15, .getfield 62, 18, [], []),
  (18, .iload_n 1, 19, [1], []),
  (19, .iaload, 20, [], []),
  (20, .goto 14, 23, [34], []),
  (23, .iload_n 1, 24, [1], []),
  (24, .bipush 7, 26, [], [7]),
  (26, .if_icmp .ne 7, 29, [33], []),
  (29, .iconst 1, 30, [], [1]),
  (30, .goto 4, 33, [34], []),
  (33, .iconst 0, 34, [], [0]),
  (34, .ireturn, 35, [], [])]
theorem zo_X10_paceOf : ab_ok cX10_paceOf zp_X10_paceOf = true := by decide +kernel
def zg_X10_paceOf : ab_G := (zw_C, zs_tab, zf_X10, [], [], [(56, 2, zt_X5_has)], [])
theorem zm_X10_paceOf : ab_MG zg_X10_paceOf := ab_MGof (List.forall_mem_cons.mpr ⟨ab_pure_mono _, List.forall_mem_nil _⟩) (List.forall_mem_nil _)
abbrev zr_X10_paceOf (Q : ab_R) : ab_K := ab_Run zg_X10_paceOf zp_X10_paceOf (some .int) 2 Q
set_option maxRecDepth 20000 in
theorem zv_X10_paceOf_0 {Q : ab_R} {M : ab_M} {N : ab_N} (l1 : Int32) (h : ((ab_b (0 ≤ l1 ∧ l1 < (M 2) 6 ∧ l1 < 5)) = 0 → (l1 = (7 : Int32) → Q (some (.int (1 : Int32))) M N) ∧ (¬ (l1 = (7 : Int32)) → Q (some (.int (0 : Int32))) M N)) ∧ (¬ ((ab_b (0 ≤ l1 ∧ l1 < (M 2) 6 ∧ l1 < 5)) = 0) → vp_in l1 5 ∧ (Q (some (.int (M 28 l1.toNatClampNeg))) M N))) : zr_X10_paceOf Q 0 [some (.ref 6), some (.int l1)] [] M N := ab_Run_s zm_X10_paceOf (sp := []) 20 h
theorem zH_X10_paceOf (w : Int32) {M : ab_M} {N : ab_N} {k : ab_R} (hk : k (some (.int (if 0 ≤ w ∧ w < (M 2) 6 ∧ w < 5 then (M 28) w.toNatClampNeg else if w = 7 then 1 else 0))) M N) : zr_X10_paceOf k 0 [some (.ref 6), some (.int w)] [] M N := by
  refine zv_X10_paceOf_0 _ ?_
  refine ⟨fun c => ⟨fun c2 => ab_qi hk ?_, fun c2 => ab_qi hk ?_⟩, fun c => ⟨ab_vp 5 rfl ?_ ?_, ab_qi hk ?_⟩⟩ <;> (try unfold ab_b at *) <;> grind
abbrev zR_X10_paceOf : Room := { frames := 1, cells := 0, slots := 0, locals := 21 }
theorem zV_X10_paceOf : ab_recv zw_C vwCl RX10 zt_X10_paceOf := fun as M N k h => by
  obtain ⟨_, rfl, -⟩ := zI_X10_paceOf h
  exact ⟨_, _, _, _, _, _, rfl, rfl, rfl⟩
theorem zE_X10_paceOf (as : List Value) (M : ab_M) (N : ab_N) (k : ab_R) (hk : zt_X10_paceOf as M N k) : ab_cs as ≤ 2 ∧ zr_X10_paceOf k 0 (ab_en as) [] M N := by
  obtain ⟨w, rfl, hk2⟩ := zI_X10_paceOf hk
  exact ⟨Nat.le_of_ble_eq_true rfl, zH_X10_paceOf w hk2⟩
set_option maxRecDepth 20000 in
theorem zM_X10_paceOf (l : Launch) : ab_Met l zw_C vwCl zZ_C yX10_paceOf cX10_paceOf 2 (some .int) zR_X10_paceOf zt_X10_paceOf := ab_ofRun (G := zg_X10_paceOf) (P := zp_X10_paceOf) rfl zo_X10_paceOf (by decide +kernel) zl_cl zl_lamC zf_X10_ok zs_tabOK ab_Cst_nil ab_Sta_nil (List.forall_mem_cons.mpr ⟨ab_callV zZ_C_ok (zM_X5_has l) (ab_in 642 (by decide +kernel) rfl) (ab_in 758 (by decide +kernel) rfl) (ab_in 640 (by decide +kernel) rfl) (ab_in 641 (by decide +kernel) rfl) (ab_in 3 (by decide +kernel) rfl) (by unfold ab_yok; decide +kernel) ⟨rfl, rfl⟩ (by decide) zV_X5_has, List.forall_mem_nil _⟩) (List.forall_mem_nil _) zE_X10_paceOf
def zt_X10_sinceOf : ab_T := ab_pp (fun as M N => match as with
  | [.ref r1, .int p, .int h] => (match Nat.beq r1 6 with | true => some ((vp_in (h * 8 + p) 96), (.int ((M 39) (h * 8 + p).toNatClampNeg))) | false => none)
  | _ => none)
theorem zI_X10_sinceOf {as : List Value} {M : ab_M} {N : ab_N} {k : ab_R} (hk : zt_X10_sinceOf as M N k) : ∃ (p : Int32) (h : Int32), as = [.ref 6, .int p, .int h] ∧ (vp_in (h * 8 + p) 96) ∧ k (some (.int ((M 39) (h * 8 + p).toNatClampNeg))) M N := by
  unfold zt_X10_sinceOf ab_pp at hk
  dsimp only at hk
  split at hk
  · rename_i v hv
    split at hv
    · split at hv
      · rename_i hb0
        cases hv
        rw [Nat.eq_of_beq_eq_true hb0]
        exact ⟨_, _, rfl, hk⟩
      · cases hv
    · cases hv
  · exact hk.elim
def zp_X10_sinceOf : ab_P := [(0, .aload_n 0, 1, [0], []),
  (1, .getfield 18, 4, [], []),
  (4, .iload_n 2, 5, [2], []),
  (5, .bipush 8, 7, [], [8]),
  (7, .imul, 8, [], []),
  (8, .iload_n 1, 9, [1], []),
  (9, .iadd, 10, [], []),
  (10, .iaload, 11, [], []),
  (11, .ireturn, 12, [], [])]
theorem zo_X10_sinceOf : ab_ok cX10_sinceOf zp_X10_sinceOf = true := by decide +kernel
def zg_X10_sinceOf : ab_G := (zw_C, zs_tab, zf_X10, [], [], [], [])
theorem zm_X10_sinceOf : ab_MG zg_X10_sinceOf := ab_MGof (List.forall_mem_nil _) (List.forall_mem_nil _)
abbrev zr_X10_sinceOf (Q : ab_R) : ab_K := ab_Run zg_X10_sinceOf zp_X10_sinceOf (some .int) 3 Q
set_option maxRecDepth 20000 in
theorem zv_X10_sinceOf_0 {Q : ab_R} {M : ab_M} {N : ab_N} (l1 : Int32) (l2 : Int32) (h : vp_in ((l2 * (8 : Int32)) + l1) 96 ∧ (Q (some (.int (M 39 ((l2 * (8 : Int32)) + l1).toNatClampNeg))) M N)) : zr_X10_sinceOf Q 0 [some (.ref 6), some (.int l1), some (.int l2)] [] M N := ab_Run_s zm_X10_sinceOf (sp := []) 11 h
theorem zH_X10_sinceOf (p : Int32) (h : Int32) {M : ab_M} {N : ab_N} {k : ab_R} (hp : vp_in (h * 8 + p) 96) (hk : k (some (.int ((M 39) (h * 8 + p).toNatClampNeg))) M N) : zr_X10_sinceOf k 0 [some (.ref 6), some (.int p), some (.int h)] [] M N := by
  refine zv_X10_sinceOf_0 _ _ ?_
  (repeat' first | exact ab_vpk (by decide) | exact hp | refine And.intro ?_ ?_ | intro _)
  all_goals first | rfl | exact ab_b_n | (refine ab_qi hk ?_; (try unfold ab_b at *); grind) | grind
abbrev zR_X10_sinceOf : Room := { frames := 0, cells := 0, slots := 0, locals := 0 }
theorem zV_X10_sinceOf : ab_recv zw_C vwCl RX10 zt_X10_sinceOf := fun as M N k h => by
  obtain ⟨_, _, rfl, -⟩ := zI_X10_sinceOf h
  exact ⟨_, _, _, _, _, _, rfl, rfl, rfl⟩
theorem zE_X10_sinceOf (as : List Value) (M : ab_M) (N : ab_N) (k : ab_R) (hk : zt_X10_sinceOf as M N k) : ab_cs as ≤ 3 ∧ zr_X10_sinceOf k 0 (ab_en as) [] M N := by
  obtain ⟨p, h, rfl, hp, hk2⟩ := zI_X10_sinceOf hk
  exact ⟨Nat.le_of_ble_eq_true rfl, zH_X10_sinceOf p h hp hk2⟩
set_option maxRecDepth 20000 in
theorem zM_X10_sinceOf (l : Launch) : ab_Met l zw_C vwCl zZ_C yX10_sinceOf cX10_sinceOf 3 (some .int) zR_X10_sinceOf zt_X10_sinceOf := ab_ofRun (G := zg_X10_sinceOf) (P := zp_X10_sinceOf) rfl zo_X10_sinceOf (by decide +kernel) zl_cl zl_lamC zf_X10_ok zs_tabOK ab_Cst_nil ab_Sta_nil (List.forall_mem_nil _) (List.forall_mem_nil _) zE_X10_sinceOf
def zt_X10_placeOf : ab_T := ab_pp (fun as M N => match as with
  | [.ref r1, .int m, .int h] => (match Nat.beq r1 6 with | true => some ((vp_in (h * 5 + m) 60), (.int ((M 37) (h * 5 + m).toNatClampNeg))) | false => none)
  | _ => none)
theorem zI_X10_placeOf {as : List Value} {M : ab_M} {N : ab_N} {k : ab_R} (hk : zt_X10_placeOf as M N k) : ∃ (m : Int32) (h : Int32), as = [.ref 6, .int m, .int h] ∧ (vp_in (h * 5 + m) 60) ∧ k (some (.int ((M 37) (h * 5 + m).toNatClampNeg))) M N := by
  unfold zt_X10_placeOf ab_pp at hk
  dsimp only at hk
  split at hk
  · rename_i v hv
    split at hv
    · split at hv
      · rename_i hb0
        cases hv
        rw [Nat.eq_of_beq_eq_true hb0]
        exact ⟨_, _, rfl, hk⟩
      · cases hv
    · cases hv
  · exact hk.elim
def zp_X10_placeOf : ab_P := [(0, .aload_n 0, 1, [0], []),
  (1, .getfield 9, 4, [], []),
  (4, .iload_n 2, 5, [2], []),
  (5, .iconst 5, 6, [], [5]),
  (6, .imul, 7, [], []),
  (7, .iload_n 1, 8, [1], []),
  (8, .iadd, 9, [], []),
  (9, .iaload, 10, [], []),
  (10, .ireturn, 11, [], [])]
theorem zo_X10_placeOf : ab_ok cX10_placeOf zp_X10_placeOf = true := by decide +kernel
def zg_X10_placeOf : ab_G := (zw_C, zs_tab, zf_X10, [], [], [], [])
theorem zm_X10_placeOf : ab_MG zg_X10_placeOf := ab_MGof (List.forall_mem_nil _) (List.forall_mem_nil _)
abbrev zr_X10_placeOf (Q : ab_R) : ab_K := ab_Run zg_X10_placeOf zp_X10_placeOf (some .int) 3 Q
set_option maxRecDepth 20000 in
theorem zv_X10_placeOf_0 {Q : ab_R} {M : ab_M} {N : ab_N} (l1 : Int32) (l2 : Int32) (h : vp_in ((l2 * (5 : Int32)) + l1) 60 ∧ (Q (some (.int (M 37 ((l2 * (5 : Int32)) + l1).toNatClampNeg))) M N)) : zr_X10_placeOf Q 0 [some (.ref 6), some (.int l1), some (.int l2)] [] M N := ab_Run_s zm_X10_placeOf (sp := []) 11 h
theorem zH_X10_placeOf (m : Int32) (h : Int32) {M : ab_M} {N : ab_N} {k : ab_R} (hp : vp_in (h * 5 + m) 60) (hk : k (some (.int ((M 37) (h * 5 + m).toNatClampNeg))) M N) : zr_X10_placeOf k 0 [some (.ref 6), some (.int m), some (.int h)] [] M N := by
  refine zv_X10_placeOf_0 _ _ ?_
  (repeat' first | exact ab_vpk (by decide) | exact hp | refine And.intro ?_ ?_ | intro _)
  all_goals first | rfl | exact ab_b_n | (refine ab_qi hk ?_; (try unfold ab_b at *); grind) | grind
abbrev zR_X10_placeOf : Room := { frames := 0, cells := 0, slots := 0, locals := 0 }
theorem zV_X10_placeOf : ab_recv zw_C vwCl RX10 zt_X10_placeOf := fun as M N k h => by
  obtain ⟨_, _, rfl, -⟩ := zI_X10_placeOf h
  exact ⟨_, _, _, _, _, _, rfl, rfl, rfl⟩
theorem zE_X10_placeOf (as : List Value) (M : ab_M) (N : ab_N) (k : ab_R) (hk : zt_X10_placeOf as M N k) : ab_cs as ≤ 3 ∧ zr_X10_placeOf k 0 (ab_en as) [] M N := by
  obtain ⟨m, h, rfl, hp, hk2⟩ := zI_X10_placeOf hk
  exact ⟨Nat.le_of_ble_eq_true rfl, zH_X10_placeOf m h hp hk2⟩
set_option maxRecDepth 20000 in
theorem zM_X10_placeOf (l : Launch) : ab_Met l zw_C vwCl zZ_C yX10_placeOf cX10_placeOf 3 (some .int) zR_X10_placeOf zt_X10_placeOf := ab_ofRun (G := zg_X10_placeOf) (P := zp_X10_placeOf) rfl zo_X10_placeOf (by decide +kernel) zl_cl zl_lamC zf_X10_ok zs_tabOK ab_Cst_nil ab_Sta_nil (List.forall_mem_nil _) (List.forall_mem_nil _) zE_X10_placeOf
def zt_X10_together : ab_T := ab_pp (fun as M N => match as with
  | [.ref r1, .int a, .int b, .int h] => (match Nat.beq r1 6 with | true => some ((vp_in (h * 5 + a) 60 ∧ vp_in (h * 5 + b) 60), (.int (ab_b ((M 37) (h * 5 + a).toNatClampNeg = (M 37) (h * 5 + b).toNatClampNeg)))) | false => none)
  | _ => none)
theorem zI_X10_together {as : List Value} {M : ab_M} {N : ab_N} {k : ab_R} (hk : zt_X10_together as M N k) : ∃ (a : Int32) (b : Int32) (h : Int32), as = [.ref 6, .int a, .int b, .int h] ∧ (vp_in (h * 5 + a) 60 ∧ vp_in (h * 5 + b) 60) ∧ k (some (.int (ab_b ((M 37) (h * 5 + a).toNatClampNeg = (M 37) (h * 5 + b).toNatClampNeg)))) M N := by
  unfold zt_X10_together ab_pp at hk
  dsimp only at hk
  split at hk
  · rename_i v hv
    split at hv
    · split at hv
      · rename_i hb0
        cases hv
        rw [Nat.eq_of_beq_eq_true hb0]
        exact ⟨_, _, _, rfl, hk⟩
      · cases hv
    · cases hv
  · exact hk.elim
def zp_X10_together : ab_P := [(0, .aload_n 0, 1, [0], []),
  (1, .iload_n 1, 2, [1], []),
  (2, .iload_n 3, 3, [3], []),
  (3, .invokevirtual 65, 6, [], []),
  (6, .aload_n 0, 7, [0], []),
  (7, .iload_n 2, 8, [2], []),
  (8, .iload_n 3, 9, [3], []),
  (9, .invokevirtual 65, 12, [], []),
  (12, .if_icmp .ne 7, 15, [19], []),
  (15, .iconst 1, 16, [], [1]),
  (16, .goto 4, 19, [20], []),
  (19, .iconst 0, 20, [], [0]),
  (20, .ireturn, 21, [], [])]
theorem zo_X10_together : ab_ok cX10_together zp_X10_together = true := by decide +kernel
def zg_X10_together : ab_G := (zw_C, zs_tab, zf_X10, [], [], [(65, 3, zt_X10_placeOf)], [])
theorem zm_X10_together : ab_MG zg_X10_together := ab_MGof (List.forall_mem_cons.mpr ⟨ab_pp_mono _, List.forall_mem_nil _⟩) (List.forall_mem_nil _)
abbrev zr_X10_together (Q : ab_R) : ab_K := ab_Run zg_X10_together zp_X10_together (some .boolean) 4 Q
set_option maxRecDepth 20000 in
theorem zv_X10_together_0 {Q : ab_R} {M : ab_M} {N : ab_N} (l1 : Int32) (l2 : Int32) (l3 : Int32) (h : (vp_in (l3 * 5 + l1) 60) ∧ ((vp_in (l3 * 5 + l2) 60) ∧ ((((M 37) (l3 * 5 + l1).toNatClampNeg) = ((M 37) (l3 * 5 + l2).toNatClampNeg) → narrow .boolean (.int (1 : Int32)) = .int (1 : Int32) ∧ Q (some (.int (1 : Int32))) M N) ∧ (¬ (((M 37) (l3 * 5 + l1).toNatClampNeg) = ((M 37) (l3 * 5 + l2).toNatClampNeg)) → narrow .boolean (.int (0 : Int32)) = .int (0 : Int32) ∧ Q (some (.int (0 : Int32))) M N)))) : zr_X10_together Q 0 [some (.ref 6), some (.int l1), some (.int l2), some (.int l3)] [] M N := ab_Run_s zm_X10_together (sp := []) 15 h
theorem zH_X10_together (a : Int32) (b : Int32) (h : Int32) {M : ab_M} {N : ab_N} {k : ab_R} (hp : vp_in (h * 5 + a) 60 ∧ vp_in (h * 5 + b) 60) (hk : k (some (.int (ab_b ((M 37) (h * 5 + a).toNatClampNeg = (M 37) (h * 5 + b).toNatClampNeg)))) M N) : zr_X10_together k 0 [some (.ref 6), some (.int a), some (.int b), some (.int h)] [] M N := by
  refine zv_X10_together_0 _ _ _ ?_
  refine ⟨hp.1, hp.2, fun c => ⟨ab_n1, ab_qi hk ?_⟩, fun c => ⟨ab_n0, ab_qi hk ?_⟩⟩ <;> (try unfold ab_b at *) <;> grind
abbrev zR_X10_together : Room := { frames := 1, cells := 0, slots := 0, locals := 22 }
theorem zV_X10_together : ab_recv zw_C vwCl RX10 zt_X10_together := fun as M N k h => by
  obtain ⟨_, _, _, rfl, -⟩ := zI_X10_together h
  exact ⟨_, _, _, _, _, _, rfl, rfl, rfl⟩
theorem zE_X10_together (as : List Value) (M : ab_M) (N : ab_N) (k : ab_R) (hk : zt_X10_together as M N k) : ab_cs as ≤ 4 ∧ zr_X10_together k 0 (ab_en as) [] M N := by
  obtain ⟨a, b, h, rfl, hp, hk2⟩ := zI_X10_together hk
  exact ⟨Nat.le_of_ble_eq_true rfl, zH_X10_together a b h hp hk2⟩
set_option maxRecDepth 20000 in
theorem zM_X10_together (l : Launch) : ab_Met l zw_C vwCl zZ_C yX10_together cX10_together 4 (some .boolean) zR_X10_together zt_X10_together := ab_ofRun (G := zg_X10_together) (P := zp_X10_together) rfl zo_X10_together (by decide +kernel) zl_cl zl_lamC zf_X10_ok zs_tabOK ab_Cst_nil ab_Sta_nil (List.forall_mem_cons.mpr ⟨ab_callV zZ_C_ok (zM_X10_placeOf l) (ab_in 678 (by decide +kernel) rfl) (ab_in 675 (by decide +kernel) rfl) (ab_in 676 (by decide +kernel) rfl) (ab_in 677 (by decide +kernel) rfl) (ab_in 7 (by decide +kernel) rfl) (by unfold ab_yok; decide +kernel) ⟨rfl, rfl⟩ (by decide) zV_X10_placeOf, List.forall_mem_nil _⟩) (List.forall_mem_nil _) zE_X10_together
def zTow (v f t : Int32) : Int32 := if f < t then (if f + v < t then f + v else t) else (if t < f - v then f - v else t)
def zt_X10_towards : ab_T := ab_pp (fun as M N => match as with
  | [.ref r1, .int m, .int f, .int t] => (match Nat.beq r1 6 with | true => some ((vp_in m 5), (.int (zTow ((M 28) m.toNatClampNeg) f t))) | false => none)
  | _ => none)
theorem zI_X10_towards {as : List Value} {M : ab_M} {N : ab_N} {k : ab_R} (hk : zt_X10_towards as M N k) : ∃ (m : Int32) (f : Int32) (t : Int32), as = [.ref 6, .int m, .int f, .int t] ∧ (vp_in m 5) ∧ k (some (.int (zTow ((M 28) m.toNatClampNeg) f t))) M N := by
  unfold zt_X10_towards ab_pp at hk
  dsimp only at hk
  split at hk
  · rename_i v hv
    split at hv
    · split at hv
      · rename_i hb0
        cases hv
        rw [Nat.eq_of_beq_eq_true hb0]
        exact ⟨_, _, _, rfl, hk⟩
      · cases hv
    · cases hv
  · exact hk.elim
def zp_X10_towards : ab_P := [(0, .iload_n 2, 1, [2], []),
  (1, .iload_n 3, 2, [3], []),
  (2, .if_icmp .ge 21, 5, [23], []),
  (5, .iload_n 3, 6, [3], []),
  (6, .iload_n 2, 7, [2], []),
  (7, .aload_n 0, 8, [0], []),
  (8, .getfield 48, 11, [], []),
  (11, .getfield 62, 14, [], []),
  (14, .iload_n 1, 15, [1], []),
  (15, .iaload, 16, [], []),
  (16, .iadd, 17, [], []),
  (17, .invokestatic 119, 20, [], []),
  (20, .goto 18, 23, [38], []),
  (23, .iload_n 3, 24, [3], []),
  (24, .iload_n 2, 25, [2], []),
  (25, .aload_n 0, 26, [0], []),
  (26, .getfield 48, 29, [], []),
  (29, .getfield 62, 32, [], []),
  (32, .iload_n 1, 33, [1], []),
  (33, .iaload, 34, [], []),
  (34, .isub, 35, [], []),
  (35, .invokestatic 124, 38, [], []),
  (38, .ireturn, 39, [], [])]
theorem zo_X10_towards : ab_ok cX10_towards zp_X10_towards = true := by decide +kernel
def zg_X10_towards : ab_G := (zw_C, zs_tab, zf_X10, [], [], [], [(119, 2, zt_min), (124, 2, zt_max)])
theorem zm_X10_towards : ab_MG zg_X10_towards := ab_MGof (List.forall_mem_nil _) (List.forall_mem_cons.mpr ⟨ab_pure_mono _, List.forall_mem_cons.mpr ⟨ab_pure_mono _, List.forall_mem_nil _⟩⟩)
abbrev zr_X10_towards (Q : ab_R) : ab_K := ab_Run zg_X10_towards zp_X10_towards (some .int) 4 Q
set_option maxRecDepth 20000 in
theorem zv_X10_towards_0 {Q : ab_R} {M : ab_M} {N : ab_N} (l1 : Int32) (l2 : Int32) (l3 : Int32) (h : (l3 ≤ l2 → vp_in l1 5 ∧ (Q (some (.int (if l3 < (l2 - (M 28 l1.toNatClampNeg)) then (l2 - (M 28 l1.toNatClampNeg)) else l3))) M N)) ∧ (¬ (l3 ≤ l2) → vp_in l1 5 ∧ (Q (some (.int (if (l2 + (M 28 l1.toNatClampNeg)) < l3 then (l2 + (M 28 l1.toNatClampNeg)) else l3))) M N))) : zr_X10_towards Q 0 [some (.ref 6), some (.int l1), some (.int l2), some (.int l3)] [] M N := ab_Run_s zm_X10_towards (sp := []) 25 h
theorem zH_X10_towards (m : Int32) (f : Int32) (t : Int32) {M : ab_M} {N : ab_N} {k : ab_R} (hp : vp_in m 5) (hk : k (some (.int (zTow ((M 28) m.toNatClampNeg) f t))) M N) : zr_X10_towards k 0 [some (.ref 6), some (.int m), some (.int f), some (.int t)] [] M N := by
  refine zv_X10_towards_0 _ _ _ ?_
  (repeat' first | exact ab_vpk (by decide) | exact hp | refine And.intro ?_ ?_ | intro _)
  all_goals first | rfl | exact ab_b_n | (refine ab_qi hk ?_; (try unfold ab_b at *); grind [ab_b, zTow]) | grind
abbrev zR_X10_towards : Room := { frames := 1, cells := 0, slots := 0, locals := 21 }
theorem zV_X10_towards : ab_recv zw_C vwCl RX10 zt_X10_towards := fun as M N k h => by
  obtain ⟨_, _, _, rfl, -⟩ := zI_X10_towards h
  exact ⟨_, _, _, _, _, _, rfl, rfl, rfl⟩
theorem zE_X10_towards (as : List Value) (M : ab_M) (N : ab_N) (k : ab_R) (hk : zt_X10_towards as M N k) : ab_cs as ≤ 4 ∧ zr_X10_towards k 0 (ab_en as) [] M N := by
  obtain ⟨m, f, t, rfl, hp, hk2⟩ := zI_X10_towards hk
  exact ⟨Nat.le_of_ble_eq_true rfl, zH_X10_towards m f t hp hk2⟩
set_option maxRecDepth 20000 in
theorem zM_X10_towards (l : Launch) : ab_Met l zw_C vwCl zZ_C yX10_towards cX10_towards 4 (some .int) zR_X10_towards zt_X10_towards := ab_ofRun (G := zg_X10_towards) (P := zp_X10_towards) rfl zo_X10_towards (by decide +kernel) zl_cl zl_lamC zf_X10_ok zs_tabOK ab_Cst_nil ab_Sta_nil (List.forall_mem_nil _) (List.forall_mem_cons.mpr ⟨ab_callMin (ab_in 683 (by decide +kernel) rfl) (ab_in 608 (by decide +kernel) rfl) (ab_in 18 (by decide +kernel) rfl) (ab_in 609 (by decide +kernel) rfl) (by decide) (by decide), List.forall_mem_cons.mpr ⟨ab_callMax (ab_in 684 (by decide +kernel) rfl) (ab_in 593 (by decide +kernel) rfl) (ab_in 18 (by decide +kernel) rfl) (ab_in 594 (by decide +kernel) rfl) (by decide) (by decide), List.forall_mem_nil _⟩⟩) zE_X10_towards
def zOth (ca tr co la mp mh p h : Int32) : Int32 := if p = mp ∧ h = mh then ((if 0 ≤ ca ∧ p < tr ∧ ca + co ≤ h then (32 : Int32) else 0) ||| (if la = 0 then 0 else 64)) ||| 128 else ((if 0 ≤ ca ∧ p < tr ∧ ca + co ≤ h then (32 : Int32) else 0) ||| (if la = 0 then 0 else 64))
def zt_X10_othersAt : ab_T := ab_pp (fun as M N => match as with
  | [.ref r1, .int p, .int h] => (match Nat.beq r1 6 with | true => some ((vp_in p 8), (.int (zOth ((M 1) 7) ((M 17) 3) ((M 17) 4) ((M 16) p.toNatClampNeg) ((M 6) 11) ((M 6) 12) p h))) | false => none)
  | _ => none)
theorem zI_X10_othersAt {as : List Value} {M : ab_M} {N : ab_N} {k : ab_R} (hk : zt_X10_othersAt as M N k) : ∃ (p : Int32) (h : Int32), as = [.ref 6, .int p, .int h] ∧ (vp_in p 8) ∧ k (some (.int (zOth ((M 1) 7) ((M 17) 3) ((M 17) 4) ((M 16) p.toNatClampNeg) ((M 6) 11) ((M 6) 12) p h))) M N := by
  unfold zt_X10_othersAt ab_pp at hk
  dsimp only at hk
  split at hk
  · rename_i v hv
    split at hv
    · split at hv
      · rename_i hb0
        cases hv
        rw [Nat.eq_of_beq_eq_true hb0]
        exact ⟨_, _, rfl, hk⟩
      · cases hv
    · cases hv
  · exact hk.elim
def zp_X10_othersAt : ab_P := [(0, .aload_n 0, 1, [0], []),
  (1, .getfield 44, 4, [], []),
  (4, .iload_n 1, 5, [1], []),
  (5, .iload_n 2, 6, [2], []),
  (6, .invokevirtual 99, 9, [], []),
  (9, .ifCond .eq 8, 12, [17], []),
  (12, .bipush 32, 14, [], [32]),
  (14, .goto 4, 17, [18], []),
  (17, .iconst 0, 18, [], [0]),
  (18, .istore_n 3, 19, [3], []),
  (19, .iload_n 3, 20, [3], []),
  (20, .aload_n 0, 21, [0], []),
  (21, .getfield 44, 24, [], []),
  (24, .getfield 102, 27, [], []),
  (27, .iload_n 1, 28, [1], []),
  (28, .iaload, 29, [], []),
  (29, .ifCond .eq 8, 32, [37], []),
  (32, .bipush 64, 34, [], [64]),
  (34, .goto 4, 37, [38], []),
  (37, .iconst 0, 38, [], [0]),
  (38, .ior, 39, [], []),
  (39, .istore_n 3, 40, [3], []),
  (40, .iload_n 1, 41, [1], []),
  (41, .aload_n 0, 42, [0], []),
  (42, .getfield 38, 45, [], []),
  (45, .if_icmp .ne 19, 48, [64], []),
  (48, .iload_n 2, 49, [2], []),
  (49, .aload_n 0, 50, [0], []),
  (50, .getfield 41, 53, [], []),
  (53, .if_icmp .ne 11, 56, [64], []),
  (56, .iload_n 3, 57, [3], []),
  (57, .sipush 128, 60, [], [128]),
  (60, .ior, 61, [], []),
  (61, .goto 4, 64, [65], []),
  (64, .iload_n 3, 65, [3], []),
  (65, .ireturn, 66, [], [])]
theorem zo_X10_othersAt : ab_ok cX10_othersAt zp_X10_othersAt = true := by decide +kernel
def zg_X10_othersAt : ab_G := (zw_C, zs_tab, zf_X10, [], [], [(99, 3, zt_X2_villageAt)], [])
theorem zm_X10_othersAt : ab_MG zg_X10_othersAt := ab_MGof (List.forall_mem_cons.mpr ⟨ab_pure_mono _, List.forall_mem_nil _⟩) (List.forall_mem_nil _)
abbrev zr_X10_othersAt (Q : ab_R) : ab_K := ab_Run zg_X10_othersAt zp_X10_othersAt (some .int) 4 Q
set_option maxRecDepth 20000 in
theorem zv_X10_othersAt_0 {Q : ab_R} {M : ab_M} {N : ab_N} (l1 : Int32) (l2 : Int32) (h : ((ab_b (0 ≤ (M 1) 7 ∧ l1 < (M 17) 3 ∧ (M 1) 7 + (M 17) 4 ≤ l2)) = 0 → zr_X10_othersAt Q 18 [some (.ref 6), some (.int l1), some (.int l2), none] [.int (0 : Int32)] M N) ∧ (¬ ((ab_b (0 ≤ (M 1) 7 ∧ l1 < (M 17) 3 ∧ (M 1) 7 + (M 17) 4 ≤ l2)) = 0) → zr_X10_othersAt Q 18 [some (.ref 6), some (.int l1), some (.int l2), none] [.int (32 : Int32)] M N)) : zr_X10_othersAt Q 0 [some (.ref 6), some (.int l1), some (.int l2)] [] M N := ab_Run_s zm_X10_othersAt (sp := [(18, [true, true, true, false]), (38, [true, true, true, false])]) 38 h
set_option maxRecDepth 20000 in
theorem zv_X10_othersAt_18 {Q : ab_R} {M : ab_M} {N : ab_N} (l1 : Int32) (l2 : Int32) (s0 : Int32) (h : vp_in l1 8 ∧ (((M 16 l1.toNatClampNeg) = 0 → zr_X10_othersAt Q 38 [some (.ref 6), some (.int l1), some (.int l2), none] [.int (0 : Int32), .int s0] M N) ∧ (¬ ((M 16 l1.toNatClampNeg) = 0) → zr_X10_othersAt Q 38 [some (.ref 6), some (.int l1), some (.int l2), none] [.int (64 : Int32), .int s0] M N))) : zr_X10_othersAt Q 18 [some (.ref 6), some (.int l1), some (.int l2), none] [.int s0] M N := ab_Run_s zm_X10_othersAt (sp := [(18, [true, true, true, false]), (38, [true, true, true, false])]) 38 h
set_option maxRecDepth 20000 in
theorem zv_X10_othersAt_38 {Q : ab_R} {M : ab_M} {N : ab_N} (l1 : Int32) (l2 : Int32) (s0 : Int32) (s1 : Int32) (h : (l1 = (M 6 11) → (l2 = (M 6 12) → Q (some (.int ((s0 ||| s1) ||| (128 : Int32)))) M N) ∧ (¬ (l2 = (M 6 12)) → Q (some (.int (s0 ||| s1))) M N)) ∧ (¬ (l1 = (M 6 11)) → Q (some (.int (s0 ||| s1))) M N)) : zr_X10_othersAt Q 38 [some (.ref 6), some (.int l1), some (.int l2), none] [.int s1, .int s0] M N := ab_Run_s zm_X10_othersAt (sp := [(18, [true, true, true, false]), (38, [true, true, true, false])]) 38 h
theorem zH_X10_othersAt (p : Int32) (h : Int32) {M : ab_M} {N : ab_N} {k : ab_R} (hp : vp_in p 8) (hk : k (some (.int (zOth ((M 1) 7) ((M 17) 3) ((M 17) 4) ((M 16) p.toNatClampNeg) ((M 6) 11) ((M 6) 12) p h))) M N) : zr_X10_othersAt k 0 [some (.ref 6), some (.int p), some (.int h)] [] M N := by
  refine zv_X10_othersAt_0 _ _ ?_
  (repeat' first | exact ab_vpk (by decide) | exact hp | refine And.intro ?_ ?_ | apply zv_X10_othersAt_18 | apply zv_X10_othersAt_38 | intro _)
  all_goals first | rfl | exact ab_b_n | (refine ab_qi hk ?_; (try unfold ab_b at *); grind [ab_b, zOth]) | grind
abbrev zR_X10_othersAt : Room := { frames := 1, cells := 0, slots := 0, locals := 22 }
theorem zV_X10_othersAt : ab_recv zw_C vwCl RX10 zt_X10_othersAt := fun as M N k h => by
  obtain ⟨_, _, rfl, -⟩ := zI_X10_othersAt h
  exact ⟨_, _, _, _, _, _, rfl, rfl, rfl⟩
theorem zE_X10_othersAt (as : List Value) (M : ab_M) (N : ab_N) (k : ab_R) (hk : zt_X10_othersAt as M N k) : ab_cs as ≤ 4 ∧ zr_X10_othersAt k 0 (ab_en as) [] M N := by
  obtain ⟨p, h, rfl, hp, hk2⟩ := zI_X10_othersAt hk
  exact ⟨Nat.le_of_ble_eq_true rfl, zH_X10_othersAt p h hp hk2⟩
set_option maxRecDepth 20000 in
theorem zM_X10_othersAt (l : Launch) : ab_Met l zw_C vwCl zZ_C yX10_othersAt cX10_othersAt 4 (some .int) zR_X10_othersAt zt_X10_othersAt := ab_ofRun (G := zg_X10_othersAt) (P := zp_X10_othersAt) rfl zo_X10_othersAt (by decide +kernel) zl_cl zl_lamC zf_X10_ok zs_tabOK ab_Cst_nil ab_Sta_nil (List.forall_mem_cons.mpr ⟨ab_callV zZ_C_ok (zM_X2_villageAt l) (ab_in 670 (by decide +kernel) rfl) (ab_in 667 (by decide +kernel) rfl) (ab_in 668 (by decide +kernel) rfl) (ab_in 669 (by decide +kernel) rfl) (ab_in 2 (by decide +kernel) rfl) (by unfold ab_yok; decide +kernel) ⟨rfl, rfl⟩ (by decide) zV_X2_villageAt, List.forall_mem_nil _⟩) (List.forall_mem_nil _) zE_X10_othersAt
end
section
/-! frames, stacks, the evaluation of a text *)
-/
def zFr (L : List Nat) (M M2 : ab_M) : Prop := ∀ c, c ∉ L → M2 c = M c
theorem zFr_rf (L : List Nat) (M : ab_M) : zFr L M M := fun _ _ => rfl
theorem zFr_u {L : List Nat} {M M2 : ab_M} (h : zFr L M M2) {k : Nat} (hk : k ∈ L) (f : Nat → Int32) : zFr L M (ab_u M2 k f) := fun c hc => by
  have hne : c ≠ k := fun e => hc (by rw [e]; exact hk)
  rw [ab_u_ne M2 f hne]
  exact h c hc
theorem zFr_tr {L : List Nat} {M M2 M3 : ab_M} (h : zFr L M M2) (h2 : zFr L M2 M3) : zFr L M M3 := fun c hc => (h2 c hc).trans (h c hc)
theorem zFr_mono {L L2 : List Nat} {M M2 : ab_M} (h : zFr L M M2) (hs : ∀ c ∈ L, c ∈ L2) : zFr L2 M M2 := fun c hc => h c (fun q => hc (hs c q))
theorem upd_eq (f : Nat → Int32) (k : Nat) (x : Int32) : upd f k x k = x := by simp [upd]
theorem upd_ne (f : Nat → Int32) {k j : Nat} (x : Int32) (h : j ≠ k) : upd f k x j = f j := by simp [upd, h]
theorem updL_eq (f : Nat → Int64) (k : Nat) (x : Int64) : vp_updL f k x k = x := by simp [vp_updL]
theorem updL_ne (f : Nat → Int64) {k j : Nat} (x : Int64) (h : j ≠ k) : vp_updL f k x j = f j := by simp [vp_updL, h]
theorem nI_in_ {n N : Nat} (h : n < N) (hN : N < 2 ^ 31 := by decide) : vp_in (nI n) N := vp_in_nI h hN
/-- a stack of t numbers, the top first -/
def zStk (f : Nat → Int32) : Nat → List Int32 → Prop
  | 0, [] => True
  | t + 1, x :: r => f t = x ∧ zStk f t r
  | _, _ => False
theorem zStk_upd {f : Nat → Int32} : ∀ {t : Nat} {st : List Int32} {k : Nat} (x : Int32), zStk f t st → t ≤ k → zStk (upd f k x) t st
  | 0, [], _, _, _, _ => trivial
  | t + 1, y :: r, k, x, h, hk => ⟨by rw [upd_ne _ _ (by omega)]; exact h.1, zStk_upd x h.2 (by omega)⟩
  | 0, _ :: _, _, _, h, _ => h.elim
  | _ + 1, [], _, _, h, _ => h.elim
def zStep (nm : Nat → Int32) (c : Int32) (st : List Int32) : List Int32 :=
  if -7 < c then (if c < 0 then nm (-1 - c).toNatClampNeg else c) :: st
  else if -9 < c then (match st with
    | x :: r => (if c = -8 then -x else if x = 0 then 1 else 0) :: r
    | [] => [])
  else (match st with
    | y :: x :: r => zj c x y :: r
    | r => r)
def zEval (code nm : Nat → Int32) : Nat → Nat → List Int32 → List Int32
  | _, 0, st => st
  | n, m + 1, st => zEval code nm (n + 1) m (zStep nm (code n) st)
def zTop : List Int32 → Int32
  | [] => 0
  | x :: _ => x
/-- places of a text's part -/
def zFrom (d : ab_M) (th : Nat) : Nat := if th = 0 then (d 3 3).toNatClampNeg * 160 else (d 32 ((d 3 3).toNatClampNeg * 3 + th - 1)).toNatClampNeg
def zTo (d : ab_M) (th : Nat) : Nat := (d 32 ((d 3 3).toNatClampNeg * 3 + th)).toNatClampNeg
def zVal (d : ab_M) (th : Nat) (nm : Nat → Int32) : Int32 := zTop (zEval (d 31) nm (zFrom d th) (zTo d th - zFrom d th) [])
/-- the law's text lies where it should -/
def zLawOK (d : ab_M) : Prop := ∃ w e0 e1 e2 : Nat, w < 6 ∧ d 3 3 = nI w ∧ d 32 (w * 3) = nI e0 ∧ d 32 (w * 3 + 1) = nI e1 ∧ d 32 (w * 3 + 2) = nI e2 ∧ w * 160 ≤ e0 ∧ e0 ≤ e1 ∧ e1 ≤ e2 ∧ e2 ≤ w * 160 + 160
end
section
/-! Texts.valueOf, Chances *)
-/
def zt_X9_valueOf : ab_T := fun as M N k => match as with
  | [.ref a, .int th, .ref b] => (a = 3 ∧ b = 35 ∧ (0 ≤ th ∧ th < 3) ∧ zLawOK M) ∧ ∀ M2 : ab_M, zFr [33] M M2 → k (some (.int (zVal M th.toNatClampNeg (M 35)))) M2 N
  | _ => False
theorem zt_X9_valueOf_mono : ab_mono zt_X9_valueOf := fun as M N k k2 hk h => by
  unfold zt_X9_valueOf at h ⊢
  split at h
  · exact ⟨h.1, fun M2 hF => hk _ _ _ (h.2 M2 hF)⟩
  · exact h
def zp_X9_valueOf : ab_P := [(0, .aload_n 0, 1, [0], []),
  (1, .getfield 22, 4, [], []),
  (4, .iconst 3, 5, [], [3]),
  (5, .imul, 6, [], []),
  (6, .iload_n 1, 7, [1], []),
  (7, .iadd, 8, [], []),
  (8, .istore_n 3, 9, [3], []),
  (9, .iload_n 1, 10, [1], []),
  (10, .ifCond .ne 14, 13, [24], []),
  (13, .aload_n 0, 14, [0], []),
  (14, .getfield 22, 17, [], []),
  (17, .sipush 160, 20, [], [160]),
  (20, .imul, 21, [], []),
  (21, .goto 11, 24, [32], []),
  (24, .aload_n 0, 25, [0], []),
  (25, .getfield 15, 28, [], []),
  (28, .iload_n 3, 29, [3], []),
  (29, .iconst 1, 30, [], [1]),
  (30, .isub, 31, [], []),
  (31, .iaload, 32, [], []),
  (32, .istore 4, 34, [], []),
  (34, .aload_n 0, 35, [0], []),
  (35, .getfield 15, 38, [], []),
  (38, .iload_n 3, 39, [3], []),
  (39, .iaload, 40, [], []),
  (40, .istore 5, 42, [], []),
  (42, .iconst 0, 43, [], [0]),
  (43, .istore 6, 45, [], []),
  (45, .iload 4, 47, [], []),
  (47, .istore 7, 49, [], []),
  (49, .iload 7, 51, [], []),
  (51, .iload 5, 53, [], []),
  (53, .if_icmp .ge 167, 56, [220], []),
  (56, .aload_n 0, 57, [0], []),
  (57, .getfield 9, 60, [], []),
  (60, .iload 7, 62, [], []),
  (62, .iaload, 63, [], []),
  (63, .istore 8, 65, [], []),
  (65, .iload 8, 67, [], []),
  (67, .bipush (-7), 69, [], [(-7)]),
  (69, .if_icmp .le 42, 72, [111], []),
  (72, .iload 6, 74, [], []),
  (74, .aload_n 0, 75, [0], []),
  (75, .getfield 25, 78, [], []),
  (78, .arraylength, 79, [], []),
  (79, .if_icmp .ge 135, 82, [214], []),
  (82, .aload_n 0, 83, [0], []),
  (83, .getfield 25, 86, [], []),
  (86, .iload 6, 88, [], []),
  (88, .iload 8, 90, [], []),
  (90, .ifCond .lt 8, 93, [98], []),
  (93, .iload 8, 95, [], []),
  (95, .goto 9, 98, [104], []),
  (98, .aload_n 2, 99, [2], []),
  (99, .iconst (-1), 100, [], [(-1)]),
  (100, .iload 8, 102, [], []),
  (102, .isub, 103, [], []),
  (103, .iaload, 104, [], []),
  (104, .iastore, 105, [], []),
  (105, .iinc 6 1, 108, [], [1]),
  (108, .goto 106, 111, [214], []),
  (111, .iload 8, 113, [], []),
  (113, .bipush (-9), 115, [], [(-9)]),
  (115, .if_icmp .le 60, 118, [175], []),
  (118, .iload 6, 120, [], []),
  (120, .ifCond .le 94, 123, [214], []),
  (123, .aload_n 0, 124, [0], []),
  (124, .getfield 25, 127, [], []),
  (127, .iload 6, 129, [], []),
  (129, .iconst 1, 130, [], [1]),
  (130, .isub, 131, [], []),
  (131, .iload 8, 133, [], []),
  (133, .bipush (-8), 135, [], [(-8)]),
  (135, .if_icmp .ne 16, 138, [151], []),
  (138, .aload_n 0, 139, [0], []),
  (139, .getfield 25, 142, [], []),
  (142, .iload 6, 144, [], []),
  (144, .iconst 1, 145, [], [1]),
  (145, .isub, 146, [], []),
  (146, .iaload, 147, [], []),
  (147, .ineg, 148, [], []),
  (148, .goto 23, 151, [171], []),
  (151, .aload_n 0, 152, [0], []),
  (152, .getfield 25, 155, [], []),
  (155, .iload 6, 157, [], []),
  (157, .iconst 1, 158, [], [1]),
  (158, .isub, 159, [], []),
  (159, .iaload, 160, [], []),
  (160, .ifCond .ne 7, 163, [167], []),
  (163, .iconst 1, 164, [], [1]),
  (164, .goto 4, 167, [168], []),
  (167, .iconst 0, 168, [], [0]),
  (168, .invokestatic 28, 171, [], []),
  (171, .iastore, 172, [], []),
  (172, .goto 42, 175, [214], []),
  (175, .iload 6, 177, [], []),
  (177, .iconst 1, 178, [], [1]),
  (178, .if_icmp .le 36, 181, [214], []),
  (181, .iinc 6 (-1), 184, [], [(-1)]),
  (184, .aload_n 0, 185, [0], []),
  (185, .getfield 25, 188, [], []),
  (188, .iload 6, 190, [], []),
  (190, .iconst 1, 191, [], [1]),
  (191, .isub, 192, [], []),
  (192, .iload 8, 194, [], []),
  (194, .aload_n 0, 195, [0], []),
  (195, .getfield 25, 198, [], []),
  (198, .iload 6, 200, [], []),
  (200, .iconst 1, 201, [], [1]),
  (201, .isub, 202, [], []),
  (202, .iaload, 203, [], []),
  (203, .aload_n 0, 204, [0], []),
  (204, .getfield 25, 207, [], []),
  (207, .iload 6, 209, [], []),
  (209, .iaload, 210, [], []),
  (210, .invokestatic 32, 213, [], []),
  (213, .iastore, 214, [], []),
  (214, .iinc 7 1, 217, [], [1]),
  (217, .goto (-168), 220, [49], []),
  (220, .iload 6, 222, [], []),
  (222, .ifCond .le 15, 225, [237], []),
  (225, .aload_n 0, 226, [0], []),
  (226, .getfield 25, 229, [], []),
  (229, .iload 6, 231, [], []),
  (231, .iconst 1, 232, [], [1]),
  (232, .isub, 233, [], []),
  (233, .iaload, 234, [], []),
  (234, .goto 4, 237, [238], []),
  (237, .iconst 0, 238, [], [0]),
  (238, .ireturn, 239, [], [])]
theorem zo_X9_valueOf : ab_ok cX9_valueOf zp_X9_valueOf = true := by decide +kernel
def zg_X9_valueOf : ab_G := (zw_C, zs_tab, zf_X9, [], [], [], [(28, 1, zt_X9_truth), (32, 3, zt_X9_joined)])
theorem zm_X9_valueOf : ab_MG zg_X9_valueOf := ab_MGof (List.forall_mem_nil _) (List.forall_mem_cons.mpr ⟨ab_pure_mono _, List.forall_mem_cons.mpr ⟨ab_pure_mono _, List.forall_mem_nil _⟩⟩)
abbrev zr_X9_valueOf (Q : ab_R) : ab_K := ab_Run zg_X9_valueOf zp_X9_valueOf (some .int) 9 Q
set_option maxRecDepth 20000 in
theorem zv_X9_valueOf_0 {Q : ab_R} {M : ab_M} {N : ab_N} (l1 : Int32) (h : (l1 = 0 → vp_in (((M 3 3) * (3 : Int32)) + l1) 18 ∧ (zr_X9_valueOf Q 49 [some (.ref 3), none, some (.ref 35), none, none, some (.int (M 32 (((M 3 3) * (3 : Int32)) + l1).toNatClampNeg)), some (.int (0 : Int32)), some (.int ((M 3 3) * (160 : Int32))), none] [] M N)) ∧ (¬ (l1 = 0) → vp_in ((((M 3 3) * (3 : Int32)) + l1) - (1 : Int32)) 18 ∧ (vp_in (((M 3 3) * (3 : Int32)) + l1) 18 ∧ (zr_X9_valueOf Q 49 [some (.ref 3), none, some (.ref 35), none, none, some (.int (M 32 (((M 3 3) * (3 : Int32)) + l1).toNatClampNeg)), some (.int (0 : Int32)), some (.int (M 32 ((((M 3 3) * (3 : Int32)) + l1) - (1 : Int32)).toNatClampNeg)), none] [] M N)))) : zr_X9_valueOf Q 0 [some (.ref 3), some (.int l1), some (.ref 35)] [] M N := ab_Run_s zm_X9_valueOf (sp := [(49, [true, false, true, false, false, true, true, true, false])]) 132 h
set_option maxRecDepth 20000 in
theorem zv_X9_valueOf_49 {Q : ab_R} {M : ab_M} {N : ab_N} (l5 : Int32) (l6 : Int32) (l7 : Int32) (h : (l5 ≤ l7 → (l6 ≤ 0 → Q (some (.int (0 : Int32))) M N) ∧ (¬ (l6 ≤ 0) → vp_in (l6 - (1 : Int32)) 160 ∧ (Q (some (.int (M 33 (l6 - (1 : Int32)).toNatClampNeg))) M N))) ∧ (¬ (l5 ≤ l7) → vp_in l7 960 ∧ (((M 31 l7.toNatClampNeg) ≤ (-7 : Int32) → ((M 31 l7.toNatClampNeg) ≤ (-9 : Int32) → (l6 ≤ (1 : Int32) → zr_X9_valueOf Q 49 [some (.ref 3), none, some (.ref 35), none, none, some (.int l5), some (.int l6), some (.int (l7 + (1 : Int32))), none] [] M N) ∧ (¬ (l6 ≤ (1 : Int32)) → vp_in ((l6 + (-1 : Int32)) - (1 : Int32)) 160 ∧ (vp_in (l6 + (-1 : Int32)) 160 ∧ (vp_in ((l6 + (-1 : Int32)) - (1 : Int32)) 160 ∧ (let z1 : Nat → Int32 := upd (M 33) ((l6 + (-1 : Int32)) - (1 : Int32)).toNatClampNeg (zj (M 31 l7.toNatClampNeg) (M 33 ((l6 + (-1 : Int32)) - (1 : Int32)).toNatClampNeg) (M 33 (l6 + (-1 : Int32)).toNatClampNeg)); zr_X9_valueOf Q 49 [some (.ref 3), none, some (.ref 35), none, none, some (.int l5), some (.int (l6 + (-1 : Int32))), some (.int (l7 + (1 : Int32))), none] [] (ab_u M 33 z1) N))))) ∧ (¬ ((M 31 l7.toNatClampNeg) ≤ (-9 : Int32)) → (l6 ≤ 0 → zr_X9_valueOf Q 49 [some (.ref 3), none, some (.ref 35), none, none, some (.int l5), some (.int l6), some (.int (l7 + (1 : Int32))), none] [] M N) ∧ (¬ (l6 ≤ 0) → ((M 31 l7.toNatClampNeg) = (-8 : Int32) → vp_in (l6 - (1 : Int32)) 160 ∧ (vp_in (l6 - (1 : Int32)) 160 ∧ (let z2 : Nat → Int32 := upd (M 33) (l6 - (1 : Int32)).toNatClampNeg (-(M 33 (l6 - (1 : Int32)).toNatClampNeg)); zr_X9_valueOf Q 49 [some (.ref 3), none, some (.ref 35), none, none, some (.int l5), some (.int l6), some (.int (l7 + (1 : Int32))), none] [] (ab_u M 33 z2) N))) ∧ (¬ ((M 31 l7.toNatClampNeg) = (-8 : Int32)) → vp_in (l6 - (1 : Int32)) 160 ∧ (((M 33 (l6 - (1 : Int32)).toNatClampNeg) = 0 → vp_in (l6 - (1 : Int32)) 160 ∧ (let z3 : Nat → Int32 := upd (M 33) (l6 - (1 : Int32)).toNatClampNeg (if (1 : Int32) = 0 then 0 else 1); zr_X9_valueOf Q 49 [some (.ref 3), none, some (.ref 35), none, none, some (.int l5), some (.int l6), some (.int (l7 + (1 : Int32))), none] [] (ab_u M 33 z3) N)) ∧ (¬ ((M 33 (l6 - (1 : Int32)).toNatClampNeg) = 0) → vp_in (l6 - (1 : Int32)) 160 ∧ (let z4 : Nat → Int32 := upd (M 33) (l6 - (1 : Int32)).toNatClampNeg (if (0 : Int32) = 0 then 0 else 1); zr_X9_valueOf Q 49 [some (.ref 3), none, some (.ref 35), none, none, some (.int l5), some (.int l6), some (.int (l7 + (1 : Int32))), none] [] (ab_u M 33 z4) N))))))) ∧ (¬ ((M 31 l7.toNatClampNeg) ≤ (-7 : Int32)) → ((Int32.ofNat 160) ≤ l6 → zr_X9_valueOf Q 49 [some (.ref 3), none, some (.ref 35), none, none, some (.int l5), some (.int l6), some (.int (l7 + (1 : Int32))), none] [] M N) ∧ (¬ ((Int32.ofNat 160) ≤ l6) → ((M 31 l7.toNatClampNeg) < 0 → vp_in ((-1 : Int32) - (M 31 l7.toNatClampNeg)) 6 ∧ (vp_in l6 160 ∧ (let z5 : Nat → Int32 := upd (M 33) l6.toNatClampNeg (M 35 ((-1 : Int32) - (M 31 l7.toNatClampNeg)).toNatClampNeg); zr_X9_valueOf Q 49 [some (.ref 3), none, some (.ref 35), none, none, some (.int l5), some (.int (l6 + (1 : Int32))), some (.int (l7 + (1 : Int32))), none] [] (ab_u M 33 z5) N))) ∧ (¬ ((M 31 l7.toNatClampNeg) < 0) → vp_in l6 160 ∧ (let z6 : Nat → Int32 := upd (M 33) l6.toNatClampNeg (M 31 l7.toNatClampNeg); zr_X9_valueOf Q 49 [some (.ref 3), none, some (.ref 35), none, none, some (.int l5), some (.int (l6 + (1 : Int32))), some (.int (l7 + (1 : Int32))), none] [] (ab_u M 33 z6) N))))))) : zr_X9_valueOf Q 49 [some (.ref 3), none, some (.ref 35), none, none, some (.int l5), some (.int l6), some (.int l7), none] [] M N := ab_Run_s zm_X9_valueOf (sp := [(49, [true, false, true, false, false, true, true, true, false])]) 132 h
theorem zL_X9_valueOf {Q : ab_R} {N : ab_N} (M0 : ab_M) (fr to : Nat) (h960 : to ≤ 960) (h160 : to ≤ fr + 160) (r : Int32) (hq : ∀ M2, zFr [33] M0 M2 → Q (some (.int r)) M2 N) : ∀ (m n t : Nat) (st : List Int32) (M : ab_M), n + m = to → fr + t ≤ n → zFr [33] M0 M → zStk (M 33) t st → zTop (zEval (M0 31) (M0 35) n m st) = r → zr_X9_valueOf Q 49 [some (.ref 3), none, some (.ref 35), none, none, some (.int (nI to)), some (.int (nI t)), some (.int (nI n)), none] [] M N := by
  intro m
  induction m with
  | zero =>
    intro n t st M hn ht hF hS hE
    refine zv_X9_valueOf_49 _ _ _ ⟨fun _ => ⟨fun c => ?_, fun c => ?_⟩, fun c => absurd (nI_le (by omega) (by omega)) c⟩
    · have h0 : t = 0 := by
        rcases Nat.eq_zero_or_pos t with q | q
        · exact q
        · exact absurd c (nI_nle q (by omega))
      subst h0
      cases st with
      | nil => rw [show r = 0 from hE.symm] at hq; exact hq M hF
      | cons x s => exact hS.elim
    · cases t with
      | zero => exact absurd (nI_le (a := 0) (b := 0) (by omega) (by omega)) c
      | succ t =>
        cases st with
        | nil => exact hS.elim
        | cons x s =>
          rw [nI_pred]
          refine ⟨nI_in_ (by omega), ?_⟩
          rw [nI_clamp (by omega), hS.1]
          have : x = r := hE
          rw [this]
          exact hq M hF
  | succ m ih =>
    intro n t st M hn ht hF hS hE
    have e31 : M 31 = M0 31 := hF 31 (by decide)
    have e35 : M 35 = M0 35 := hF 35 (by decide)
    refine zv_X9_valueOf_49 _ _ _ ⟨fun c => absurd c (nI_ge (by omega) (by omega)), fun _ => ⟨nI_in_ (by omega), ?_⟩⟩
    simp only [nI_clamp (show n < 2 ^ 31 by omega), e31, e35]
    have hE2 : ∀ s2, zStep (M0 35) (M0 31 n) st = s2 → zTop (zEval (M0 31) (M0 35) (n + 1) m s2) = r := fun s2 e => by rw [← e]; exact hE
    rw [nI_1]
    refine ⟨fun c1 => ⟨fun c2 => ?_, fun c2 => ?_⟩, fun c1 => ?_⟩
    · -- two
      have k1 : ¬ -7 < M0 31 n := Int32.not_lt.mpr c1
      have k2 : ¬ -9 < M0 31 n := Int32.not_lt.mpr c2
      match t, st, hS with
      | 0, [], hS =>
        refine ⟨fun c => ih (n + 1) 0 [] M (by omega) (by omega) hF hS (hE2 _ (by simp only [zStep, if_neg k1, if_neg k2])), fun c => absurd (nI_le (a := 0) (b := 1) (by omega) (by omega)) c⟩
      | 1, [x], hS =>
        refine ⟨fun c => ih (n + 1) 1 [x] M (by omega) (by omega) hF hS (hE2 _ (by simp only [zStep, if_neg k1, if_neg k2])), fun c => absurd (nI_le (a := 1) (b := 1) (by omega) (by omega)) c⟩
      | t + 2, y :: x :: s, hS =>
        refine ⟨fun c => absurd c (nI_ge (a := 1) (b := t + 2) (by omega) (by omega)), fun c => ?_⟩
        rw [pk_m1, nI_pred]
        refine ⟨nI_in_ (by omega), nI_in_ (by omega), nI_in_ (by omega), ?_⟩
        simp only [nI_clamp (show t < 2 ^ 31 by omega), nI_clamp (show t + 1 < 2 ^ 31 by omega), hS.1, hS.2.1]
        exact ih (n + 1) (t + 1) (zj (M0 31 n) x y :: s) _ (by omega) (by omega) (zFr_u hF (by decide) _) ⟨by rw [ab_u_eq, upd_eq], by rw [ab_u_eq]; exact zStk_upd _ hS.2.2 (Nat.le_refl _)⟩ (hE2 _ (by simp only [zStep, if_neg k1, if_neg k2]))
      | 0, _ :: _, hS => exact hS.elim
      | 1, [], hS => exact hS.elim
      | 1, _ :: _ :: _, hS => exact hS.2.elim
      | t + 2, [], hS => exact hS.elim
      | t + 2, [_], hS => exact hS.2.elim
    · -- one
      have k1 : ¬ -7 < M0 31 n := Int32.not_lt.mpr c1
      have k2 : -9 < M0 31 n := Int32.not_le.mp c2
      match t, st, hS with
      | 0, [], hS =>
        refine ⟨fun c => ih (n + 1) 0 [] M (by omega) (by omega) hF hS (hE2 _ (by simp only [zStep, if_neg k1, if_pos k2])), fun c => absurd (nI_le (a := 0) (b := 0) (by omega) (by omega)) c⟩
      | t + 1, x :: s, hS =>
        refine ⟨fun c => absurd c (nI_nle (by omega) (by omega)), fun c => ?_⟩
        rw [nI_pred]
        simp only [nI_clamp (show t < 2 ^ 31 by omega), hS.1]
        have fin : ∀ v : Int32, zStep (M0 35) (M0 31 n) (x :: s) = v :: s → zr_X9_valueOf Q 49 [some (.ref 3), none, some (.ref 35), none, none, some (.int (nI to)), some (.int (nI (t + 1))), some (.int (nI (n + 1))), none] [] (ab_u M 33 (upd (M 33) t v)) N := fun v hv =>
          ih (n + 1) (t + 1) (v :: s) _ (by omega) (by omega) (zFr_u hF (by decide) _) ⟨by rw [ab_u_eq, upd_eq], by rw [ab_u_eq]; exact zStk_upd _ hS.2 (Nat.le_refl _)⟩ (hE2 _ hv)
        refine ⟨fun c3 => ⟨nI_in_ (by omega), nI_in_ (by omega), fin _ ?_⟩, fun c3 => ⟨nI_in_ (by omega), fun c4 => ⟨nI_in_ (by omega), fin _ ?_⟩, fun c4 => ⟨nI_in_ (by omega), fin _ ?_⟩⟩⟩
        · simp only [zStep, if_neg k1, if_pos k2, if_pos c3]
        · simp only [zStep, if_neg k1, if_pos k2, if_neg c3, if_pos c4]; rfl
        · simp only [zStep, if_neg k1, if_pos k2, if_neg c3, if_neg c4]; rfl
      | 0, _ :: _, hS => exact hS.elim
      | t + 1, [], hS => exact hS.elim
    · -- a number or a name
      have k1 : -7 < M0 31 n := Int32.not_le.mp c1
      refine ⟨fun c => absurd c (nI_ge (a := t) (b := 160) (by omega) (by omega)), fun c => ?_⟩
      simp only [nI_clamp (show t < 2 ^ 31 by omega), nI_1]
      have fin : ∀ v : Int32, zStep (M0 35) (M0 31 n) st = v :: st → zr_X9_valueOf Q 49 [some (.ref 3), none, some (.ref 35), none, none, some (.int (nI to)), some (.int (nI (t + 1))), some (.int (nI (n + 1))), none] [] (ab_u M 33 (upd (M 33) t v)) N := fun v hv =>
        ih (n + 1) (t + 1) (v :: st) _ (by omega) (by omega) (zFr_u hF (by decide) _) ⟨by rw [ab_u_eq, upd_eq], by rw [ab_u_eq]; exact zStk_upd _ hS (Nat.le_refl _)⟩ (hE2 _ hv)
      refine ⟨fun c3 => ⟨ab_vp 6 rfl (by grind) (by grind), nI_in_ (by omega), fin _ ?_⟩, fun c3 => ⟨nI_in_ (by omega), fin _ ?_⟩⟩
      · simp only [zStep, if_pos k1, if_pos c3]
      · simp only [zStep, if_pos k1, if_neg c3]
theorem zE_X9_valueOf (as : List Value) (M : ab_M) (N : ab_N) (k : ab_R) (hT : zt_X9_valueOf as M N k) : ab_cs as ≤ 9 ∧ zr_X9_valueOf k 0 (ab_en as) [] M N := by
  unfold zt_X9_valueOf at hT
  split at hT
  case h_2 => exact hT.elim
  rename_i a th b
  obtain ⟨⟨rfl, rfl, ⟨h0, h1⟩, w, e0, e1, e2, hw, f1, f2, f3, f4, g0, g1, g2, g3⟩, hk⟩ := hT
  refine ⟨Nat.le_of_ble_eq_true rfl, zv_X9_valueOf_0 th ?_⟩
  obtain ⟨j, hj, rfl⟩ := nI_of (Int32.not_lt.mpr h0)
  have hj3 : j < 3 := (nI_ltI hj (by decide)).mp (show nI j < nI 3 from h1)
  rw [nI_clamp hj] at hk
  have hc : (M 3 3).toNatClampNeg = w := by rw [f1, nI_clamp (by omega)]
  simp only [f1, zN_mul w 3 3, zN_mul w 160 160, nI_add]
  have fin : ∀ fr to : Nat, to ≤ 960 → to ≤ fr + 160 → fr ≤ to → zFrom M j = fr → zTo M j = to → zr_X9_valueOf k 49 [some (.ref 3), none, some (.ref 35), none, none, some (.int (nI to)), some (.int (0 : Int32)), some (.int (nI fr)), none] [] M N := by
    intro fr to q1 q2 q3 q4 q5
    refine zL_X9_valueOf M fr to q1 q2 _ (fun M2 hF => hk M2 hF) (to - fr) fr 0 [] M (by omega) (by omega) (zFr_rf _ _) trivial ?_
    unfold zVal
    rw [q4, q5]
  match j, hj3 with
  | 0, _ =>
    refine ⟨fun _ => ⟨nI_in_ (by omega), ?_⟩, fun c => absurd rfl c⟩
    rw [nI_clamp (by omega), show w * 3 + 0 = w * 3 from rfl, f2]
    exact fin (w * 160) e0 (by omega) (by omega) (by omega) (by unfold zFrom; rw [if_pos rfl, hc]) (by unfold zTo; rw [hc, show w * 3 + 0 = w * 3 from rfl, f2, nI_clamp (by omega)])
  | 1, _ =>
    refine ⟨fun c => absurd c (by decide), fun _ => ?_⟩
    rw [show w * 3 + 1 = w * 3 + 1 from rfl, nI_pred]
    refine ⟨nI_in_ (by omega), nI_in_ (by omega), ?_⟩
    rw [nI_clamp (by omega), nI_clamp (by omega), f2, f3]
    exact fin e0 e1 (by omega) (by omega) (by omega) (by unfold zFrom; rw [if_neg (by decide), hc, show w * 3 + 1 - 1 = w * 3 from rfl, f2, nI_clamp (by omega)]) (by unfold zTo; rw [hc, f3, nI_clamp (by omega)])
  | 2, _ =>
    refine ⟨fun c => absurd c (by decide), fun _ => ?_⟩
    rw [show w * 3 + 2 = (w * 3 + 1) + 1 from rfl, nI_pred]
    refine ⟨nI_in_ (by omega), nI_in_ (by omega), ?_⟩
    rw [nI_clamp (by omega), nI_clamp (by omega), f3, show w * 3 + 1 + 1 = w * 3 + 2 from rfl, f4]
    exact fin e1 e2 (by omega) (by omega) (by omega) (by unfold zFrom; rw [if_neg (by decide), hc, show w * 3 + 2 - 1 = w * 3 + 1 from rfl, f3, nI_clamp (by omega)]) (by unfold zTo; rw [hc, f4, nI_clamp (by omega)])
theorem zV_X9_valueOf : ab_recv zw_C vwCl RX9 zt_X9_valueOf := fun as M N k hT => by
  unfold zt_X9_valueOf at hT
  split at hT
  case h_2 => exact hT.elim
  obtain ⟨⟨rfl, rfl, -⟩, -⟩ := hT
  exact ⟨_, _, _, _, _, _, rfl, rfl, rfl⟩
abbrev zR_X9_valueOf : Room := { frames := 1, cells := 0, slots := 0, locals := 22 }
set_option maxRecDepth 20000 in
theorem zM_X9_valueOf (l : Launch) : ab_Met l zw_C vwCl zZ_C yX9_valueOf cX9_valueOf 9 (some .int) zR_X9_valueOf zt_X9_valueOf := ab_ofRun (G := zg_X9_valueOf) (P := zp_X9_valueOf) rfl zo_X9_valueOf (by decide +kernel) zl_cl zl_lamC zf_X9_ok zs_tabOK ab_Cst_nil ab_Sta_nil (List.forall_mem_nil _) (List.forall_mem_cons.mpr ⟨ab_callS zZ_C_ok (zM_X9_truth l) (ab_in 601 (by decide +kernel) rfl) (ab_in 599 (by decide +kernel) rfl) (ab_in 600 (by decide +kernel) rfl) (ab_in 4 (by decide +kernel) rfl) (by unfold ab_yok; decide +kernel) ⟨rfl, rfl⟩ (by decide), List.forall_mem_cons.mpr ⟨ab_callS zZ_C_ok (zM_X9_joined l) (ab_in 604 (by decide +kernel) rfl) (ab_in 602 (by decide +kernel) rfl) (ab_in 603 (by decide +kernel) rfl) (ab_in 4 (by decide +kernel) rfl) (by unfold ab_yok; decide +kernel) ⟨rfl, rfl⟩ (by decide), List.forall_mem_nil _⟩⟩) zE_X9_valueOf
end
section
/-! Chances: what the law tells, kept until it is forgotten *)
-/
theorem zEval_nm {code nm nm2 : Nat → Int32} (hn : ∀ j, j < 6 → nm j = nm2 j) : ∀ (m n : Nat) (st : List Int32), zEval code nm n m st = zEval code nm2 n m st
  | 0, n, st => rfl
  | m + 1, n, st => by
    have e : zStep nm (code n) st = zStep nm2 (code n) st := by
      unfold zStep
      by_cases h1 : -7 < code n
      · rw [if_pos h1, if_pos h1]
        by_cases h2 : code n < 0
        · rw [if_pos h2, if_pos h2]
          rw [hn]
          have h3 : vp_in (-1 - code n) 6 := ab_vp 6 rfl (by grind) (by grind)
          exact Nat.not_le.mp fun q => h3 (Or.inr q)
        · rw [if_neg h2, if_neg h2]
      · rw [if_neg h1, if_neg h1]
    show zEval code nm (n + 1) m _ = zEval code nm2 (n + 1) m _
    rw [e]
    exact zEval_nm hn m (n + 1) _
def zNm (d : ab_M) (p h is by_ : Nat) : Nat → Int32 := fun j => match j with
  | 0 => d 18 h
  | 1 => d 13 p
  | 2 => d 17 2
  | 3 => nI is
  | 4 => d 14 p
  | _ => nI by_
def zClamp (m x : Int32) : Int32 := if 0 < (if m < x then m else x) then (if m < x then m else x) else 0
def zAskN (d : ab_M) (th p h is by_ : Nat) : Nat := (zClamp (zs_MOST_OF_THING th) (zVal d th (zNm d p h is by_))).toNatClampNeg
theorem zClamp_n (th : Nat) (hth : th < 3) (x : Int32) : zClamp (zs_MOST_OF_THING th) x = nI (zClamp (zs_MOST_OF_THING th) x).toNatClampNeg ∧ (zClamp (zs_MOST_OF_THING th) x).toNatClampNeg ≤ 999 := by
  have h0 : 0 ≤ zClamp (zs_MOST_OF_THING th) x := by unfold zClamp; grind
  have h1 : zClamp (zs_MOST_OF_THING th) x ≤ 999 := by
    unfold zClamp
    have : zs_MOST_OF_THING th ≤ 999 := by
      match th, hth with
      | 0, _ => decide
      | 1, _ => decide
      | 2, _ => decide
    grind
  refine ⟨ab_cl0 h0, ?_⟩
  obtain ⟨j, hj, e⟩ := nI_of (Int32.not_lt.mpr h0)
  rw [e] at h1 ⊢
  rw [nI_clamp hj]
  exact (nI_leI hj (by decide)).mp (show nI j ≤ nI 999 from h1)
theorem zAskN_fr {M M2 : ab_M} (h3 : M2 3 = M 3) (h13 : M2 13 = M 13) (h14 : M2 14 = M 14) (h17 : M2 17 = M 17) (h18 : M2 18 = M 18) (h31 : M2 31 = M 31) (h32 : M2 32 = M 32) : zAskN M2 = zAskN M := by
  funext th p h is by_
  have e : zNm M2 p h is by_ = zNm M p h is by_ := by
    funext j
    unfold zNm
    rw [h13, h14, h17, h18]
  unfold zAskN zVal zFrom zTo
  rw [e, h3, h31, h32]
def zIx (row p h is : Nat) : Nat := ((row * 8 + p) * 12 + h) * 13 + is
def zRt (row : Nat) : Nat := if row = 0 then 0 else if row = 2 then 2 else 1
/-- what is kept is right, where it is of this age -/
def zCache (M : ab_M) : Prop := ∃ age : Nat, 1 ≤ age ∧ age ≤ 2000000 ∧ M 5 4 = nI age ∧ ∀ row p h is : Nat, row < 7 → row ≠ 1 → p < 8 → h < 12 → is < 13 → ∃ v : Nat, M 36 (zIx row p h is) = nI v ∧ v < (age + 1) * 1024 ∧ (v / 1024 = age → v % 1024 = zAskN M (zRt row) p h is (row - 3))
theorem zCache_fr {M M2 : ab_M} (h : zCache M) (h3 : M2 3 = M 3) (h5 : M2 5 4 = M 5 4) (h13 : M2 13 = M 13) (h14 : M2 14 = M 14) (h17 : M2 17 = M 17) (h18 : M2 18 = M 18) (h31 : M2 31 = M 31) (h32 : M2 32 = M 32) (h36 : M2 36 = M 36) : zCache M2 := by
  obtain ⟨age, a1, a2, a3, a4⟩ := h
  refine ⟨age, a1, a2, by rw [h5, a3], fun row p h is b1 b2 b3 b4 b5 => ?_⟩
  rw [h36, zAskN_fr h3 h13 h14 h17 h18 h31 h32]
  exact a4 row p h is b1 b2 b3 b4 b5
theorem zAge_lt {v age : Nat} (h : v < (age + 1) * 1024) : v < (age + 1 + 1) * 1024 ∧ ¬ v / 1024 = age + 1 := by omega
/-- forgotten: anything may have changed but what is kept -/
theorem zCache_new {M M2 : ab_M} (h : zCache M) {age : Nat} (ha : M 5 4 = nI age) (hb : age < 2000000) (h5 : M2 5 4 = nI (age + 1)) (h36 : M2 36 = M 36) : zCache M2 := by
  obtain ⟨age', a1, a2, a3, a4⟩ := h
  have e : age' = age := (nI_eq (by omega) (by omega)).mp (a3.symm.trans ha)
  subst e
  refine ⟨age' + 1, by omega, by omega, h5, fun row p h is b1 b2 b3 b4 b5 => ?_⟩
  obtain ⟨v, c1, c2, -⟩ := a4 row p h is b1 b2 b3 b4 b5
  exact ⟨v, by rw [h36, c1], (zAge_lt c2).1, fun q => absurd q (zAge_lt c2).2⟩
theorem zIx_inj {r p h i r2 p2 h2 i2 : Nat} (b : p < 8) (c : h < 12) (d : i < 13) (b2 : p2 < 8) (c2 : h2 < 12) (d2 : i2 < 13) (e : zIx r p h i = zIx r2 p2 h2 i2) : r = r2 ∧ p = p2 ∧ h = h2 ∧ i = i2 := by
  unfold zIx at e
  omega
def zIs (d : ab_M) (th p st : Nat) : Nat := if th = 2 then st - (d 15 p).toNatClampNeg else st
/-- what asks() tells -/
def zAsk (d : ab_M) (th p h st pc : Nat) : Nat := zAskN d th p h (zIs d th p st) (if th = 1 then pc else 0)
/-- what asking needs -/
def zAsks (M : ab_M) : Prop := zLawOK M ∧ zCache M ∧ ∀ p, p < 8 → ∃ s : Nat, s ≤ 3 ∧ M 15 p = nI s
def zt_X1_ask : ab_T := ab_m5 5 (fun th p h st pc M _ => zAsks M ∧ ∃ t q g s c P : Nat, t < 3 ∧ q < P ∧ P ≤ 8 ∧ g < 12 ∧ s ≤ 12 ∧ c ≤ 3 ∧ th = nI t ∧ p = nI q ∧ h = nI g ∧ st = nI s ∧ pc = nI c ∧ M 1 4 = nI P)
  (fun th p h st pc M N o M2 N2 => N2 = N ∧ zFr [33, 35, 36] M M2 ∧ zAsks M2 ∧ o = some (.int (nI (zAsk M th.toNatClampNeg p.toNatClampNeg h.toNatClampNeg st.toNatClampNeg pc.toNatClampNeg))))
theorem zt_X1_ask_mono : ab_mono zt_X1_ask := ab_m5_mono _ _ _
theorem zV_X1_ask : ab_recv zw_C vwCl RX1 zt_X1_ask := ab_m5_v rfl rfl
def zp_X1_ask : ab_P := [(0, .iload_n 1, 1, [1], []),
  (1, .ifCond .lt 52, 4, [53], []),
  (4, .iload_n 1, 5, [1], []),
  (5, .iconst 3, 6, [], [3]),
  (6, .if_icmp .ge 47, 9, [53], []),
  (9, .aload_n 0, 10, [0], []),
  (10, .getfield 22, 13, [], []),
  (13, .iload_n 2, 14, [2], []),
  (14, .invokevirtual 30, 17, [], []),
  (17, .ifCond .eq 36, 20, [53], []),
  (20, .iload_n 3, 21, [3], []),
  (21, .ifCond .lt 32, 24, [53], []),
  (24, .iload_n 3, 25, [3], []),
  (25, .bipush 12, 27, [], [12]),
  (27, .if_icmp .ge 26, 30, [53], []),
  (30, .iload 4, 32, [], []),
  (32, .ifCond .lt 21, 35, [53], []),
  (35, .iload 4, 37, [], []),
  (37, .bipush 12, 39, [], [12]),
  (39, .if_icmp .gt 14, 42, [53], []),
  (42, .iload 5, 44, [], []),
  (44, .ifCond .lt 9, 47, [53], []),
  (47, .iload 5, 49, [], []),
  (49, .iconst 3, 50, [], [3]),
  (50, .if_icmp .le 5, 53, [55], []),
  (53, .iconst 0, 54, [], [0]),
  (54, .ireturn, 55, [], []),
  (55, .iload_n 1, 56, [1], []),
  (56, .iconst 2, 57, [], [2]),
  (57, .if_icmp .ne 22, 60, [79], []),
  (60, .iconst 0, 61, [], [0]),
  (61, .iload 4, 63, [], []),
  (63, .aload_n 0, 64, [0], []),
  (64, .getfield 22, 67, [], []),
  (67, .getfield 36, 70, [], []),
  (70, .iload_n 2, 71, [2], []),
  (71, .iaload, 72, [], []),
  (72, .isub, 73, [], []),
  (73, .invokestatic 39, 76, [], []),
  (76, .goto 5, 79, [81], []),
  (79, .iload 4, 81, [], []),
  (81, .istore 6, 83, [], []),
  (83, .iload_n 1, 84, [1], []),
  (84, .iconst 1, 85, [], [1]),
  (85, .if_icmp .ne 8, 88, [93], []),
  (88, .iload 5, 90, [], []),
  (90, .goto 4, 93, [94], []),
  (93, .iconst 0, 94, [], [0]),
  (94, .istore 7, 96, [], []),
  (96, .iload_n 1, 97, [1], []),
  (97, .iconst 1, 98, [], [1]),
  (98, .if_icmp .ne 10, 101, [108], []),
  (101, .iconst 3, 102, [], [3]),
  (102, .iload 5, 104, [], []),
  (104, .iadd, 105, [], []),
  (105, .goto 4, 108, [109], []),
  (108, .iload_n 1, 109, [1], []),
  (109, .istore 8, 111, [], []),
  (111, .iload 8, 113, [], []),
  (113, .bipush 8, 115, [], [8]),
  (115, .imul, 116, [], []),
  (116, .iload_n 2, 117, [2], []),
  (117, .iadd, 118, [], []),
  (118, .bipush 12, 120, [], [12]),
  (120, .imul, 121, [], []),
  (121, .iload_n 3, 122, [3], []),
  (122, .iadd, 123, [], []),
  (123, .bipush 13, 125, [], [13]),
  (125, .imul, 126, [], []),
  (126, .iload 6, 128, [], []),
  (128, .iadd, 129, [], []),
  (129, .istore 9, 131, [], []),
  (131, .aload_n 0, 132, [0], []),
  (132, .getfield 15, 135, [], []),
  (135, .iload 9, 137, [], []),
  (137, .iaload, 138, [], []),
  (138, .sipush 1024, 141, [], [1024]),
  (141, .idiv, 142, [], []),
  (142, .aload_n 0, 143, [0], []),
  (143, .getfield 18, 146, [], []),
  (146, .if_icmp .eq 123, 149, [269], []),
  (149, .aload_n 0, 150, [0], []),
  (150, .getfield 9, 153, [], []),
  (153, .iconst 0, 154, [], [0]),
  (154, .aload_n 0, 155, [0], []),
  (155, .getfield 22, 158, [], []),
  (158, .getfield 45, 161, [], []),
  (161, .iload_n 3, 162, [3], []),
  (162, .iaload, 163, [], []),
  (163, .iastore, 164, [], []),
  (164, .aload_n 0, 165, [0], []),
  (165, .getfield 9, 168, [], []),
  (168, .iconst 1, 169, [], [1]),
  (169, .aload_n 0, 170, [0], []),
  (170, .getfield 22, 173, [], []),
  (173, .getfield 48, 176, [], []),
  (176, .iload_n 2, 177, [2], []),
  (177, .iaload, 178, [], []),
  (178, .iastore, 179, [], []),
  (179, .aload_n 0, 180, [0], []),
  (180, .getfield 9, 183, [], []),
  (183, .iconst 2, 184, [], [2]),
  (184, .aload_n 0, 185, [0], []),
  (185, .getfield 22, 188, [], []),
  (188, .getfield 51, 191, [], []),
  (191, .iconst 2, 192, [], [2]),
  (192, .iaload, 193, [], []),
  (193, .iastore, 194, [], []),
  (194, .aload_n 0, 195, [0], []),
  (195, .getfield 9, 198, [], []),
  (198, .iconst 3, 199, [], [3]),
  (199, .iload 6, 201, [], []),
  (201, .iastore, 202, [], []),
  (202, .aload_n 0, 203, [0], []),
  (203, .getfield 9, 206, [], []),
  (206, .iconst 4, 207, [], [4]),
  (207, .aload_n 0, 208, [0], []),
  (208, .getfield 22, 211, [], []),
  (211, .getfield 54, 214, [], []),
  (214, .iload_n 2, 215, [2], []),
  (215, .iaload, 216, [], []),
  (216, .iastore, 217, [], []),
  (217, .aload_n 0, 218, [0], []),
  (218, .getfield 9, 221, [], []),
  (221, .iconst 5, 222, [], [5]),
  (222, .iload 7, 224, [], []),
  (224, .iastore, 225, [], []),
  (225, .aload_n 0, 226, [0], []),
  (226, .getfield 26, 229, [], []),
  (229, .iload_n 1, 230, [1], []),
  (230, .aload_n 0, 231, [0], []),
  (231, .getfield 9, 234, [], []),
  (234, .invokevirtual 57, 237, [], []),
  (237, .istore 10, 239, [], []),
  (239, .aload_n 0, 240, [0], []),
  (240, .getfield 15, 243, [], []),
  (243, .iload 9, 245, [], []),
  (245, .aload_n 0, 246, [0], []),
  (246, .getfield 18, 249, [], []),
  (249, .sipush 1024, 252, [], [1024]),
  (252, .imul, 253, [], []),
  (253, .iconst 0, 254, [], [0]),
  (254, .iload 10, 256, [], []),
  (256, .getstatic 63, 259, [], []),
  (259, .iload_n 1, 260, [1], []),
  (260, .iaload, 261, [], []),
  (261, .invokestatic 66, 264, [], []),
  (264, .invokestatic 39, 267, [], []),
  (267, .iadd, 268, [], []),
  (268, .iastore, 269, [], []),
  (269, .aload_n 0, 270, [0], []),
  (270, .getfield 15, 273, [], []),
  (273, .iload 9, 275, [], []),
  (275, .iaload, 276, [], []),
  (276, .sipush 1024, 279, [], [1024]),
  (279, .irem, 280, [], []),
  (280, .ireturn, 281, [], [])]
theorem zo_X1_ask : ab_ok cX1_ask zp_X1_ask = true := by decide +kernel
def zg_X1_ask : ab_G := (zw_C, zs_tab, zf_X1, [], [(63, 52)], [(30, 2, zt_X2_has), (57, 3, zt_X9_valueOf)], [(39, 2, zt_max), (66, 2, zt_min)])
theorem zm_X1_ask : ab_MG zg_X1_ask := ab_MGof (List.forall_mem_cons.mpr ⟨ab_pure_mono _, List.forall_mem_cons.mpr ⟨zt_X9_valueOf_mono, List.forall_mem_nil _⟩⟩) (List.forall_mem_cons.mpr ⟨ab_pure_mono _, List.forall_mem_cons.mpr ⟨ab_pure_mono _, List.forall_mem_nil _⟩⟩)
abbrev zr_X1_ask (Q : ab_R) : ab_K := ab_Run zg_X1_ask zp_X1_ask (some .int) 11 Q
set_option maxRecDepth 20000 in
theorem zv_X1_ask_0 {Q : ab_R} {M : ab_M} {N : ab_N} (l1 : Int32) (l2 : Int32) (l3 : Int32) (l4 : Int32) (l5 : Int32) (h : (l1 < 0 → Q (some (.int (0 : Int32))) M N) ∧ (¬ (l1 < 0) → ((3 : Int32) ≤ l1 → Q (some (.int (0 : Int32))) M N) ∧ (¬ ((3 : Int32) ≤ l1) → ((ab_b (0 ≤ l2 ∧ l2 < (M 1) 4 ∧ l2 < 8)) = 0 → Q (some (.int (0 : Int32))) M N) ∧ (¬ ((ab_b (0 ≤ l2 ∧ l2 < (M 1) 4 ∧ l2 < 8)) = 0) → (l3 < 0 → Q (some (.int (0 : Int32))) M N) ∧ (¬ (l3 < 0) → ((12 : Int32) ≤ l3 → Q (some (.int (0 : Int32))) M N) ∧ (¬ ((12 : Int32) ≤ l3) → (l4 < 0 → Q (some (.int (0 : Int32))) M N) ∧ (¬ (l4 < 0) → ((12 : Int32) < l4 → Q (some (.int (0 : Int32))) M N) ∧ (¬ ((12 : Int32) < l4) → (l5 < 0 → Q (some (.int (0 : Int32))) M N) ∧ (¬ (l5 < 0) → (l5 ≤ (3 : Int32) → (l1 = (2 : Int32) → vp_in l2 8 ∧ (zr_X1_ask Q 81 [some (.ref 5), some (.int l1), some (.int l2), some (.int l3), none, some (.int l5), none, none, none, none, none] [.int (if (0 : Int32) < (l4 - (M 15 l2.toNatClampNeg)) then (l4 - (M 15 l2.toNatClampNeg)) else (0 : Int32))] M N)) ∧ (¬ (l1 = (2 : Int32)) → zr_X1_ask Q 81 [some (.ref 5), some (.int l1), some (.int l2), some (.int l3), none, some (.int l5), none, none, none, none, none] [.int l4] M N)) ∧ (¬ (l5 ≤ (3 : Int32)) → Q (some (.int (0 : Int32))) M N)))))))))) : zr_X1_ask Q 0 [some (.ref 5), some (.int l1), some (.int l2), some (.int l3), some (.int l4), some (.int l5)] [] M N := ab_Run_s zm_X1_ask (sp := [(81, [true, true, true, true, false, true, false, false, false, false, false]), (109, [true, true, true, true, false, false, true, true, false, false, false]), (237, [true, true, false, false, false, false, false, false, false, true, false])]) 159 h
set_option maxRecDepth 20000 in
theorem zv_X1_ask_81 {Q : ab_R} {M : ab_M} {N : ab_N} (l1 : Int32) (l2 : Int32) (l3 : Int32) (l5 : Int32) (s0 : Int32) (h : (l1 = (1 : Int32) → (l1 = (1 : Int32) → zr_X1_ask Q 109 [some (.ref 5), some (.int l1), some (.int l2), some (.int l3), none, none, some (.int s0), some (.int l5), none, none, none] [.int ((3 : Int32) + l5)] M N) ∧ (¬ (l1 = (1 : Int32)) → zr_X1_ask Q 109 [some (.ref 5), some (.int l1), some (.int l2), some (.int l3), none, none, some (.int s0), some (.int l5), none, none, none] [.int l1] M N)) ∧ (¬ (l1 = (1 : Int32)) → (l1 = (1 : Int32) → zr_X1_ask Q 109 [some (.ref 5), some (.int l1), some (.int l2), some (.int l3), none, none, some (.int s0), some (.int (0 : Int32)), none, none, none] [.int ((3 : Int32) + l5)] M N) ∧ (¬ (l1 = (1 : Int32)) → zr_X1_ask Q 109 [some (.ref 5), some (.int l1), some (.int l2), some (.int l3), none, none, some (.int s0), some (.int (0 : Int32)), none, none, none] [.int l1] M N))) : zr_X1_ask Q 81 [some (.ref 5), some (.int l1), some (.int l2), some (.int l3), none, some (.int l5), none, none, none, none, none] [.int s0] M N := ab_Run_s zm_X1_ask (sp := [(81, [true, true, true, true, false, true, false, false, false, false, false]), (109, [true, true, true, true, false, false, true, true, false, false, false]), (237, [true, true, false, false, false, false, false, false, false, true, false])]) 159 h
set_option maxRecDepth 20000 in
theorem zv_X1_ask_109 {Q : ab_R} {M : ab_M} {N : ab_N} (l1 : Int32) (l2 : Int32) (l3 : Int32) (l6 : Int32) (l7 : Int32) (s0 : Int32) (h : vp_in ((((((s0 * (8 : Int32)) + l2) * (12 : Int32)) + l3) * (13 : Int32)) + l6) 8736 ∧ (¬ (1024 : Int32) = 0 ∧ ((((M 36 ((((((s0 * (8 : Int32)) + l2) * (12 : Int32)) + l3) * (13 : Int32)) + l6).toNatClampNeg) / (1024 : Int32)) = (M 5 4) → vp_in ((((((s0 * (8 : Int32)) + l2) * (12 : Int32)) + l3) * (13 : Int32)) + l6) 8736 ∧ (¬ (1024 : Int32) = 0 ∧ (Q (some (.int ((M 36 ((((((s0 * (8 : Int32)) + l2) * (12 : Int32)) + l3) * (13 : Int32)) + l6).toNatClampNeg) - (M 36 ((((((s0 * (8 : Int32)) + l2) * (12 : Int32)) + l3) * (13 : Int32)) + l6).toNatClampNeg) / (1024 : Int32) * (1024 : Int32)))) M N))) ∧ (¬ (((M 36 ((((((s0 * (8 : Int32)) + l2) * (12 : Int32)) + l3) * (13 : Int32)) + l6).toNatClampNeg) / (1024 : Int32)) = (M 5 4)) → vp_in l3 12 ∧ (vp_in (0 : Int32) 6 ∧ (let z1 : Nat → Int32 := upd (M 35) 0 (M 18 l3.toNatClampNeg); vp_in l2 8 ∧ (vp_in (1 : Int32) 6 ∧ (let z2 : Nat → Int32 := upd (z1) 1 (M 13 l2.toNatClampNeg); vp_in (2 : Int32) 5 ∧ (vp_in (2 : Int32) 6 ∧ (let z3 : Nat → Int32 := upd (z2) 2 (M 17 2); vp_in (3 : Int32) 6 ∧ (let z4 : Nat → Int32 := upd (z3) 3 l6; vp_in l2 8 ∧ (vp_in (4 : Int32) 6 ∧ (let z5 : Nat → Int32 := upd (z4) 4 (M 14 l2.toNatClampNeg); vp_in (5 : Int32) 6 ∧ (let z6 : Nat → Int32 := upd (z5) 5 l7; zt_X9_valueOf [.ref 3, .int l1, .ref 35] (ab_u (ab_u (ab_u (ab_u (ab_u (ab_u M 35 z1) 35 z2) 35 z3) 35 z4) 35 z5) 35 z6) N (fun r M2 N2 => zr_X1_ask Q 237 [some (.ref 5), some (.int l1), none, none, none, none, none, none, none, some (.int ((((((s0 * (8 : Int32)) + l2) * (12 : Int32)) + l3) * (13 : Int32)) + l6)), none] (ab_ol r []) M2 N2))))))))))))))) : zr_X1_ask Q 109 [some (.ref 5), some (.int l1), some (.int l2), some (.int l3), none, none, some (.int l6), some (.int l7), none, none, none] [.int s0] M N := ab_Run_s zm_X1_ask (sp := [(81, [true, true, true, true, false, true, false, false, false, false, false]), (109, [true, true, true, true, false, false, true, true, false, false, false]), (237, [true, true, false, false, false, false, false, false, false, true, false])]) 159 h
set_option maxRecDepth 20000 in
theorem zv_X1_ask_237 {Q : ab_R} {M : ab_M} {N : ab_N} (l1 : Int32) (l9 : Int32) (s0 : Int32) (h : vp_in l1 3 ∧ (vp_in l9 8736 ∧ (let z1 : Nat → Int32 := upd (M 36) l9.toNatClampNeg (((M 5 4) * (1024 : Int32)) + (if (0 : Int32) < (if (zs_MOST_OF_THING l1.toNatClampNeg) < s0 then (zs_MOST_OF_THING l1.toNatClampNeg) else s0) then (if (zs_MOST_OF_THING l1.toNatClampNeg) < s0 then (zs_MOST_OF_THING l1.toNatClampNeg) else s0) else (0 : Int32))); vp_in l9 8736 ∧ (¬ (1024 : Int32) = 0 ∧ (Q (some (.int ((z1 l9.toNatClampNeg) - (z1 l9.toNatClampNeg) / (1024 : Int32) * (1024 : Int32)))) (ab_u M 36 z1) N))))) : zr_X1_ask Q 237 [some (.ref 5), some (.int l1), none, none, none, none, none, none, none, some (.int l9), none] [.int s0] M N := ab_Run_s zm_X1_ask (sp := [(81, [true, true, true, true, false, true, false, false, false, false, false]), (109, [true, true, true, true, false, false, true, true, false, false, false]), (237, [true, true, false, false, false, false, false, false, false, true, false])]) 159 h
theorem zAsks_of {M M2 : ab_M} (h : zAsks M) (hF : zFr [33, 35] M M2) : zAsks M2 := by
  obtain ⟨h1, h2, h3⟩ := h
  refine ⟨?_, zCache_fr h2 (hF 3 (by decide)) (by rw [hF 5 (by decide)]) (hF 13 (by decide)) (hF 14 (by decide)) (hF 17 (by decide)) (hF 18 (by decide)) (hF 31 (by decide)) (hF 32 (by decide)) (hF 36 (by decide)), ?_⟩
  · unfold zLawOK at h1 ⊢
    rw [hF 3 (by decide), hF 32 (by decide)]
    exact h1
  · rw [hF 15 (by decide)]
    exact h3
theorem zP_X1_ask {Q : ab_R} {N : ab_N} {M : ab_M} (hA : zAsks M) (t q g i c : Nat) (ht : t < 3) (hq : q < 8) (hg : g < 12) (hi : i ≤ 12) (hc : c ≤ 3) (hc1 : t ≠ 1 → c = 0) (row : Nat) (hrow : row = if t = 1 then 3 + c else t)
    (hk : ∀ M2, zFr [33, 35, 36] M M2 → zAsks M2 → Q (some (.int (nI (zAskN M t q g i c)))) M2 N) : zr_X1_ask Q 109 [some (.ref 5), some (.int (nI t)), some (.int (nI q)), some (.int (nI g)), none, none, some (.int (nI i)), some (.int (nI c)), none, none, none] [.int (nI row)] M N := by
  obtain ⟨hL, hC, hS⟩ := id hA
  obtain ⟨age, a1, a2, a3, a4⟩ := id hC
  have hr7 : row < 7 ∧ row ≠ 1 ∧ zRt row = t ∧ row - 3 = c := by
    unfold zRt
    rw [hrow]
    by_cases e : t = 1
    · subst e
      rw [if_pos rfl]
      refine ⟨by omega, by omega, ?_, by omega⟩
      rw [if_neg (by omega), if_neg (by omega)]
    · have := hc1 e
      rw [if_neg e]
      refine ⟨by omega, e, ?_, by omega⟩
      by_cases e0 : t = 0
      · rw [if_pos e0, e0]
      · rw [if_neg e0, if_pos (by omega)]; omega
  obtain ⟨r1, r2, r3, r4⟩ := hr7
  have hix : zIx row q g i < 8736 := by unfold zIx; omega
  obtain ⟨v, v1, v2, v3⟩ := a4 row q g i r1 r2 hq hg (by omega)
  refine zv_X1_ask_109 _ _ _ _ _ _ ?_
  have eix : ((((nI row * 8 + nI q) * 12) + nI g) * 13) + nI i = nI (zIx row q g i) := by
    rw [zN_mul row 8 8, nI_add, zN_mul _ 12 12, nI_add, zN_mul _ 13 13, nI_add]; rfl
  rw [eix]
  have hin : vp_in (nI (zIx row q g i)) 8736 := nI_in_ hix
  have cix : (nI (zIx row q g i)).toNatClampNeg = zIx row q g i := nI_clamp (by omega)
  have e1024 : (1024 : Int32) = nI 1024 := rfl
  have hv31 : v < 2 ^ 31 := by omega
  refine ⟨hin, by decide, fun c1 => ⟨hin, by decide, ?_⟩, fun c1 => ?_⟩
  · rw [cix, v1, e1024, pk_div hv31 (by decide) (by decide), a3] at c1
    have c2 : v / 1024 = age := (nI_eq (by omega) (by omega)).mp c1
    have c3 := v3 c2
    rw [cix, v1, e1024, pk_rem hv31 (by decide) (by decide), c3, r3, r4]
    exact hk M (zFr_rf _ _) hA
  · refine ⟨nI_in_ hg, ab_vpk (by decide), ?_⟩
    intro z1
    refine ⟨nI_in_ hq, ab_vpk (by decide), ?_⟩
    intro z2
    refine ⟨ab_vpk (by decide), ab_vpk (by decide), ?_⟩
    intro z3
    refine ⟨ab_vpk (by decide), ?_⟩
    intro z4
    refine ⟨nI_in_ hq, ab_vpk (by decide), ?_⟩
    intro z5
    refine ⟨ab_vpk (by decide), ?_⟩
    intro z6
    have hz : ∀ j, j < 6 → z6 j = zNm M q g i c j := by
      intro j hj
      have e1 : (nI g).toNatClampNeg = g := nI_clamp (by omega)
      have e2 : (nI q).toNatClampNeg = q := nI_clamp (by omega)
      match j, hj with
      | 0, _ => simp [z6, z5, z4, z3, z2, z1, upd, zNm, e1]
      | 1, _ => simp [z6, z5, z4, z3, z2, z1, upd, zNm, e2]
      | 2, _ => simp [z6, z5, z4, z3, z2, z1, upd, zNm]
      | 3, _ => simp [z6, z5, z4, z3, z2, z1, upd, zNm]
      | 4, _ => simp [z6, z5, z4, z3, z2, z1, upd, zNm, e2]
      | 5, _ => simp [z6, z5, z4, z3, z2, z1, upd, zNm]
    clear_value z6
    generalize hM1 : ab_u (ab_u (ab_u (ab_u (ab_u (ab_u M 35 z1) 35 z2) 35 z3) 35 z4) 35 z5) 35 z6 = M1
    have hF1 : zFr [33, 35] M M1 := by
      rw [← hM1]
      exact zFr_u (zFr_u (zFr_u (zFr_u (zFr_u (zFr_u (zFr_rf _ _) (by decide) _) (by decide) _) (by decide) _) (by decide) _) (by decide) _) (by decide) _
    have h35 : M1 35 = z6 := by rw [← hM1, ab_u_eq]
    have hA1 := zAsks_of hA hF1
    refine ⟨⟨rfl, rfl, ⟨(nI_leI (by decide) (by omega)).mpr (Nat.zero_le t), (nI_ltI (by omega) (by decide)).mpr ht⟩, hA1.1⟩, fun M2 hF2 => ?_⟩
    have hF : zFr [33, 35] M M2 := zFr_tr hF1 (zFr_mono hF2 (by decide))
    have hA2 := zAsks_of hA hF
    rw [h35, nI_clamp (show t < 2 ^ 31 by omega)]
    have eV : zVal M1 t z6 = zVal M t (zNm M q g i c) := by
      unfold zVal zFrom zTo
      rw [hF1 3 (by decide), hF1 31 (by decide), hF1 32 (by decide)]
      rw [zEval_nm hz]
    rw [eV]
    show zr_X1_ask Q 237 [some (.ref 5), some (.int (nI t)), none, none, none, none, none, none, none, some (.int (nI (zIx row q g i))), none] [.int (zVal M t (zNm M q g i c))] M2 N
    obtain ⟨k1, k2⟩ := zClamp_n t ht (zVal M t (zNm M q g i c))
    have ek : (zClamp (zs_MOST_OF_THING t) (zVal M t (zNm M q g i c))).toNatClampNeg = zAskN M t q g i c := rfl
    rw [ek] at k1 k2
    refine zv_X1_ask_237 _ _ _ ⟨nI_in_ ht, hin, ?_⟩
    intro y1
    have ey : y1 = upd (M2 36) (zIx row q g i) (nI (age * 1024 + zAskN M t q g i c)) := by
      show upd (M2 36) _ _ = _
      rw [cix, hF 5 (by decide), a3, zN_mul age 1024 1024, nI_clamp (show t < 2 ^ 31 by omega)]
      have : (if (0 : Int32) < (if zs_MOST_OF_THING t < zVal M t (zNm M q g i c) then zs_MOST_OF_THING t else zVal M t (zNm M q g i c)) then (if zs_MOST_OF_THING t < zVal M t (zNm M q g i c) then zs_MOST_OF_THING t else zVal M t (zNm M q g i c)) else 0) = nI (zAskN M t q g i c) := k1
      rw [this, nI_add]
    clear_value y1
    subst ey
    refine ⟨hin, by decide, ?_⟩
    rw [cix, upd_eq, e1024, pk_rem (by omega) (by decide) (by decide), show (age * 1024 + zAskN M t q g i c) % 1024 = zAskN M t q g i c by omega]
    refine hk _ (zFr_u (zFr_mono hF (by decide)) (by decide) _) ?_
    have hN : zAskN (ab_u M2 36 (upd (M2 36) (zIx row q g i) (nI (age * 1024 + zAskN M t q g i c)))) = zAskN M := zAskN_fr (hF 3 (by decide)) (hF 13 (by decide)) (hF 14 (by decide)) (hF 17 (by decide)) (hF 18 (by decide)) (hF 31 (by decide)) (hF 32 (by decide))
    refine ⟨hA2.1, ⟨age, a1, a2, by show M2 5 4 = _; rw [hF 5 (by decide), a3], fun row2 p2 h2 i2 b1 b2 b3 b4 b5 => ?_⟩, hA2.2.2⟩
    rw [ab_u_eq, hN]
    by_cases hx : zIx row2 p2 h2 i2 = zIx row q g i
    · obtain ⟨rfl, rfl, rfl, rfl⟩ := zIx_inj b3 b4 b5 hq hg (by omega) hx
      rw [upd_eq]
      refine ⟨_, rfl, by omega, fun _ => ?_⟩
      rw [r3, r4]
      omega
    · rw [upd_ne _ _ hx, hF 36 (by decide)]
      exact a4 row2 p2 h2 i2 b1 b2 b3 b4 b5
theorem zE_X1_ask (as : List Value) (M : ab_M) (N : ab_N) (k : ab_R) (hT : zt_X1_ask as M N k) : ab_cs as ≤ 11 ∧ zr_X1_ask k 0 (ab_en as) [] M N := by
  obtain ⟨th, p, h, st, pc, rfl, ⟨hA, t, q, g, s, c, P, h1, h2, h3, h4, h5, h6, rfl, rfl, rfl, rfl, rfl, hP⟩, hk⟩ := ab_m5_e hT
  refine ⟨Nat.le_of_ble_eq_true rfl, zv_X1_ask_0 _ _ _ _ _ ?_⟩
  have hk2 : ∀ M2, zFr [33, 35, 36] M M2 → zAsks M2 → k (some (.int (nI (zAskN M t q g (zIs M t q s) (if t = 1 then c else 0))))) M2 N := fun M2 hF hA2 => hk _ _ _ ⟨rfl, hF, hA2, by rw [nI_clamp (by omega), nI_clamp (by omega), nI_clamp (by omega), nI_clamp (by omega), nI_clamp (by omega)]; rfl⟩
  obtain ⟨sk, hs1, hs2⟩ := hA.2.2 q (by omega)
  have nn : ∀ n : Nat, n < 100 → ¬ nI n < 0 := fun n hn => nI_pos (by omega)
  have j81 : ∀ i : Nat, i ≤ 12 → i = zIs M t q s → zr_X1_ask k 81 [some (.ref 5), some (.int (nI t)), some (.int (nI q)), some (.int (nI g)), none, some (.int (nI c)), none, none, none, none, none] [.int (nI i)] M N := by
    intro i hi ei
    subst ei
    refine zv_X1_ask_81 _ _ _ _ _ ⟨fun c1 => ⟨fun _ => ?_, fun c2 => absurd c1 c2⟩, fun c1 => ⟨fun c2 => absurd c2 c1, fun _ => ?_⟩⟩
    · have et : t = 1 := (nI_eq (by omega) (by decide)).mp (show nI t = nI 1 from c1)
      rw [show (3 : Int32) = nI 3 from rfl, nI_add]
      rw [if_pos et] at hk2
      exact zP_X1_ask hA t q g _ c h1 (by omega) h4 hi h6 (fun z => absurd et z) _ (by rw [if_pos et]) hk2
    · have et : ¬ t = 1 := fun z => c1 (by rw [z]; rfl)
      rw [if_neg et] at hk2
      exact zP_X1_ask hA t q g _ 0 h1 (by omega) h4 hi (by omega) (fun _ => rfl) t (by rw [if_neg et]) hk2
  refine ⟨fun z => absurd z (nn t (by omega)), fun _ => ⟨fun z => absurd z (nI_ge (b := 3) h1 (by omega)), fun _ => ⟨fun z => absurd (ab_b_0.mp z) ?_, fun _ => ⟨fun z => absurd z (nn g (by omega)), fun _ => ⟨fun z => absurd z (nI_ge (b := 12) h4 (by omega)), fun _ => ⟨fun z => absurd z (nn s (by omega)), fun _ => ⟨fun z => absurd z (nI_nlt (a := 12) (b := s) h5 (by omega)), fun _ => ⟨fun z => absurd z (nn c (by omega)), fun _ => ⟨fun _ => ⟨fun c1 => ⟨nI_in_ (by omega), ?_⟩, fun c1 => ?_⟩, fun z => absurd (nI_le (a := c) (b := 3) h6 (by omega)) z⟩⟩⟩⟩⟩⟩⟩⟩⟩
  · refine fun hneg => hneg ⟨nI_pos' (by omega), by rw [hP]; exact nI_lt h2 (by omega), nI_lt (a := q) (b := 8) (by omega) (by omega)⟩
  · have et : t = 2 := (nI_eq (by omega) (by decide)).mp (show nI t = nI 2 from c1)
    rw [nI_clamp (by omega), hs2]
    have ei : (if (0 : Int32) < nI s - nI sk then nI s - nI sk else 0) = nI (s - sk) := by
      by_cases hle : sk ≤ s
      · rw [pk_sub hle]
        by_cases h0 : s - sk = 0
        · rw [h0]; rfl
        · rw [if_pos (show (0 : Int32) < nI (s - sk) from nI_lt (a := 0) (Nat.pos_of_ne_zero h0) (by omega))]
      · have hneg := pk_sneg (a := s) (b := sk) (by omega) (by omega)
        rw [if_neg (Int32.not_lt.mpr (Int32.le_of_lt hneg)), show s - sk = 0 by omega]
        rfl
    rw [ei]
    exact j81 _ (by omega) (by unfold zIs; rw [if_pos et, hs2, nI_clamp (by omega)])
  · have et : ¬ t = 2 := fun z => c1 (by rw [z]; rfl)
    exact j81 s h5 (by unfold zIs; rw [if_neg et])
abbrev zR_X1_ask : Room := { frames := 2, cells := 0, slots := 0, locals := 50 }
set_option maxRecDepth 20000 in
theorem zM_X1_ask (l : Launch) : ab_Met l zw_C vwCl zZ_C yX1_ask cX1_ask 11 (some .int) zR_X1_ask zt_X1_ask := ab_ofRun (G := zg_X1_ask) (P := zp_X1_ask) rfl zo_X1_ask (by decide +kernel) zl_cl zl_lamC zf_X1_ok zs_tabOK ab_Cst_nil zs_X1_ok (List.forall_mem_cons.mpr ⟨ab_callV zZ_C_ok (zM_X2_has l) (ab_in 554 (by decide +kernel) rfl) (ab_in 591 (by decide +kernel) rfl) (ab_in 552 (by decide +kernel) rfl) (ab_in 553 (by decide +kernel) rfl) (ab_in 2 (by decide +kernel) rfl) (by unfold ab_yok; decide +kernel) ⟨rfl, rfl⟩ (by decide) zV_X2_has, List.forall_mem_cons.mpr ⟨ab_callV zZ_C_ok (zM_X9_valueOf l) (ab_in 598 (by decide +kernel) rfl) (ab_in 595 (by decide +kernel) rfl) (ab_in 596 (by decide +kernel) rfl) (ab_in 597 (by decide +kernel) rfl) (ab_in 4 (by decide +kernel) rfl) (by unfold ab_yok; decide +kernel) ⟨rfl, rfl⟩ (by decide) zV_X9_valueOf, List.forall_mem_nil _⟩⟩) (List.forall_mem_cons.mpr ⟨ab_callMax (ab_in 592 (by decide +kernel) rfl) (ab_in 593 (by decide +kernel) rfl) (ab_in 18 (by decide +kernel) rfl) (ab_in 594 (by decide +kernel) rfl) (by decide) (by decide), List.forall_mem_cons.mpr ⟨ab_callMin (ab_in 607 (by decide +kernel) rfl) (ab_in 608 (by decide +kernel) rfl) (ab_in 18 (by decide +kernel) rfl) (ab_in 609 (by decide +kernel) rfl) (by decide) (by decide), List.forall_mem_nil _⟩⟩) zE_X1_ask
end
section
/-! the night's walk, as it is told *)
-/
def zMen (d : ab_M) : Nat := (d 2 6).toNatClampNeg
def zPcs (d : ab_M) : Nat := (d 1 4).toNatClampNeg
def zHrs (d : ab_M) : Nat := (d 17 0).toNatClampNeg
def zBrk (d : ab_M) : Nat := (d 17 1).toNatClampNeg
def zAbs (x : Int32) : Int32 := if 0 ≤ x then x else 0 - x
/-- where it is most risky, up to p: the place, and how much -/
def zRiskF (d : ab_M) (h : Nat) (sc : Nat → Nat) (v f : Int32) : Nat → Int32 × Int32
  | 0 => (f, -1)
  | p + 1 => if zAbs (nI p - f) ≤ v then (if (zRiskF d h sc v f p).2 < nI (sc p * zAsk d 0 p h (sc p) 0) ∨ (nI (sc p * zAsk d 0 p h (sc p) 0) = (zRiskF d h sc v f p).2 ∧ nI p = f) then (nI p, nI (sc p * zAsk d 0 p h (sc p) 0)) else zRiskF d h sc v f p) else zRiskF d h sc v f p
def zCome (d : ab_M) (h : Nat) (pl bk : Nat → Int32) (sc : Nat → Nat) (m : Nat) : Int32 :=
  if nI m = d 6 8 ∧ nI h = d 6 9 then d 6 10
  else if h = 0 then (if d 25 m = 4 then d 27 m else d 26 m)
  else if d 25 m = 1 ∨ d 25 m = 4 then zTow (d 28 m) (pl m) (if bk m = 0 then d 27 m else d 26 m)
  else if d 25 m = 5 then (if zAwk (d 25 m) (d 29 m) (nI h) then zTow (d 28 m) (pl m) (if bk m = 0 then d 27 m else d 26 m) else pl m)
  else if d 25 m = 2 then (zRiskF d h sc (d 28 m) (pl m) (zPcs d)).1
  else if d 25 m = 3 then zTow (d 28 m) (pl m) (if 0 ≤ d 30 (m * 12 + h) ∧ d 30 (m * 12 + h) < d 1 4 ∧ d 30 (m * 12 + h) < 8 then d 30 (m * 12 + h) else d 26 m)
  else zTow (d 28 m) (pl m) (d 26 m)
def zBack (d : ab_M) (h : Nat) (bk : Nat → Int32) (m : Nat) (x : Int32) : Int32 := ab_b (¬ x = d 26 m ∧ (x = d 27 m ∨ (0 < h ∧ ¬ bk m = 0)))
/-- who looks at a piece: others, then men up to m -/
def zLk (d : ab_M) (h : Nat) (pl : Nat → Int32) : Nat → Nat → Int32
  | 0, p => zOth (d 1 7) (d 17 3) (d 17 4) (d 16 p) (d 6 11) (d 6 12) (nI p) (nI h)
  | m + 1, p => if (¬ nI m = d 6 7 ∧ zAwk (d 25 m) (d 29 m) (nI h)) ∧ pl m = nI p then zLk d h pl m p ||| ((1 : Int32) <<< (nI m &&& 31)) else zLk d h pl m p
abbrev zSt : Type := (Nat → Int32) × (Nat → Int32) × (Nat → Nat) × (Nat → Int32)
/-- places, ways back, since, lookers of an hour, out of those of the hour ahead -/
def zHr (d : ab_M) (h : Nat) (s : zSt) : zSt :=
  let sc : Nat → Nat := fun p => if h = 0 ∨ ¬ s.2.2.2 p = 0 then 1 else s.2.2.1 p + 1
  let pl : Nat → Int32 := zCome d h s.1 s.2.1 sc
  (pl, fun m => zBack d h s.2.1 m (pl m), sc, zLk d h pl (zMen d))
def zS0 : zSt := (fun _ => 0, fun _ => 0, fun _ => 0, fun _ => 0)
def zWk (d : ab_M) : Nat → zSt
  | 0 => zHr d 0 zS0
  | h + 1 => zHr d (h + 1) (zWk d h)
/-- what stands of the numbers -/
def zI0 (d : ab_M) : Prop := (1 ≤ d 17 0 ∧ d 17 0 ≤ 12) ∧ (2 ≤ d 17 1 ∧ d 17 1 ≤ 6) ∧ (0 ≤ d 17 2 ∧ d 17 2 ≤ 9) ∧ (0 ≤ d 17 3 ∧ d 17 3 ≤ 8) ∧ (0 ≤ d 17 4 ∧ d 17 4 ≤ 12) ∧ (0 ≤ d 1 4 ∧ d 1 4 ≤ 8) ∧ (-1 ≤ d 1 7 ∧ d 1 7 ≤ 11) ∧ (0 ≤ d 2 6 ∧ d 2 6 ≤ 5)
def zI1 (d : ab_M) : Prop := ∀ m : Nat, m < zMen d → (0 ≤ d 25 m ∧ d 25 m ≤ 5) ∧ (0 ≤ d 26 m ∧ d 26 m < d 1 4) ∧ (0 ≤ d 27 m ∧ d 27 m < d 1 4) ∧ (1 ≤ d 28 m ∧ d 28 m ≤ 3) ∧ (0 ≤ d 29 m ∧ d 29 m ≤ 5) ∧ (nI m = d 6 8 → 0 ≤ d 6 10 ∧ d 6 10 < d 1 4)
def zNight (M : ab_M) : Prop := zAsks M ∧ zI0 M ∧ zI1 M
def zScM (M : ab_M) (h : Nat) : Nat → Nat := fun p => (M 39 (h * 8 + p)).toNatClampNeg
def zScOK (M : ab_M) (h : Nat) : Prop := ∀ p, p < zPcs M → ∃ s : Nat, 1 ≤ s ∧ s ≤ 12 ∧ M 39 (h * 8 + p) = nI s
def zt_X10_riskiest : ab_T := ab_m3 6 (fun m h f M _ => zNight M ∧ ∃ mm g : Nat, mm < zMen M ∧ g < 12 ∧ m = nI mm ∧ h = nI g ∧ zScOK M g)
  (fun m h f M N o M2 N2 => N2 = N ∧ zFr [33, 35, 36] M M2 ∧ zAsks M2 ∧ o = some (.int (zRiskF M h.toNatClampNeg (zScM M h.toNatClampNeg) (M 28 m.toNatClampNeg) f (zPcs M)).1))
theorem zt_X10_riskiest_mono : ab_mono zt_X10_riskiest := ab_m3_mono _ _ _
theorem zV_X10_riskiest : ab_recv zw_C vwCl RX10 zt_X10_riskiest := ab_m3_v rfl rfl
def zt_X10_comes : ab_T := ab_m2 6 (fun m h M _ => zNight M ∧ ∃ mm g : Nat, mm < zMen M ∧ g < 12 ∧ m = nI mm ∧ h = nI g ∧ zScOK M g)
  (fun m h M N o M2 N2 => N2 = N ∧ zFr [33, 35, 36] M M2 ∧ zAsks M2 ∧ o = some (.int (zCome M h.toNatClampNeg (fun i => M 37 ((h.toNatClampNeg - 1) * 5 + i)) (M 40) (zScM M h.toNatClampNeg) m.toNatClampNeg)))
theorem zt_X10_comes_mono : ab_mono zt_X10_comes := ab_m2_mono _ _ _
theorem zV_X10_comes : ab_recv zw_C vwCl RX10 zt_X10_comes := ab_m2_v rfl rfl
def zt_X10_go : ab_T := ab_m0 6 (fun M _ => zNight M)
  (fun M N o M2 N2 => o = none ∧ N2 = N ∧ zFr [33, 35, 36, 37, 38, 39, 40] M M2 ∧ zAsks M2 ∧ ∀ h, h < zHrs M → (∀ m, m < zMen M → M2 37 (h * 5 + m) = (zWk M h).1 m) ∧ ∀ p, p < zPcs M → M2 39 (h * 8 + p) = nI ((zWk M h).2.2.1 p) ∧ M2 38 (h * 8 + p) = (zWk M h).2.2.2 p)
theorem zt_X10_go_mono : ab_mono zt_X10_go := ab_m0_mono _ _ _
theorem zV_X10_go : ab_recv zw_C vwCl RX10 zt_X10_go := ab_m0_v rfl rfl
end
section
/-! Walk.riskiest, Walk.comes *)
-/
theorem zNat {x : Int32} (n : Nat) (K : Int32) (hx0 : 0 ≤ x) (hx1 : x ≤ K) (hK : K = nI n := by rfl) (hn : n < 2 ^ 31 := by decide) : x = nI x.toNatClampNeg ∧ x.toNatClampNeg ≤ n := by
  refine ⟨ab_cl0 hx0, ?_⟩
  obtain ⟨j, hj, e⟩ := nI_of (Int32.not_lt.mpr hx0)
  rw [e] at hx1 ⊢
  rw [nI_clamp hj]
  rw [hK] at hx1
  exact (nI_leI hj hn).mp hx1
theorem zAsk_fr {M M2 : ab_M} (h : zFr [33, 35, 36] M M2) : zAsk M2 = zAsk M := by
  funext th p h2 st pc
  unfold zAsk zIs
  rw [zAskN_fr (h 3 (by decide)) (h 13 (by decide)) (h 14 (by decide)) (h 17 (by decide)) (h 18 (by decide)) (h 31 (by decide)) (h 32 (by decide)), h 15 (by decide)]
theorem zAsk_le (M : ab_M) {th : Nat} (hth : th < 3) (p h st pc : Nat) : zAsk M th p h st pc ≤ 999 := (zClamp_n th hth _).2
theorem zP_eq {M : ab_M} (h : zI0 M) : M 1 4 = nI (zPcs M) ∧ zPcs M ≤ 8 := zNat 8 8 h.2.2.2.2.2.1.1 h.2.2.2.2.2.1.2
theorem zM_eq {M : ab_M} (h : zI0 M) : M 2 6 = nI (zMen M) ∧ zMen M ≤ 5 := zNat 5 5 h.2.2.2.2.2.2.2.1 h.2.2.2.2.2.2.2.2
theorem zH_eq {M : ab_M} (h : zI0 M) : M 17 0 = nI (zHrs M) ∧ zHrs M ≤ 12 := zNat 12 12 (by have := h.1.1; grind) h.1.2
theorem zB_eq {M : ab_M} (h : zI0 M) : M 17 1 = nI (zBrk M) ∧ zBrk M ≤ 6 ∧ 2 ≤ zBrk M := by
  have h2 := zNat (x := M 17 1) 6 6 (by have := h.2.1.1; grind) h.2.1.2
  refine ⟨h2.1, h2.2, ?_⟩
  have h3 := h.2.1.1
  rw [h2.1] at h3
  have h4 : (M 17 1).toNatClampNeg ≤ 6 := h2.2
  exact (nI_leI (a := 2) (b := (M 17 1).toNatClampNeg) (by omega) (by omega)).mp h3
def zp_X10_riskiest : ab_P := [(0, .iload_n 3, 1, [3], []),
  (1, .istore 4, 3, [], []),
  (3, .iconst (-1), 4, [], [(-1)]),
  (4, .istore 5, 6, [], []),
  (6, .iconst 0, 7, [], [0]),
  (7, .istore 6, 9, [], []),
  (9, .iload 6, 11, [], []),
  (11, .aload_n 0, 12, [0], []),
  (12, .getfield 44, 15, [], []),
  (15, .getfield 74, 18, [], []),
  (18, .if_icmp .ge 84, 21, [102], []),
  (21, .iload 6, 23, [], []),
  (23, .iload_n 3, 24, [3], []),
  (24, .isub, 25, [], []),
  (25, .invokestatic 127, 28, [], []),
  (28, .aload_n 0, 29, [0], []),
  (29, .getfield 48, 32, [], []),
  (32, .getfield 62, 35, [], []),
  (35, .iload_n 1, 36, [1], []),
  (36, .iaload, 37, [], []),
  (37, .if_icmp .gt 59, 40, [96], []),
  (40, .aload_n 0, 41, [0], []),
  (41, .iload 6, 43, [], []),
  (43, .iload_n 2, 44, [2], []),
  (44, .invokevirtual 131, 47, [], []),
  (47, .istore 7, 49, [], []),
  (49, .iload 7, 51, [], []),
  (51, .aload_n 0, 52, [0], []),
  (52, .getfield 52, 55, [], []),
  (55, .iconst 0, 56, [], [0]),
  (56, .iload 6, 58, [], []),
  (58, .iload_n 2, 59, [2], []),
  (59, .iload 7, 61, [], []),
  (61, .iconst 0, 62, [], [0]),
  (62, .invokevirtual 134, 65, [], []),
  (65, .imul, 66, [], []),
  (66, .istore 8, 68, [], []),
  (68, .iload 8, 70, [], []),
  (70, .iload 5, 72, [], []),
  (72, .if_icmp .gt 16, 75, [88], []),
  (75, .iload 8, 77, [], []),
  (77, .iload 5, 79, [], []),
  (79, .if_icmp .ne 17, 82, [96], []),
  (82, .iload 6, 84, [], []),
  (84, .iload_n 3, 85, [3], []),
  (85, .if_icmp .ne 11, 88, [96], []),
  (88, .iload 6, 90, [], []),
  (90, .istore 4, 92, [], []),
  (92, .iload 8, 94, [], []),
  (94, .istore 5, 96, [], []),
  (96, .iinc 6 1, 99, [], [1]),
  (99, .goto (-90), 102, [9], []),
  (102, .iload 4, 104, [], []),
  (104, .ireturn, 105, [], [])]
theorem zo_X10_riskiest : ab_ok cX10_riskiest zp_X10_riskiest = true := by decide +kernel
def zg_X10_riskiest : ab_G := (zw_C, zs_tab, zf_X10, [], [], [(131, 3, zt_X10_sinceOf), (134, 6, zt_X1_ask)], [(127, 1, zt_abs)])
theorem zm_X10_riskiest : ab_MG zg_X10_riskiest := ab_MGof (List.forall_mem_cons.mpr ⟨ab_pp_mono _, List.forall_mem_cons.mpr ⟨zt_X1_ask_mono, List.forall_mem_nil _⟩⟩) (List.forall_mem_cons.mpr ⟨ab_pure_mono _, List.forall_mem_nil _⟩)
abbrev zr_X10_riskiest (Q : ab_R) : ab_K := ab_Run zg_X10_riskiest zp_X10_riskiest (some .int) 9 Q
set_option maxRecDepth 20000 in
theorem zv_X10_riskiest_0 {Q : ab_R} {M : ab_M} {N : ab_N} (l1 : Int32) (l2 : Int32) (l3 : Int32) (h : zr_X10_riskiest Q 9 [some (.ref 6), some (.int l1), some (.int l2), some (.int l3), some (.int l3), some (.int (-1 : Int32)), some (.int (0 : Int32)), none, none] [] M N) : zr_X10_riskiest Q 0 [some (.ref 6), some (.int l1), some (.int l2), some (.int l3)] [] M N := ab_Run_s zm_X10_riskiest (sp := [(9, [true, true, true, true, true, true, true, false, false]), (65, [true, true, true, true, true, true, true, false, false])]) 56 h
set_option maxRecDepth 20000 in
theorem zv_X10_riskiest_9 {Q : ab_R} {M : ab_M} {N : ab_N} (l1 : Int32) (l2 : Int32) (l3 : Int32) (l4 : Int32) (l5 : Int32) (l6 : Int32) (h : ((M 1 4) ≤ l6 → Q (some (.int l4)) M N) ∧ (¬ ((M 1 4) ≤ l6) → vp_in l1 5 ∧ (((M 28 l1.toNatClampNeg) < (if 0 ≤ (l6 - l3) then (l6 - l3) else 0 - (l6 - l3)) → zr_X10_riskiest Q 9 [some (.ref 6), some (.int l1), some (.int l2), some (.int l3), some (.int l4), some (.int l5), some (.int (l6 + (1 : Int32))), none, none] [] M N) ∧ (¬ ((M 28 l1.toNatClampNeg) < (if 0 ≤ (l6 - l3) then (l6 - l3) else 0 - (l6 - l3))) → (vp_in (l2 * 8 + l6) 96) ∧ (zt_X1_ask [.ref 5, .int (0 : Int32), .int l6, .int l2, .int ((M 39) (l2 * 8 + l6).toNatClampNeg), .int (0 : Int32)] M N (fun r M2 N2 => zr_X10_riskiest Q 65 [some (.ref 6), some (.int l1), some (.int l2), some (.int l3), some (.int l4), some (.int l5), some (.int l6), none, none] (ab_ol r [.int ((M 39) (l2 * 8 + l6).toNatClampNeg)]) M2 N2)))))) : zr_X10_riskiest Q 9 [some (.ref 6), some (.int l1), some (.int l2), some (.int l3), some (.int l4), some (.int l5), some (.int l6), none, none] [] M N := ab_Run_s zm_X10_riskiest (sp := [(9, [true, true, true, true, true, true, true, false, false]), (65, [true, true, true, true, true, true, true, false, false])]) 56 h
set_option maxRecDepth 20000 in
theorem zv_X10_riskiest_65 {Q : ab_R} {M : ab_M} {N : ab_N} (l1 : Int32) (l2 : Int32) (l3 : Int32) (l4 : Int32) (l5 : Int32) (l6 : Int32) (s0 : Int32) (s1 : Int32) (h : (l5 < (s0 * s1) → zr_X10_riskiest Q 9 [some (.ref 6), some (.int l1), some (.int l2), some (.int l3), some (.int l6), some (.int (s0 * s1)), some (.int (l6 + (1 : Int32))), none, none] [] M N) ∧ (¬ (l5 < (s0 * s1)) → ((s0 * s1) = l5 → (l6 = l3 → zr_X10_riskiest Q 9 [some (.ref 6), some (.int l1), some (.int l2), some (.int l3), some (.int l6), some (.int (s0 * s1)), some (.int (l6 + (1 : Int32))), none, none] [] M N) ∧ (¬ (l6 = l3) → zr_X10_riskiest Q 9 [some (.ref 6), some (.int l1), some (.int l2), some (.int l3), some (.int l4), some (.int l5), some (.int (l6 + (1 : Int32))), none, none] [] M N)) ∧ (¬ ((s0 * s1) = l5) → zr_X10_riskiest Q 9 [some (.ref 6), some (.int l1), some (.int l2), some (.int l3), some (.int l4), some (.int l5), some (.int (l6 + (1 : Int32))), none, none] [] M N))) : zr_X10_riskiest Q 65 [some (.ref 6), some (.int l1), some (.int l2), some (.int l3), some (.int l4), some (.int l5), some (.int l6), none, none] [.int s1, .int s0] M N := ab_Run_s zm_X10_riskiest (sp := [(9, [true, true, true, true, true, true, true, false, false]), (65, [true, true, true, true, true, true, true, false, false])]) 56 h
theorem zL_X10_riskiest {Q : ab_R} {N : ab_N} (M0 : ab_M) (mm g : Nat) (f : Int32) (hm : mm < 5) (hg : g < 12) (h0 : zI0 M0) (hsc : zScOK M0 g) (r : Int32) (hr : (zRiskF M0 g (zScM M0 g) (M0 28 mm) f (zPcs M0)).1 = r) (hq : ∀ M2, zFr [33, 35, 36] M0 M2 → zAsks M2 → Q (some (.int r)) M2 N) : ∀ (n p : Nat) (M : ab_M), p + n = zPcs M0 → zFr [33, 35, 36] M0 M → zAsks M → zr_X10_riskiest Q 9 [some (.ref 6), some (.int (nI mm)), some (.int (nI g)), some (.int f), some (.int (zRiskF M0 g (zScM M0 g) (M0 28 mm) f p).1), some (.int (zRiskF M0 g (zScM M0 g) (M0 28 mm) f p).2), some (.int (nI p)), none, none] [] M N := by
  obtain ⟨hP, hP8⟩ := zP_eq h0
  intro n
  induction n with
  | zero =>
    intro p M hp hF hA
    have e1 : M 1 = M0 1 := hF 1 (by decide)
    refine zv_X10_riskiest_9 _ _ _ _ _ _ ⟨fun _ => ?_, fun c => absurd ?_ c⟩
    · have : p = zPcs M0 := by omega
      rw [this, hr]
      exact hq M hF hA
    · rw [e1, hP]
      exact nI_le (by omega) (by omega)
  | succ n ih =>
    intro p M hp hF hA
    have e1 : M 1 = M0 1 := hF 1 (by decide)
    have e28 : M 28 = M0 28 := hF 28 (by decide)
    have e39 : M 39 = M0 39 := hF 39 (by decide)
    refine zv_X10_riskiest_9 _ _ _ _ _ _ ⟨fun c => absurd c ?_, fun _ => ⟨nI_in_ hm, ?_⟩⟩
    · rw [e1, hP]
      exact nI_ge (by omega) (by omega)
    rw [nI_clamp (show mm < 2 ^ 31 by omega), e28, nI_1]
    refine ⟨fun c => ?_, fun c => ?_⟩
    · have c2 : ¬ zAbs (nI p - f) ≤ M0 28 mm := fun q => absurd c (Int32.not_lt.mpr q)
      have e : zRiskF M0 g (zScM M0 g) (M0 28 mm) f (p + 1) = zRiskF M0 g (zScM M0 g) (M0 28 mm) f p := by
        rw [zRiskF, if_neg c2]
      have := ih (p + 1) M (by omega) hF hA
      rw [e] at this
      exact this
    · have c2 : zAbs (nI p - f) ≤ M0 28 mm := Int32.not_lt.mp c
      have ei : nI g * 8 + nI p = nI (g * 8 + p) := by rw [zN_mul g 8 8, nI_add]
      rw [ei]
      refine ⟨nI_in_ (by omega), ?_⟩
      rw [nI_clamp (show g * 8 + p < 2 ^ 31 by omega), e39]
      obtain ⟨s, s1, s2, s3⟩ := hsc p (by omega)
      rw [s3]
      have es : zScM M0 g p = s := by unfold zScM; rw [s3, nI_clamp (by omega)]
      refine ab_m5_i ⟨hA, 0, p, g, s, 0, zPcs M0, by omega, by omega, hP8, hg, s2, by omega, rfl, rfl, rfl, rfl, rfl, by rw [e1, hP]⟩ ?_
      rintro o M2 N2 ⟨rfl, hF2, hA2, rfl⟩
      have hFt : zFr [33, 35, 36] M0 M2 := zFr_tr hF hF2
      rw [zAsk_fr hF, show (0 : Int32).toNatClampNeg = 0 from rfl, nI_clamp (show p < 2 ^ 31 by omega), nI_clamp (show g < 2 ^ 31 by omega), nI_clamp (show s < 2 ^ 31 by omega)]
      refine zv_X10_riskiest_65 _ _ _ _ _ _ _ _ ?_
      have hle := zAsk_le M0 (th := 0) (by omega) p g s 0
      rw [pk_mul, nI_1]
      have ih2 := ih (p + 1) M2 (by omega) hFt hA2
      rw [zRiskF, if_pos c2, es] at ih2
      refine ⟨fun c3 => ?_, fun c3 => ⟨fun c4 => ⟨fun c5 => ?_, fun c5 => ?_⟩, fun c4 => ?_⟩⟩
      · rw [if_pos (Or.inl c3)] at ih2; exact ih2
      · rw [if_pos (Or.inr ⟨c4, c5⟩)] at ih2; exact ih2
      · rw [if_neg (fun q => q.elim c3 (fun z => c5 z.2))] at ih2; exact ih2
      · rw [if_neg (fun q => q.elim c3 (fun z => c4 z.1))] at ih2; exact ih2
theorem zE_X10_riskiest (as : List Value) (M : ab_M) (N : ab_N) (k : ab_R) (hT : zt_X10_riskiest as M N k) : ab_cs as ≤ 9 ∧ zr_X10_riskiest k 0 (ab_en as) [] M N := by
  obtain ⟨m, h, f, rfl, ⟨⟨hA, h0, h1⟩, mm, g, hm, hg, rfl, rfl, hsc⟩, hk⟩ := ab_m3_e hT
  have hm5 := (zM_eq h0).2
  refine ⟨Nat.le_of_ble_eq_true rfl, zv_X10_riskiest_0 _ _ _ ?_⟩
  have hk2 := fun M2 hF hA2 => hk _ M2 N ⟨rfl, hF, hA2, rfl⟩
  rw [nI_clamp (show g < 2 ^ 31 by omega), nI_clamp (show mm < 2 ^ 31 by omega)] at hk2
  exact zL_X10_riskiest M mm g f (by omega) hg h0 hsc _ rfl hk2 (zPcs M) 0 M (by omega) (zFr_rf _ _) hA
abbrev zR_X10_riskiest : Room := { frames := 3, cells := 0, slots := 0, locals := 80 }
set_option maxRecDepth 20000 in
theorem zM_X10_riskiest (l : Launch) : ab_Met l zw_C vwCl zZ_C yX10_riskiest cX10_riskiest 9 (some .int) zR_X10_riskiest zt_X10_riskiest := ab_ofRun (G := zg_X10_riskiest) (P := zp_X10_riskiest) rfl zo_X10_riskiest (by decide +kernel) zl_cl zl_lamC zf_X10_ok zs_tabOK ab_Cst_nil ab_Sta_nil (List.forall_mem_cons.mpr ⟨ab_callV zZ_C_ok (zM_X10_sinceOf l) (ab_in 699 (by decide +kernel) rfl) (ab_in 696 (by decide +kernel) rfl) (ab_in 697 (by decide +kernel) rfl) (ab_in 698 (by decide +kernel) rfl) (ab_in 7 (by decide +kernel) rfl) (by unfold ab_yok; decide +kernel) ⟨rfl, rfl⟩ (by decide) zV_X10_sinceOf, List.forall_mem_cons.mpr ⟨ab_callV zZ_C_ok (zM_X1_ask l) (ab_in 590 (by decide +kernel) rfl) (ab_in 700 (by decide +kernel) rfl) (ab_in 588 (by decide +kernel) rfl) (ab_in 589 (by decide +kernel) rfl) (ab_in 6 (by decide +kernel) rfl) (by unfold ab_yok; decide +kernel) ⟨rfl, rfl⟩ (by decide) zV_X1_ask, List.forall_mem_nil _⟩⟩) (List.forall_mem_cons.mpr ⟨ab_callAbs (ab_in 693 (by decide +kernel) rfl) (ab_in 694 (by decide +kernel) rfl) (ab_in 18 (by decide +kernel) rfl) (ab_in 695 (by decide +kernel) rfl) (by decide) (by decide), List.forall_mem_nil _⟩) zE_X10_riskiest
def zp_X10_comes : ab_P := [(0, .iload_n 1, 1, [1], []),
  (1, .aload_n 0, 2, [0], []),
  (2, .getfield 29, 5, [], []),
  (5, .if_icmp .ne 16, 8, [21], []),
  (8, .iload_n 2, 9, [2], []),
  (9, .aload_n 0, 10, [0], []),
  (10, .getfield 32, 13, [], []),
  (13, .if_icmp .ne 8, 16, [21], []),
  (16, .aload_n 0, 17, [0], []),
  (17, .getfield 35, 20, [], []),
  (20, .ireturn, 21, [], []),
  (21, .iload_n 2, 22, [2], []),
  (22, .ifCond .ne 38, 25, [60], []),
  (25, .aload_n 0, 26, [0], []),
  (26, .getfield 48, 29, [], []),
  (29, .getfield 105, 32, [], []),
  (32, .iload_n 1, 33, [1], []),
  (33, .iaload, 34, [], []),
  (34, .iconst 4, 35, [], [4]),
  (35, .if_icmp .ne 15, 38, [50], []),
  (38, .aload_n 0, 39, [0], []),
  (39, .getfield 48, 42, [], []),
  (42, .getfield 93, 45, [], []),
  (45, .iload_n 1, 46, [1], []),
  (46, .iaload, 47, [], []),
  (47, .goto 12, 50, [59], []),
  (50, .aload_n 0, 51, [0], []),
  (51, .getfield 48, 54, [], []),
  (54, .getfield 90, 57, [], []),
  (57, .iload_n 1, 58, [1], []),
  (58, .iaload, 59, [], []),
  (59, .ireturn, 60, [], []),
  (60, .aload_n 0, 61, [0], []),
  (61, .iload_n 1, 62, [1], []),
  (62, .iload_n 2, 63, [2], []),
  (63, .iconst 1, 64, [], [1]),
  (64, .isub, 65, [], []),
  (65, .invokevirtual 65, 68, [], []),
  (68, .istore_n 3, 69, [3], []),
  (69, .aload_n 0, 70, [0], []),
  (70, .getfield 48, 73, [], []),
  (73, .getfield 105, 76, [], []),
  (76, .iload_n 1, 77, [1], []),
  (77, .iaload, 78, [], []),
  (78, .tableswitch 181 1 5 #[34, 124, 132, 34, 71], 112, [259, 112, 202, 210, 112, 149], [1, 2, 3, 4, 5]),
  (112, .aload_n 0, 113, [0], []),
  (113, .iload_n 1, 114, [1], []),
  (114, .iload_n 3, 115, [3], []),
  (115, .aload_n 0, 116, [0], []),
  (116, .getfield 21, 119, [], []),
  (119, .iload_n 1, 120, [1], []),
  (120, .baload, 121, [], []),
  (121, .ifCond .eq 15, 124, [136], []),
  (124, .aload_n 0, 125, [0], []),
  (125, .getfield 48, 128, [], []),
  (128, .getfield 90, 131, [], []),
  (131, .iload_n 1, 132, [1], []),
  (132, .iaload, 133, [], []),
  (133, .goto 12, 136, [145], []),
  (136, .aload_n 0, 137, [0], []),
  (137, .getfield 48, 140, [], []),
  (140, .getfield 93, 143, [], []),
  (143, .iload_n 1, 144, [1], []),
  (144, .iaload, 145, [], []),
  (145, .invokevirtual 108, 148, [], []),
  (148, .ireturn, 149, [], []),
  (149, .aload_n 0, 150, [0], []),
  (150, .getfield 48, 153, [], []),
  (153, .iload_n 1, 154, [1], []),
  (154, .iload_n 2, 155, [2], []),
  (155, .invokevirtual 96, 158, [], []),
  (158, .ifCond .eq 42, 161, [200], []),
  (161, .aload_n 0, 162, [0], []),
  (162, .iload_n 1, 163, [1], []),
  (163, .iload_n 3, 164, [3], []),
  (164, .aload_n 0, 165, [0], []),
  (165, .getfield 21, 168, [], []),
  (168, .iload_n 1, 169, [1], []),
  (169, .baload, 170, [], []),
  (170, .ifCond .eq 15, 173, [185], []),
  (173, .aload_n 0, 174, [0], []),
  (174, .getfield 48, 177, [], []),
  (177, .getfield 90, 180, [], []),
  (180, .iload_n 1, 181, [1], []),
  (181, .iaload, 182, [], []),
  (182, .goto 12, 185, [194], []),
  (185, .aload_n 0, 186, [0], []),
  (186, .getfield 48, 189, [], []),
  (189, .getfield 93, 192, [], []),
  (192, .iload_n 1, 193, [1], []),
  (193, .iaload, 194, [], []),
  (194, .invokevirtual 108, 197, [], []),
  (197, .goto 4, 200, [201], []),
  (200, .iload_n 3, 201, [3], []),
  (201, .ireturn, 202, [], []),
  (202, .aload_n 0, 203, [0], []),
  (203, .iload_n 1, 204, [1], []),
  (204, .iload_n 2, 205, [2], []),
  (205, .iload_n 3, 206, [3], []),
  (206, .invokevirtual 112, 209, [], []),
  (209, .ireturn, 210, [], []),
  (210, .aload_n 0, 211, [0], []),
  (211, .getfield 48, 214, [], []),
  (214, .getfield 115, 217, [], []),
  (217, .iload_n 1, 218, [1], []),
  (218, .bipush 12, 220, [], [12]),
  (220, .imul, 221, [], []),
  (221, .iload_n 2, 222, [2], []),
  (222, .iadd, 223, [], []),
  (223, .iaload, 224, [], []),
  (224, .istore 4, 226, [], []),
  (226, .aload_n 0, 227, [0], []),
  (227, .iload_n 1, 228, [1], []),
  (228, .iload_n 3, 229, [3], []),
  (229, .aload_n 0, 230, [0], []),
  (230, .getfield 44, 233, [], []),
  (233, .iload 4, 235, [], []),
  (235, .invokevirtual 118, 238, [], []),
  (238, .ifCond .eq 8, 241, [246], []),
  (241, .iload 4, 243, [], []),
  (243, .goto 12, 246, [255], []),
  (246, .aload_n 0, 247, [0], []),
  (247, .getfield 48, 250, [], []),
  (250, .getfield 90, 253, [], []),
  (253, .iload_n 1, 254, [1], []),
  (254, .iaload, 255, [], []),
  (255, .invokevirtual 108, 258, [], []),
  (258, .ireturn, 259, [], []),
  (259, .aload_n 0, 260, [0], []),
  (260, .iload_n 1, 261, [1], []),
  (261, .iload_n 3, 262, [3], []),
  (262, .aload_n 0, 263, [0], []),
  (263, .getfield 48, 266, [], []),
  (266, .getfield 90, 269, [], []),
  (269, .iload_n 1, 270, [1], []),
  (270, .iaload, 271, [], []),
  (271, .invokevirtual 108, 274, [], []),
  (274, .ireturn, 275, [], [])]
theorem zo_X10_comes : ab_ok cX10_comes zp_X10_comes = true := by decide +kernel
def zg_X10_comes : ab_G := (zw_C, zs_tab, zf_X10, [], [], [(65, 3, zt_X10_placeOf), (96, 3, zt_X5_awake), (108, 4, zt_X10_towards), (112, 4, zt_X10_riskiest), (118, 2, zt_X2_has)], [])
theorem zm_X10_comes : ab_MG zg_X10_comes := ab_MGof (List.forall_mem_cons.mpr ⟨ab_pp_mono _, List.forall_mem_cons.mpr ⟨ab_pp_mono _, List.forall_mem_cons.mpr ⟨ab_pp_mono _, List.forall_mem_cons.mpr ⟨zt_X10_riskiest_mono, List.forall_mem_cons.mpr ⟨ab_pure_mono _, List.forall_mem_nil _⟩⟩⟩⟩⟩) (List.forall_mem_nil _)
abbrev zr_X10_comes (Q : ab_R) : ab_K := ab_Run zg_X10_comes zp_X10_comes (some .int) 5 Q
set_option maxRecDepth 20000 in
theorem zv_X10_comes_0 {Q : ab_R} {M : ab_M} {N : ab_N} (l1 : Int32) (l2 : Int32) (h : (l1 = (M 6 8) → (l2 = (M 6 9) → Q (some (.int (M 6 10))) M N) ∧ (¬ (l2 = (M 6 9)) → zr_X10_comes Q 21 [some (.ref 6), some (.int l1), some (.int l2), none, none] [] M N)) ∧ (¬ (l1 = (M 6 8)) → zr_X10_comes Q 21 [some (.ref 6), some (.int l1), some (.int l2), none, none] [] M N)) : zr_X10_comes Q 0 [some (.ref 6), some (.int l1), some (.int l2)] [] M N := ab_Run_s zm_X10_comes (sp := [(21, [true, true, true, false, false]), (209, [false, false, false, false, false])]) 140 h
set_option maxRecDepth 20000 in
theorem zv_X10_comes_21 {Q : ab_R} {M : ab_M} {N : ab_N} (l1 : Int32) (l2 : Int32) (h : (l2 = 0 → vp_in l1 5 ∧ (((M 25 l1.toNatClampNeg) = (4 : Int32) → vp_in l1 5 ∧ (Q (some (.int (M 27 l1.toNatClampNeg))) M N)) ∧ (¬ ((M 25 l1.toNatClampNeg) = (4 : Int32)) → vp_in l1 5 ∧ (Q (some (.int (M 26 l1.toNatClampNeg))) M N)))) ∧ (¬ (l2 = 0) → (vp_in ((l2 - (1 : Int32)) * 5 + l1) 60) ∧ (vp_in l1 5 ∧ (((M 25 l1.toNatClampNeg) = 1 → vp_in l1 5 ∧ (((M 40 l1.toNatClampNeg) = 0 → vp_in l1 5 ∧ ((vp_in l1 5) ∧ (Q (some (.int (zTow ((M 28) l1.toNatClampNeg) ((M 37) ((l2 - (1 : Int32)) * 5 + l1).toNatClampNeg) (M 27 l1.toNatClampNeg)))) M N))) ∧ (¬ ((M 40 l1.toNatClampNeg) = 0) → vp_in l1 5 ∧ ((vp_in l1 5) ∧ (Q (some (.int (zTow ((M 28) l1.toNatClampNeg) ((M 37) ((l2 - (1 : Int32)) * 5 + l1).toNatClampNeg) (M 26 l1.toNatClampNeg)))) M N))))) ∧ (¬ (M 25 l1.toNatClampNeg) = 1 → ((M 25 l1.toNatClampNeg) = 2 → zt_X10_riskiest [.ref 6, .int l1, .int l2, .int ((M 37) ((l2 - (1 : Int32)) * 5 + l1).toNatClampNeg)] M N (fun r M2 N2 => zr_X10_comes Q 209 [none, none, none, none, none] (ab_ol r []) M2 N2)) ∧ (¬ (M 25 l1.toNatClampNeg) = 2 → ((M 25 l1.toNatClampNeg) = 3 → vp_in ((l1 * (12 : Int32)) + l2) 60 ∧ (((ab_b (0 ≤ (M 30 ((l1 * (12 : Int32)) + l2).toNatClampNeg) ∧ (M 30 ((l1 * (12 : Int32)) + l2).toNatClampNeg) < (M 1) 4 ∧ (M 30 ((l1 * (12 : Int32)) + l2).toNatClampNeg) < 8)) = 0 → vp_in l1 5 ∧ ((vp_in l1 5) ∧ (Q (some (.int (zTow ((M 28) l1.toNatClampNeg) ((M 37) ((l2 - (1 : Int32)) * 5 + l1).toNatClampNeg) (M 26 l1.toNatClampNeg)))) M N))) ∧ (¬ ((ab_b (0 ≤ (M 30 ((l1 * (12 : Int32)) + l2).toNatClampNeg) ∧ (M 30 ((l1 * (12 : Int32)) + l2).toNatClampNeg) < (M 1) 4 ∧ (M 30 ((l1 * (12 : Int32)) + l2).toNatClampNeg) < 8)) = 0) → (vp_in l1 5) ∧ (Q (some (.int (zTow ((M 28) l1.toNatClampNeg) ((M 37) ((l2 - (1 : Int32)) * 5 + l1).toNatClampNeg) (M 30 ((l1 * (12 : Int32)) + l2).toNatClampNeg)))) M N)))) ∧ (¬ (M 25 l1.toNatClampNeg) = 3 → ((M 25 l1.toNatClampNeg) = 4 → vp_in l1 5 ∧ (((M 40 l1.toNatClampNeg) = 0 → vp_in l1 5 ∧ ((vp_in l1 5) ∧ (Q (some (.int (zTow ((M 28) l1.toNatClampNeg) ((M 37) ((l2 - (1 : Int32)) * 5 + l1).toNatClampNeg) (M 27 l1.toNatClampNeg)))) M N))) ∧ (¬ ((M 40 l1.toNatClampNeg) = 0) → vp_in l1 5 ∧ ((vp_in l1 5) ∧ (Q (some (.int (zTow ((M 28) l1.toNatClampNeg) ((M 37) ((l2 - (1 : Int32)) * 5 + l1).toNatClampNeg) (M 26 l1.toNatClampNeg)))) M N))))) ∧ (¬ (M 25 l1.toNatClampNeg) = 4 → ((M 25 l1.toNatClampNeg) = 5 → (vp_in l1 5) ∧ (((ab_b (zAwk ((M 25) l1.toNatClampNeg) ((M 29) l1.toNatClampNeg) l2)) = 0 → Q (some (.int ((M 37) ((l2 - (1 : Int32)) * 5 + l1).toNatClampNeg))) M N) ∧ (¬ ((ab_b (zAwk ((M 25) l1.toNatClampNeg) ((M 29) l1.toNatClampNeg) l2)) = 0) → vp_in l1 5 ∧ (((M 40 l1.toNatClampNeg) = 0 → vp_in l1 5 ∧ ((vp_in l1 5) ∧ (Q (some (.int (zTow ((M 28) l1.toNatClampNeg) ((M 37) ((l2 - (1 : Int32)) * 5 + l1).toNatClampNeg) (M 27 l1.toNatClampNeg)))) M N))) ∧ (¬ ((M 40 l1.toNatClampNeg) = 0) → vp_in l1 5 ∧ ((vp_in l1 5) ∧ (Q (some (.int (zTow ((M 28) l1.toNatClampNeg) ((M 37) ((l2 - (1 : Int32)) * 5 + l1).toNatClampNeg) (M 26 l1.toNatClampNeg)))) M N))))))) ∧ (¬ (M 25 l1.toNatClampNeg) = 5 → vp_in l1 5 ∧ ((vp_in l1 5) ∧ (Q (some (.int (zTow ((M 28) l1.toNatClampNeg) ((M 37) ((l2 - (1 : Int32)) * 5 + l1).toNatClampNeg) (M 26 l1.toNatClampNeg)))) M N))))))))))) : zr_X10_comes Q 21 [some (.ref 6), some (.int l1), some (.int l2), none, none] [] M N := ab_Run_s zm_X10_comes (sp := [(21, [true, true, true, false, false]), (209, [false, false, false, false, false])]) 140 h
set_option maxRecDepth 20000 in
theorem zv_X10_comes_209 {Q : ab_R} {M : ab_M} {N : ab_N} (s0 : Int32) (h : Q (some (.int s0)) M N) : zr_X10_comes Q 209 [none, none, none, none, none] [.int s0] M N := ab_Run_s zm_X10_comes (sp := [(21, [true, true, true, false, false]), (209, [false, false, false, false, false])]) 140 h
theorem zE_X10_comes (as : List Value) (M : ab_M) (N : ab_N) (k : ab_R) (hT : zt_X10_comes as M N k) : ab_cs as ≤ 5 ∧ zr_X10_comes k 0 (ab_en as) [] M N := by
  obtain ⟨m, h, rfl, ⟨hN, mm, g, hm, hg, rfl, rfl, hsc⟩, hk⟩ := ab_m2_e hT
  obtain ⟨hA, h0, h1⟩ := id hN
  have hm5 := (zM_eq h0).2
  refine ⟨Nat.le_of_ble_eq_true rfl, zv_X10_comes_0 _ _ ?_⟩
  rw [nI_clamp (show g < 2 ^ 31 by omega), nI_clamp (show mm < 2 ^ 31 by omega)] at hk
  have hq : ∀ x, x = zCome M g (fun i => M 37 ((g - 1) * 5 + i)) (M 40) (zScM M g) mm → k (some (.int x)) M N := fun x hx => hk _ M N ⟨rfl, zFr_rf _ _, hA, by rw [hx]⟩
  have hin : vp_in (nI mm) 5 := nI_in_ (by omega)
  have key : (¬ (nI mm = M 6 8 ∧ nI g = M 6 9)) → zr_X10_comes k 21 [some (.ref 6), some (.int (nI mm)), some (.int (nI g)), none, none] [] M N := by
    intro hne
    refine zv_X10_comes_21 _ _ ?_
    rw [nI_clamp (show mm < 2 ^ 31 by omega)]
    match g, hg, hsc, hk, hq, hne with
    | 0, hg, hsc, hk, hq, hne =>
      refine ⟨fun _ => ⟨hin, fun c => ⟨hin, hq _ ?_⟩, fun c => ⟨hin, hq _ ?_⟩⟩, fun c => absurd rfl c⟩
      · rw [zCome, if_neg hne, if_pos rfl, if_pos c]
      · rw [zCome, if_neg hne, if_pos rfl, if_neg c]
    | g + 1, hg, hsc, hk, hq, hne =>
      refine ⟨fun c => absurd c (nI_ne0 (by omega) (by omega)), fun _ => ?_⟩
      have ei : (nI (g + 1) - 1) * 5 + nI mm = nI (g * 5 + mm) := by rw [nI_pred, zN_mul g 5 5, nI_add]
      have ej : nI mm * 12 + nI (g + 1) = nI (mm * 12 + (g + 1)) := by rw [zN_mul mm 12 12, nI_add]
      rw [ei, ej, nI_clamp (show g * 5 + mm < 2 ^ 31 by omega), nI_clamp (show mm * 12 + (g + 1) < 2 ^ 31 by omega)]
      have hij : vp_in (nI (g * 5 + mm)) 60 := nI_in_ (by omega)
      have hik : vp_in (nI (mm * 12 + (g + 1))) 60 := nI_in_ (by omega)
      have hz : zCome M (g + 1) (fun i => M 37 ((g + 1 - 1) * 5 + i)) (M 40) (zScM M (g + 1)) mm = if M 25 mm = 1 ∨ M 25 mm = 4 then zTow (M 28 mm) (M 37 (g * 5 + mm)) (if M 40 mm = 0 then M 27 mm else M 26 mm)
        else if M 25 mm = 5 then (if zAwk (M 25 mm) (M 29 mm) (nI (g + 1)) then zTow (M 28 mm) (M 37 (g * 5 + mm)) (if M 40 mm = 0 then M 27 mm else M 26 mm) else M 37 (g * 5 + mm))
        else if M 25 mm = 2 then (zRiskF M (g + 1) (zScM M (g + 1)) (M 28 mm) (M 37 (g * 5 + mm)) (zPcs M)).1
        else if M 25 mm = 3 then zTow (M 28 mm) (M 37 (g * 5 + mm)) (if 0 ≤ M 30 (mm * 12 + (g + 1)) ∧ M 30 (mm * 12 + (g + 1)) < M 1 4 ∧ M 30 (mm * 12 + (g + 1)) < 8 then M 30 (mm * 12 + (g + 1)) else M 26 mm)
        else zTow (M 28 mm) (M 37 (g * 5 + mm)) (M 26 mm) := by
        rw [zCome, if_neg hne, if_neg (by omega)]; rfl
      rw [hz] at hq
      refine ⟨hij, hin, fun a1 => ⟨hin, fun c => ⟨hin, hin, hq _ ?_⟩, fun c => ⟨hin, hin, hq _ ?_⟩⟩, fun a1 => ⟨fun a2 => ?_, fun a2 => ⟨fun a3 => ⟨hik, fun c => ⟨hin, hin, hq _ ?_⟩, fun c => ⟨hin, hq _ ?_⟩⟩, fun a3 => ⟨fun a4 => ⟨hin, fun c => ⟨hin, hin, hq _ ?_⟩, fun c => ⟨hin, hin, hq _ ?_⟩⟩, fun a4 => ⟨fun a5 => ⟨hin, fun b => hq _ ?_, fun b => ⟨hin, fun c => ⟨hin, hin, hq _ ?_⟩, fun c => ⟨hin, hin, hq _ ?_⟩⟩⟩, fun a5 => ⟨hin, hin, hq _ ?_⟩⟩⟩⟩⟩⟩
      · rw [if_pos (Or.inl a1), if_pos c]
      · rw [if_pos (Or.inl a1), if_neg c]
      · refine ab_m3_i ⟨hN, mm, g + 1, hm, hg, rfl, rfl, hsc⟩ ?_
        rintro o M2 N2 ⟨rfl, hF2, hA2, rfl⟩
        refine zv_X10_comes_209 _ (hk _ M2 N2 ⟨rfl, hF2, hA2, ?_⟩)
        rw [hz, nI_clamp (show g + 1 < 2 ^ 31 by omega), nI_clamp (show mm < 2 ^ 31 by omega), if_neg (by rw [a2]; decide), if_neg (by rw [a2]; decide), if_pos a2]
      · rw [if_neg (by rw [a3]; decide), if_neg (by rw [a3]; decide), if_neg a2, if_pos a3, if_neg (ab_b_0.mp c)]
      · rw [if_neg (by rw [a3]; decide), if_neg (by rw [a3]; decide), if_neg a2, if_pos a3, if_pos (Decidable.not_not.mp (fun q => c (ab_b_0.mpr q)))]
      · rw [if_pos (Or.inr a4), if_pos c]
      · rw [if_pos (Or.inr a4), if_neg c]
      · rw [if_neg (fun q => q.elim a1 a4), if_pos a5, if_neg (ab_b_0.mp b)]
      · rw [if_neg (fun q => q.elim a1 a4), if_pos a5, if_pos (Decidable.not_not.mp (fun q => b (ab_b_0.mpr q))), if_pos c]
      · rw [if_neg (fun q => q.elim a1 a4), if_pos a5, if_pos (Decidable.not_not.mp (fun q => b (ab_b_0.mpr q))), if_neg c]
      · rw [if_neg (fun q => q.elim a1 a4), if_neg a5, if_neg a2, if_neg a3]
  refine ⟨fun c1 => ⟨fun c2 => hq _ ?_, fun c2 => key (fun q => c2 q.2)⟩, fun c1 => key (fun q => c1 q.1)⟩
  rw [zCome, if_pos ⟨c1, c2⟩]
abbrev zR_X10_comes : Room := { frames := 4, cells := 0, slots := 0, locals := 108 }
set_option maxRecDepth 20000 in
theorem zM_X10_comes (l : Launch) : ab_Met l zw_C vwCl zZ_C yX10_comes cX10_comes 5 (some .int) zR_X10_comes zt_X10_comes := ab_ofRun (G := zg_X10_comes) (P := zp_X10_comes) rfl zo_X10_comes (by decide +kernel) zl_cl zl_lamC zf_X10_ok zs_tabOK ab_Cst_nil ab_Sta_nil (List.forall_mem_cons.mpr ⟨ab_callV zZ_C_ok (zM_X10_placeOf l) (ab_in 678 (by decide +kernel) rfl) (ab_in 675 (by decide +kernel) rfl) (ab_in 676 (by decide +kernel) rfl) (ab_in 677 (by decide +kernel) rfl) (ab_in 7 (by decide +kernel) rfl) (by unfold ab_yok; decide +kernel) ⟨rfl, rfl⟩ (by decide) zV_X10_placeOf, List.forall_mem_cons.mpr ⟨ab_callV zZ_C_ok (zM_X5_awake l) (ab_in 688 (by decide +kernel) rfl) (ab_in 685 (by decide +kernel) rfl) (ab_in 686 (by decide +kernel) rfl) (ab_in 687 (by decide +kernel) rfl) (ab_in 3 (by decide +kernel) rfl) (by unfold ab_yok; decide +kernel) ⟨rfl, rfl⟩ (by decide) zV_X5_awake, List.forall_mem_cons.mpr ⟨ab_callV zZ_C_ok (zM_X10_towards l) (ab_in 682 (by decide +kernel) rfl) (ab_in 679 (by decide +kernel) rfl) (ab_in 681 (by decide +kernel) rfl) (ab_inS (List.mem_of_getElem? (i := 15) (by decide +kernel)) rfl) (ab_in 7 (by decide +kernel) rfl) (by unfold ab_yok; decide +kernel) ⟨rfl, rfl⟩ (by decide) zV_X10_towards, List.forall_mem_cons.mpr ⟨ab_callV zZ_C_ok (zM_X10_riskiest l) (ab_in 692 (by decide +kernel) rfl) (ab_in 689 (by decide +kernel) rfl) (ab_in 691 (by decide +kernel) rfl) (ab_inS (List.mem_of_getElem? (i := 16) (by decide +kernel)) rfl) (ab_in 7 (by decide +kernel) rfl) (by unfold ab_yok; decide +kernel) ⟨rfl, rfl⟩ (by decide) zV_X10_riskiest, List.forall_mem_cons.mpr ⟨ab_callV zZ_C_ok (zM_X2_has l) (ab_in 554 (by decide +kernel) rfl) (ab_in 701 (by decide +kernel) rfl) (ab_in 552 (by decide +kernel) rfl) (ab_in 553 (by decide +kernel) rfl) (ab_in 2 (by decide +kernel) rfl) (by unfold ab_yok; decide +kernel) ⟨rfl, rfl⟩ (by decide) zV_X2_has, List.forall_mem_nil _⟩⟩⟩⟩⟩) (List.forall_mem_nil _) zE_X10_comes
end
section
/-! Walk.go *)
-/
def zPrev (d : ab_M) : Nat → zSt
  | 0 => zS0
  | h + 1 => zWk d h
theorem zWk_eq (d : ab_M) (h : Nat) : zWk d h = zHr d h (zPrev d h) := by cases h <;> rfl
def zSc (d : ab_M) (h : Nat) (p : Nat) : Nat := if h = 0 ∨ ¬ (zPrev d h).2.2.2 p = 0 then 1 else (zPrev d h).2.2.1 p + 1
theorem zWk_pl (d : ab_M) (h : Nat) : (zWk d h).1 = zCome d h (zPrev d h).1 (zPrev d h).2.1 (zSc d h) := by rw [zWk_eq]; rfl
theorem zWk_bk (d : ab_M) (h m : Nat) : (zWk d h).2.1 m = zBack d h (zPrev d h).2.1 m ((zWk d h).1 m) := by rw [zWk_eq]; rfl
theorem zWk_sc (d : ab_M) (h : Nat) : (zWk d h).2.2.1 = zSc d h := by rw [zWk_eq]; rfl
theorem zWk_lk (d : ab_M) (h : Nat) : (zWk d h).2.2.2 = zLk d h (zWk d h).1 (zMen d) := by rw [zWk_eq]; rfl
theorem zSc_le (d : ab_M) (p : Nat) : ∀ h, 1 ≤ zSc d h p ∧ zSc d h p ≤ h + 1
  | 0 => by unfold zSc; rw [if_pos (Or.inl rfl)]; omega
  | h + 1 => by
    have ih := zSc_le d p h
    have e : (zPrev d (h + 1)).2.2.1 p = zSc d h p := by show (zWk d h).2.2.1 p = _; rw [zWk_sc]
    unfold zSc
    by_cases c : h + 1 = 0 ∨ ¬ (zPrev d (h + 1)).2.2.2 p = 0
    · rw [if_pos c]; omega
    · rw [if_neg c, e]; omega
theorem zRiskF_congr {d : ab_M} {h : Nat} {sc sc2 : Nat → Nat} {v f : Int32} : ∀ p, (∀ q, q < p → sc q = sc2 q) → zRiskF d h sc v f p = zRiskF d h sc2 v f p
  | 0, _ => rfl
  | p + 1, hs => by
    rw [zRiskF, zRiskF, zRiskF_congr p (fun q hq => hs q (by omega)), hs p (by omega)]
theorem zRiskF_rng {d : ab_M} {h : Nat} {sc : Nat → Nat} {v f : Int32} : ∀ p, (zRiskF d h sc v f p).1 = f ∨ ∃ q, q < p ∧ (zRiskF d h sc v f p).1 = nI q
  | 0 => Or.inl rfl
  | p + 1 => by
    have ih := zRiskF_rng (d := d) (h := h) (sc := sc) (v := v) (f := f) p
    have up : (zRiskF d h sc v f p).1 = f ∨ ∃ q, q < p + 1 ∧ (zRiskF d h sc v f p).1 = nI q := ih.imp id (fun ⟨q, h1, h2⟩ => ⟨q, by omega, h2⟩)
    rw [zRiskF]
    split
    · split
      · exact Or.inr ⟨p, by omega, rfl⟩
      · exact up
    · exact up
theorem zCome_congr {d d2 : ab_M} {h m : Nat} {pl pl2 bk bk2 : Nat → Int32} {sc sc2 : Nat → Nat} (h1 : d2 1 = d 1) (h6 : d2 6 = d 6) (h25 : d2 25 = d 25) (h26 : d2 26 = d 26) (h27 : d2 27 = d 27) (h28 : d2 28 = d 28) (h29 : d2 29 = d 29) (h30 : d2 30 = d 30) (hA : zAsk d2 = zAsk d) (hpl : 0 < h → pl2 m = pl m) (hbk : 0 < h → bk2 m = bk m) (hsc : ∀ p, p < zPcs d → sc2 p = sc p) : zCome d2 h pl2 bk2 sc2 m = zCome d h pl bk sc m := by
  have hP : zPcs d2 = zPcs d := by unfold zPcs; rw [h1]
  have hR : ∀ v f, zRiskF d2 h sc2 v f (zPcs d) = zRiskF d h sc v f (zPcs d) := by
    intro v f
    rw [zRiskF_congr (zPcs d) hsc]
    generalize zPcs d = n
    induction n with
    | zero => rfl
    | succ n ih => rw [zRiskF, zRiskF, ih, hA]
  unfold zCome
  rw [h1, h6, h25, h26, h27, h28, h29, h30, hP, hR]
  by_cases e : h = 0
  · simp only [if_pos e]
  · rw [hpl (by omega), hbk (by omega)]
theorem zTow_rng {v f t P : Int32} (hv : 1 ≤ v ∧ v ≤ 3) (hf : 0 ≤ f ∧ f < P) (ht : 0 ≤ t ∧ t < P) (hP : P ≤ 8) : 0 ≤ zTow v f t ∧ zTow v f t < P := by
  unfold zTow; grind
theorem zCome_rng {d : ab_M} {h m : Nat} {pl bk : Nat → Int32} {sc : Nat → Nat} (h0 : zI0 d) (h1 : zI1 d) (hm : m < zMen d) (hpl : 0 < h → 0 ≤ pl m ∧ pl m < d 1 4) : 0 ≤ zCome d h pl bk sc m ∧ zCome d h pl bk sc m < d 1 4 := by
  obtain ⟨-, g26, g27, g28, -, g6⟩ := h1 m hm
  have hP := h0.2.2.2.2.2.1.2
  unfold zCome
  split
  · rename_i c; exact g6 c.1
  split
  · split
    · exact g27
    · exact g26
  rename_i hh
  have hpl := hpl (by omega)
  have hpe : 0 ≤ (if bk m = 0 then d 27 m else d 26 m) ∧ (if bk m = 0 then d 27 m else d 26 m) < d 1 4 := by
    split
    · exact g27
    · exact g26
  split
  · exact zTow_rng g28 hpl hpe hP
  split
  · split
    · exact zTow_rng g28 hpl hpe hP
    · exact hpl
  split
  · rcases zRiskF_rng (d := d) (h := h) (sc := sc) (v := d 28 m) (f := pl m) (zPcs d) with e | ⟨q, hq, e⟩
    · rw [e]; exact hpl
    · rw [e]
      obtain ⟨e1, e2⟩ := zP_eq h0
      rw [e1]
      exact ⟨nI_pos' (by omega), nI_lt hq (by omega)⟩
  split
  · refine zTow_rng g28 hpl ?_ hP
    split
    · rename_i c; exact ⟨c.1, c.2.1⟩
    · exact g26
  · exact zTow_rng g28 hpl g26 hP
theorem zWk_rng {d : ab_M} (h0 : zI0 d) (h1 : zI1 d) {m : Nat} (hm : m < zMen d) : ∀ h, 0 ≤ (zWk d h).1 m ∧ (zWk d h).1 m < d 1 4
  | 0 => by rw [zWk_pl]; exact zCome_rng h0 h1 hm (fun q => by omega)
  | h + 1 => by rw [zWk_pl]; exact zCome_rng h0 h1 hm (fun _ => zWk_rng h0 h1 hm h)
theorem zWk_nat {d : ab_M} (h0 : zI0 d) (h1 : zI1 d) {m : Nat} (hm : m < zMen d) (h : Nat) : ∃ q, q < zPcs d ∧ (zWk d h).1 m = nI q := by
  obtain ⟨a, b⟩ := zWk_rng h0 h1 hm h
  obtain ⟨e1, e2⟩ := zP_eq h0
  obtain ⟨j, hj, e⟩ := nI_of (Int32.not_lt.mpr a)
  rw [e, e1] at b
  exact ⟨j, (nI_ltI hj (by omega)).mp b, e⟩
theorem vp_nar_b {c : Prop} [Decidable c] : vp_nar .boolean (ab_b c) = ab_b c := by unfold ab_b; split <;> rfl
abbrev zGo : List Nat := [33, 35, 36, 37, 38, 39, 40]
theorem zNight_of {M M2 : ab_M} (hN : zNight M) (hA : zAsks M2) (hF : zFr zGo M M2) : zNight M2 := by
  obtain ⟨-, h0, h1⟩ := hN
  refine ⟨hA, ?_, ?_⟩
  · unfold zI0 at h0 ⊢
    rw [hF 17 (by decide), hF 1 (by decide), hF 2 (by decide)]
    exact h0
  · unfold zI1 zMen at h1 ⊢
    rw [hF 2 (by decide), hF 25 (by decide), hF 26 (by decide), hF 27 (by decide), hF 28 (by decide), hF 29 (by decide), hF 1 (by decide), hF 6 (by decide)]
    exact h1
theorem zAsk_go {M M2 : ab_M} (h : zFr zGo M M2) : zAsk M2 = zAsk M := by
  funext th p h2 st pc
  unfold zAsk zIs
  rw [zAskN_fr (h 3 (by decide)) (h 13 (by decide)) (h 14 (by decide)) (h 17 (by decide)) (h 18 (by decide)) (h 31 (by decide)) (h 32 (by decide)), h 15 (by decide)]
/-- only cells that asking doesn't see -/
theorem zAsks_go {M M2 : ab_M} (h : zAsks M) (hF : zFr [37, 38, 39, 40] M M2) : zAsks M2 := by
  obtain ⟨h1, h2, h3⟩ := h
  refine ⟨?_, zCache_fr h2 (hF 3 (by decide)) (by rw [hF 5 (by decide)]) (hF 13 (by decide)) (hF 14 (by decide)) (hF 17 (by decide)) (hF 18 (by decide)) (hF 31 (by decide)) (hF 32 (by decide)) (hF 36 (by decide)), ?_⟩
  · unfold zLawOK at h1 ⊢
    rw [hF 3 (by decide), hF 32 (by decide)]
    exact h1
  · rw [hF 15 (by decide)]
    exact h3
def zp_X10_go : ab_P := [(0, .iconst 0, 1, [], [0]),
  (1, .istore_n 1, 2, [1], []),
  (2, .iload_n 1, 3, [1], []),
  (3, .aload_n 0, 4, [0], []),
  (4, .getfield 44, 7, [], []),
  (7, .getfield 69, 10, [], []),
  (10, .iconst 0, 11, [], [0]),
  (11, .iaload, 12, [], []),
  (12, .if_icmp .ge 207, 15, [219], []),
  (15, .iconst 0, 16, [], [0]),
  (16, .istore_n 2, 17, [2], []),
  (17, .iload_n 2, 18, [2], []),
  (18, .aload_n 0, 19, [0], []),
  (19, .getfield 44, 22, [], []),
  (22, .getfield 74, 25, [], []),
  (25, .if_icmp .ge 64, 28, [89], []),
  (28, .iload_n 1, 29, [1], []),
  (29, .bipush 8, 31, [], [8]),
  (31, .imul, 32, [], []),
  (32, .iload_n 2, 33, [2], []),
  (33, .iadd, 34, [], []),
  (34, .istore_n 3, 35, [3], []),
  (35, .aload_n 0, 36, [0], []),
  (36, .getfield 18, 39, [], []),
  (39, .iload_n 3, 40, [3], []),
  (40, .iload_n 1, 41, [1], []),
  (41, .ifCond .eq 14, 44, [55], []),
  (44, .aload_n 0, 45, [0], []),
  (45, .iload_n 2, 46, [2], []),
  (46, .iload_n 1, 47, [1], []),
  (47, .iconst 1, 48, [], [1]),
  (48, .isub, 49, [], []),
  (49, .invokevirtual 77, 52, [], []),
  (52, .ifCond .eq 7, 55, [59], []),
  (55, .iconst 1, 56, [], [1]),
  (56, .goto 14, 59, [70], []),
  (59, .aload_n 0, 60, [0], []),
  (60, .getfield 18, 63, [], []),
  (63, .iload_n 3, 64, [3], []),
  (64, .bipush 8, 66, [], [8]),
  (66, .isub, 67, [], []),
  (67, .iaload, 68, [], []),
  (68, .iconst 1, 69, [], [1]),
  (69, .iadd, 70, [], []),
  (70, .iastore, 71, [], []),
  (71, .aload_n 0, 72, [0], []),
  (72, .getfield 15, 75, [], []),
  (75, .iload_n 3, 76, [3], []),
  (76, .aload_n 0, 77, [0], []),
  (77, .iload_n 2, 78, [2], []),
  (78, .iload_n 1, 79, [1], []),
  (79, .invokevirtual 81, 82, [], []),
  (82, .iastore, 83, [], []),
  (83, .iinc 2 1, 86, [], [1]),
  (86, .goto (-69), 89, [17], []),
  (89, .iconst 0, 90, [], [0]),
  (90, .istore_n 2, 91, [2], []),
  (91, .iload_n 2, 92, [2], []),
  (92, .aload_n 0, 93, [0], []),
  (93, .getfield 48, 96, [], []),
  (96, .getfield 84, 99, [], []),
  (99, .if_icmp .ge 114, 102, [213], []),
  (102, .aload_n 0, 103, [0], []),
  (103, .iload_n 2, 104, [2], []),
  (104, .iload_n 1, 105, [1], []),
  (105, .invokevirtual 87, 108, [], []),
  (108, .istore_n 3, 109, [3], []),
  (109, .aload_n 0, 110, [0], []),
  (110, .getfield 9, 113, [], []),
  (113, .iload_n 1, 114, [1], []),
  (114, .iconst 5, 115, [], [5]),
  (115, .imul, 116, [], []),
  (116, .iload_n 2, 117, [2], []),
  (117, .iadd, 118, [], []),
  (118, .iload_n 3, 119, [3], []),
  (119, .iastore, 120, [], []),
  (120, .aload_n 0, 121, [0], []),
  (121, .getfield 21, 124, [], []),
  (124, .iload_n 2, 125, [2], []),
  (125, .iload_n 3, 126, [3], []),
  (126, .aload_n 0, 127, [0], []),
  (127, .getfield 48, 130, [], []),
  (130, .getfield 90, 133, [], []),
  (133, .iload_n 2, 134, [2], []),
  (134, .iaload, 135, [], []),
  (135, .if_icmp .eq 33, 138, [168], []),
  (138, .iload_n 3, 139, [3], []),
  (139, .aload_n 0, 140, [0], []),
  (140, .getfield 48, 143, [], []),
  (143, .getfield 93, 146, [], []),
  (146, .iload_n 2, 147, [2], []),
  (147, .iaload, 148, [], []),
  (148, .if_icmp .eq 16, 151, [164], []),
  (151, .iload_n 1, 152, [1], []),
  (152, .ifCond .le 16, 155, [168], []),
  (155, .aload_n 0, 156, [0], []),
  (156, .getfield 21, 159, [], []),
  (159, .iload_n 2, 160, [2], []),
  (160, .baload, 161, [], []),
  (161, .ifCond .eq 7, 164, [168], []),
  (164, .iconst 1, 165, [], [1]),
  (165, .goto 4, 168, [169], []),
  (168, .iconst 0, 169, [], [0]),
  (169, .bastore, 170, [], []),
  (170, .iload_n 2, 171, [2], []),
  (171, .aload_n 0, 172, [0], []),
  (172, .getfield 25, 175, [], []),
  (175, .if_icmp .eq 32, 178, [207], []),
  (178, .aload_n 0, 179, [0], []),
  (179, .getfield 48, 182, [], []),
  (182, .iload_n 2, 183, [2], []),
  (183, .iload_n 1, 184, [1], []),
  (184, .invokevirtual 96, 187, [], []),
  (187, .ifCond .eq 20, 190, [207], []),
  (190, .aload_n 0, 191, [0], []),
  (191, .getfield 15, 194, [], []),
  (194, .iload_n 1, 195, [1], []),
  (195, .bipush 8, 197, [], [8]),
  (197, .imul, 198, [], []),
  (198, .iload_n 3, 199, [3], []),
  (199, .iadd, 200, [], []),
  (200, .dup2, 201, [], []),
  (201, .iaload, 202, [], []),
  (202, .iconst 1, 203, [], [1]),
  (203, .iload_n 2, 204, [2], []),
  (204, .ishl, 205, [], []),
  (205, .ior, 206, [], []),
  (206, .iastore, 207, [], []),
  (207, .iinc 2 1, 210, [], [1]),
  (210, .goto (-119), 213, [91], []),
  (213, .iinc 1 1, 216, [], [1]),
  (216, .goto (-214), 219, [2], []),
  (219, .return_, 220, [], [])]
theorem zo_X10_go : ab_ok cX10_go zp_X10_go = true := by decide +kernel
def zg_X10_go : ab_G := (zw_C, zs_tab, zf_X10, [], [], [(77, 3, zt_X10_lookedAt), (81, 3, zt_X10_othersAt), (87, 3, zt_X10_comes), (96, 3, zt_X5_awake)], [])
theorem zm_X10_go : ab_MG zg_X10_go := ab_MGof (List.forall_mem_cons.mpr ⟨ab_pp_mono _, List.forall_mem_cons.mpr ⟨ab_pp_mono _, List.forall_mem_cons.mpr ⟨zt_X10_comes_mono, List.forall_mem_cons.mpr ⟨ab_pp_mono _, List.forall_mem_nil _⟩⟩⟩⟩) (List.forall_mem_nil _)
abbrev zr_X10_go (Q : ab_R) : ab_K := ab_Run zg_X10_go zp_X10_go none 4 Q
set_option maxRecDepth 20000 in
theorem zv_X10_go_0 {Q : ab_R} {M : ab_M} {N : ab_N}  (h : zr_X10_go Q 2 [some (.ref 6), some (.int (0 : Int32)), none, none] [] M N) : zr_X10_go Q 0 [some (.ref 6)] [] M N := ab_Run_s zm_X10_go (sp := [(2, [true, true, false, false]), (17, [true, true, true, false]), (70, [true, true, true, true]), (91, [true, true, true, false]), (108, [true, true, true, false]), (169, [true, true, true, true])]) 135 h
set_option maxRecDepth 20000 in
theorem zv_X10_go_2 {Q : ab_R} {M : ab_M} {N : ab_N} (l1 : Int32) (h : vp_in (0 : Int32) 5 ∧ (((M 17 0) ≤ l1 → Q none M N) ∧ (¬ ((M 17 0) ≤ l1) → zr_X10_go Q 17 [some (.ref 6), some (.int l1), some (.int (0 : Int32)), none] [] M N))) : zr_X10_go Q 2 [some (.ref 6), some (.int l1), none, none] [] M N := ab_Run_s zm_X10_go (sp := [(2, [true, true, false, false]), (17, [true, true, true, false]), (70, [true, true, true, true]), (91, [true, true, true, false]), (108, [true, true, true, false]), (169, [true, true, true, true])]) 135 h
set_option maxRecDepth 20000 in
theorem zv_X10_go_17 {Q : ab_R} {M : ab_M} {N : ab_N} (l1 : Int32) (l2 : Int32) (h : ((M 1 4) ≤ l2 → zr_X10_go Q 91 [some (.ref 6), some (.int l1), some (.int (0 : Int32)), none] [] M N) ∧ (¬ ((M 1 4) ≤ l2) → (l1 = 0 → zr_X10_go Q 70 [some (.ref 6), some (.int l1), some (.int l2), some (.int ((l1 * (8 : Int32)) + l2))] [.int (1 : Int32), .int ((l1 * (8 : Int32)) + l2), .ref 39] M N) ∧ (¬ (l1 = 0) → (vp_in ((l1 - (1 : Int32)) * 8 + l2) 96) ∧ (((ab_b (¬ (M 38) ((l1 - (1 : Int32)) * 8 + l2).toNatClampNeg = 0)) = 0 → vp_in (((l1 * (8 : Int32)) + l2) - (8 : Int32)) 96 ∧ (zr_X10_go Q 70 [some (.ref 6), some (.int l1), some (.int l2), some (.int ((l1 * (8 : Int32)) + l2))] [.int ((M 39 (((l1 * (8 : Int32)) + l2) - (8 : Int32)).toNatClampNeg) + (1 : Int32)), .int ((l1 * (8 : Int32)) + l2), .ref 39] M N)) ∧ (¬ ((ab_b (¬ (M 38) ((l1 - (1 : Int32)) * 8 + l2).toNatClampNeg = 0)) = 0) → zr_X10_go Q 70 [some (.ref 6), some (.int l1), some (.int l2), some (.int ((l1 * (8 : Int32)) + l2))] [.int (1 : Int32), .int ((l1 * (8 : Int32)) + l2), .ref 39] M N))))) : zr_X10_go Q 17 [some (.ref 6), some (.int l1), some (.int l2), none] [] M N := ab_Run_s zm_X10_go (sp := [(2, [true, true, false, false]), (17, [true, true, true, false]), (70, [true, true, true, true]), (91, [true, true, true, false]), (108, [true, true, true, false]), (169, [true, true, true, true])]) 135 h
set_option maxRecDepth 20000 in
theorem zv_X10_go_70 {Q : ab_R} {M : ab_M} {N : ab_N} (l1 : Int32) (l2 : Int32) (l3 : Int32) (s1 : Int32) (s2 : Int32) (h : vp_in s1 96 ∧ (let z1 : Nat → Int32 := upd (M 39) s1.toNatClampNeg s2; (vp_in l2 8) ∧ (vp_in l3 96 ∧ (let z2 : Nat → Int32 := upd (M 38) l3.toNatClampNeg (zOth ((M 1) 7) ((M 17) 3) ((M 17) 4) ((M 16) l2.toNatClampNeg) ((M 6) 11) ((M 6) 12) l2 l1); zr_X10_go Q 17 [some (.ref 6), some (.int l1), some (.int (l2 + (1 : Int32))), none] [] (ab_u (ab_u M 39 z1) 38 z2) N)))) : zr_X10_go Q 70 [some (.ref 6), some (.int l1), some (.int l2), some (.int l3)] [.int s2, .int s1, .ref 39] M N := ab_Run_s zm_X10_go (sp := [(2, [true, true, false, false]), (17, [true, true, true, false]), (70, [true, true, true, true]), (91, [true, true, true, false]), (108, [true, true, true, false]), (169, [true, true, true, true])]) 135 h
set_option maxRecDepth 20000 in
theorem zv_X10_go_91 {Q : ab_R} {M : ab_M} {N : ab_N} (l1 : Int32) (l2 : Int32) (h : ((M 2 6) ≤ l2 → zr_X10_go Q 2 [some (.ref 6), some (.int (l1 + (1 : Int32))), none, none] [] M N) ∧ (¬ ((M 2 6) ≤ l2) → zt_X10_comes [.ref 6, .int l2, .int l1] M N (fun r M2 N2 => zr_X10_go Q 108 [some (.ref 6), some (.int l1), some (.int l2), none] (ab_ol r []) M2 N2))) : zr_X10_go Q 91 [some (.ref 6), some (.int l1), some (.int l2), none] [] M N := ab_Run_s zm_X10_go (sp := [(2, [true, true, false, false]), (17, [true, true, true, false]), (70, [true, true, true, true]), (91, [true, true, true, false]), (108, [true, true, true, false]), (169, [true, true, true, true])]) 135 h
set_option maxRecDepth 20000 in
theorem zv_X10_go_108 {Q : ab_R} {M : ab_M} {N : ab_N} (l1 : Int32) (l2 : Int32) (s0 : Int32) (h : vp_in ((l1 * (5 : Int32)) + l2) 60 ∧ (let z1 : Nat → Int32 := upd (M 37) ((l1 * (5 : Int32)) + l2).toNatClampNeg s0; vp_in l2 5 ∧ ((s0 = (M 26 l2.toNatClampNeg) → zr_X10_go Q 169 [some (.ref 6), some (.int l1), some (.int l2), some (.int s0)] [.int (0 : Int32), .int l2, .ref 40] (ab_u M 37 z1) N) ∧ (¬ (s0 = (M 26 l2.toNatClampNeg)) → vp_in l2 5 ∧ ((s0 = (M 27 l2.toNatClampNeg) → zr_X10_go Q 169 [some (.ref 6), some (.int l1), some (.int l2), some (.int s0)] [.int (1 : Int32), .int l2, .ref 40] (ab_u M 37 z1) N) ∧ (¬ (s0 = (M 27 l2.toNatClampNeg)) → (l1 ≤ 0 → zr_X10_go Q 169 [some (.ref 6), some (.int l1), some (.int l2), some (.int s0)] [.int (0 : Int32), .int l2, .ref 40] (ab_u M 37 z1) N) ∧ (¬ (l1 ≤ 0) → vp_in l2 5 ∧ (((M 40 l2.toNatClampNeg) = 0 → zr_X10_go Q 169 [some (.ref 6), some (.int l1), some (.int l2), some (.int s0)] [.int (0 : Int32), .int l2, .ref 40] (ab_u M 37 z1) N) ∧ (¬ ((M 40 l2.toNatClampNeg) = 0) → zr_X10_go Q 169 [some (.ref 6), some (.int l1), some (.int l2), some (.int s0)] [.int (1 : Int32), .int l2, .ref 40] (ab_u M 37 z1) N))))))))) : zr_X10_go Q 108 [some (.ref 6), some (.int l1), some (.int l2), none] [.int s0] M N := ab_Run_s zm_X10_go (sp := [(2, [true, true, false, false]), (17, [true, true, true, false]), (70, [true, true, true, true]), (91, [true, true, true, false]), (108, [true, true, true, false]), (169, [true, true, true, true])]) 135 h
set_option maxRecDepth 20000 in
theorem zv_X10_go_169 {Q : ab_R} {M : ab_M} {N : ab_N} (l1 : Int32) (l2 : Int32) (l3 : Int32) (s1 : Int32) (s2 : Int32) (h : vp_in s1 5 ∧ (let z1 : Nat → Int32 := upd (M 40) s1.toNatClampNeg (vp_nar .boolean s2); (l2 = (M 6 7) → zr_X10_go Q 91 [some (.ref 6), some (.int l1), some (.int (l2 + (1 : Int32))), none] [] (ab_u M 40 z1) N) ∧ (¬ (l2 = (M 6 7)) → (vp_in l2 5) ∧ (((ab_b (zAwk ((M 25) l2.toNatClampNeg) ((M 29) l2.toNatClampNeg) l1)) = 0 → zr_X10_go Q 91 [some (.ref 6), some (.int l1), some (.int (l2 + (1 : Int32))), none] [] (ab_u M 40 z1) N) ∧ (¬ ((ab_b (zAwk ((M 25) l2.toNatClampNeg) ((M 29) l2.toNatClampNeg) l1)) = 0) → vp_in ((l1 * (8 : Int32)) + l3) 96 ∧ (vp_in ((l1 * (8 : Int32)) + l3) 96 ∧ (let z2 : Nat → Int32 := upd (M 38) ((l1 * (8 : Int32)) + l3).toNatClampNeg ((M 38 ((l1 * (8 : Int32)) + l3).toNatClampNeg) ||| ((1 : Int32) <<< (l2 &&& 31))); zr_X10_go Q 91 [some (.ref 6), some (.int l1), some (.int (l2 + (1 : Int32))), none] [] (ab_u (ab_u M 40 z1) 38 z2) N))))))) : zr_X10_go Q 169 [some (.ref 6), some (.int l1), some (.int l2), some (.int l3)] [.int s2, .int s1, .ref 40] M N := ab_Run_s zm_X10_go (sp := [(2, [true, true, false, false]), (17, [true, true, true, false]), (70, [true, true, true, true]), (91, [true, true, true, false]), (108, [true, true, true, false]), (169, [true, true, true, true])]) 135 h
/-- hours ahead of h are told -/
def zOut (M0 : ab_M) (h : Nat) (M : ab_M) : Prop := ∀ i, i < h → (∀ m, m < zMen M0 → M 37 (i * 5 + m) = (zWk M0 i).1 m) ∧ ∀ p, p < zPcs M0 → M 39 (i * 8 + p) = nI (zSc M0 i p) ∧ M 38 (i * 8 + p) = (zWk M0 i).2.2.2 p
section ZGo
variable {Q : ab_R} {N : ab_N} {M0 : ab_M}
/-- the men of an hour, from m on -/
theorem zL_go_m (hN : zNight M0) (h : Nat) (hh : h < zHrs M0) (kk : ∀ M, zFr zGo M0 M → zAsks M → zOut M0 (h + 1) M → (∀ m, m < zMen M0 → M 40 m = (zWk M0 h).2.1 m) → zr_X10_go Q 2 [some (.ref 6), some (.int (nI (h + 1))), none, none] [] M N) :
    ∀ (n m : Nat) (M : ab_M), m + n = zMen M0 → zFr zGo M0 M → zAsks M → zOut M0 h M → (∀ i, i < m → M 37 (h * 5 + i) = (zWk M0 h).1 i ∧ M 40 i = (zWk M0 h).2.1 i) → (∀ i, m ≤ i → i < zMen M0 → 0 < h → M 40 i = (zPrev M0 h).2.1 i) → (∀ p, p < zPcs M0 → M 39 (h * 8 + p) = nI (zSc M0 h p) ∧ M 38 (h * 8 + p) = zLk M0 h (zWk M0 h).1 m p) → zr_X10_go Q 91 [some (.ref 6), some (.int (nI h)), some (.int (nI m)), none] [] M N := by
  obtain ⟨hA0, h0, h1⟩ := id hN
  obtain ⟨hP, hP8⟩ := zP_eq h0
  obtain ⟨hMe, hM5⟩ := zM_eq h0
  obtain ⟨hHe, hH12⟩ := zH_eq h0
  intro n
  induction n with
  | zero =>
    intro m M hm hF hA hO hB hB2 hL
    have em : m = zMen M0 := by omega
    refine zv_X10_go_91 _ _ ⟨fun _ => ?_, fun c => absurd ?_ c⟩
    · rw [nI_1]
      refine kk M hF hA ?_ (fun i hi => (hB i (by omega)).2)
      intro i hi
      by_cases e : i = h
      · subst e
        refine ⟨fun j hj => (hB j (by omega)).1, fun p hp => ?_⟩
        obtain ⟨l1, l2⟩ := hL p hp
        exact ⟨l1, by rw [l2, zWk_lk, em]⟩
      · exact hO i (by omega)
    · rw [hF 2 (by decide), hMe]
      exact nI_le (by omega) (by omega)
  | succ n ih =>
    intro m M hm hF hA hO hB hB2 hL
    refine zv_X10_go_91 _ _ ⟨fun c => absurd c ?_, fun _ => ?_⟩
    · rw [hF 2 (by decide), hMe]
      exact nI_ge (by omega) (by omega)
    have hP2 : zPcs M = zPcs M0 := by unfold zPcs; rw [hF 1 (by decide)]
    have hM2 : zMen M = zMen M0 := by unfold zMen; rw [hF 2 (by decide)]
    have hsc : zScOK M h := by
      intro p hp
      rw [hP2] at hp
      have := zSc_le M0 p h
      exact ⟨zSc M0 h p, by omega, by omega, (hL p hp).1⟩
    refine ab_m2_i ⟨zNight_of hN hA hF, m, h, by omega, by omega, rfl, rfl, hsc⟩ ?_
    rintro o M2 N2 ⟨rfl, hF2, hA2, rfl⟩
    have hFt : zFr zGo M0 M2 := zFr_tr hF (zFr_mono hF2 (by decide))
    rw [nI_clamp (show h < 2 ^ 31 by omega), nI_clamp (show m < 2 ^ 31 by omega)]
    have ex : zCome M h (fun i => M 37 ((h - 1) * 5 + i)) (M 40) (zScM M h) m = (zWk M0 h).1 m := by
      rw [zWk_pl]
      refine zCome_congr (hF 1 (by decide)) (hF 6 (by decide)) (hF 25 (by decide)) (hF 26 (by decide)) (hF 27 (by decide)) (hF 28 (by decide)) (hF 29 (by decide)) (hF 30 (by decide)) (zAsk_go hF) (fun hp => ?_) (fun hp => hB2 m (Nat.le_refl _) (by omega) hp) (fun p hp => ?_)
      · have := (hO (h - 1) (by omega)).1 m (by omega)
        rw [this]
        cases h with
        | zero => omega
        | succ h => rfl
      · have := zSc_le M0 p h
        unfold zScM
        rw [(hL p hp).1, nI_clamp (by omega)]
    rw [ex]
    obtain ⟨q, hq, eq⟩ := zWk_nat h0 h1 (show m < zMen M0 by omega) h
    show zr_X10_go Q 108 [some (.ref 6), some (.int (nI h)), some (.int (nI m)), none] [.int ((zWk M0 h).1 m)] M2 N2
    have hm5 : vp_in (nI m) 5 := nI_in_ (by omega)
    have ei : nI h * 5 + nI m = nI (h * 5 + m) := by rw [zN_mul h 5 5, nI_add]
    have fin : ∀ b : Int32, b = zBack M0 h (zPrev M0 h).2.1 m ((zWk M0 h).1 m) → zr_X10_go Q 169 [some (.ref 6), some (.int (nI h)), some (.int (nI m)), some (.int ((zWk M0 h).1 m))] [.int b, .int (nI m), .ref 40] (ab_u M2 37 (upd (M2 37) (h * 5 + m) ((zWk M0 h).1 m))) N2 := by
      intro b hb
      refine zv_X10_go_169 _ _ _ _ _ ⟨hm5, ?_⟩
      intro z1
      have ez : z1 = upd (M2 40) m ((zWk M0 h).2.1 m) := by
        show upd (M2 40) _ (vp_nar .boolean b) = _
        rw [nI_clamp (show m < 2 ^ 31 by omega), hb, zWk_bk]
        unfold zBack
        rw [vp_nar_b]
      clear_value z1
      subst ez
      have hF3 : zFr zGo M0 (ab_u (ab_u M2 37 (upd (M2 37) (h * 5 + m) ((zWk M0 h).1 m))) 40 (upd (M2 40) m ((zWk M0 h).2.1 m))) := zFr_u (zFr_u hFt (by decide) _) (by decide) _
      have e37 : ∀ i, ab_u (ab_u M2 37 (upd (M2 37) (h * 5 + m) ((zWk M0 h).1 m))) 40 (upd (M2 40) m ((zWk M0 h).2.1 m)) 37 i = if i = h * 5 + m then (zWk M0 h).1 m else M 37 i := by
        intro i
        show upd (M2 37) _ _ i = _
        rw [hF2 37 (by decide)]
        rfl
      have hO3 : ∀ M3 : ab_M, M3 37 = ab_u (ab_u M2 37 (upd (M2 37) (h * 5 + m) ((zWk M0 h).1 m))) 40 (upd (M2 40) m ((zWk M0 h).2.1 m)) 37 → M3 39 = M 39 → (∀ i p, i < h → p < zPcs M0 → M3 38 (i * 8 + p) = M 38 (i * 8 + p)) → zOut M0 h M3 := by
        intro M3 q1 q2 q3 i hi
        refine ⟨fun j hj => ?_, fun p hp => ?_⟩
        · rw [q1, e37, if_neg (by omega)]
          exact (hO i hi).1 j hj
        · rw [q2, q3 i p hi hp]
          exact (hO i hi).2 p hp
      have hB3 : ∀ M3 : ab_M, M3 37 = ab_u (ab_u M2 37 (upd (M2 37) (h * 5 + m) ((zWk M0 h).1 m))) 40 (upd (M2 40) m ((zWk M0 h).2.1 m)) 37 → M3 40 = upd (M2 40) m ((zWk M0 h).2.1 m) → (∀ i, i < m + 1 → M3 37 (h * 5 + i) = (zWk M0 h).1 i ∧ M3 40 i = (zWk M0 h).2.1 i) ∧ (∀ i, m + 1 ≤ i → i < zMen M0 → 0 < h → M3 40 i = (zPrev M0 h).2.1 i) := by
        intro M3 q1 q2
        refine ⟨fun i hi => ?_, fun i hi1 hi2 hi3 => ?_⟩
        · rw [q1, q2, e37]
          by_cases e : i = m
          · subst e
            rw [if_pos rfl, upd_eq]
            exact ⟨rfl, rfl⟩
          · rw [if_neg (by omega), upd_ne _ _ e, hF2 40 (by decide)]
            exact hB i (by omega)
        · rw [q2, upd_ne _ _ (by omega), hF2 40 (by decide)]
          exact hB2 i (by omega) hi2 hi3
      rw [nI_1]
      have same : ¬ ((¬ nI m = M0 6 7 ∧ zAwk (M0 25 m) (M0 29 m) (nI h))) → zr_X10_go Q 91 [some (.ref 6), some (.int (nI h)), some (.int (nI (m + 1))), none] [] (ab_u (ab_u M2 37 (upd (M2 37) (h * 5 + m) ((zWk M0 h).1 m))) 40 (upd (M2 40) m ((zWk M0 h).2.1 m))) N2 := by
        intro hneg
        obtain ⟨b1, b2⟩ := hB3 _ rfl (by rw [ab_u_eq])
        refine ih (m + 1) _ (by omega) hF3 (zAsks_go hA2 (zFr_u (zFr_u (zFr_rf _ _) (by decide) _) (by decide) _)) (hO3 _ rfl (hF2 39 (by decide)) (fun i p hi hp => by show M2 38 _ = _; rw [hF2 38 (by decide)])) b1 b2 (fun p hp => ?_)
        obtain ⟨l1, l2⟩ := hL p hp
        refine ⟨by show M2 39 _ = _; rw [hF2 39 (by decide)]; exact l1, ?_⟩
        show M2 38 _ = _
        rw [hF2 38 (by decide), l2, zLk, if_neg (fun z => hneg z.1)]
      refine ⟨fun c => same (fun z => z.1 ?_), fun c => ⟨hm5, fun c2 => same (fun z => ab_b_0.mp c2 ?_), fun c2 => ?_⟩⟩
      · rw [c]
        show M2 6 7 = M0 6 7
        rw [hFt 6 (by decide)]
      · rw [nI_clamp (show m < 2 ^ 31 by omega)]
        show zAwk (M2 25 m) (M2 29 m) (nI h)
        rw [hFt 25 (by decide), hFt 29 (by decide)]
        exact z.2
      · have c3 : zAwk (M0 25 m) (M0 29 m) (nI h) := by
          have := Decidable.not_not.mp (fun q => c2 (ab_b_0.mpr q))
          rw [nI_clamp (show m < 2 ^ 31 by omega)] at this
          have t2 : zAwk (M2 25 m) (M2 29 m) (nI h) := this
          rw [hFt 25 (by decide), hFt 29 (by decide)] at t2
          exact t2
        have c4 : ¬ nI m = M0 6 7 := by
          have t2 : ¬ nI m = M2 6 7 := c
          rw [hFt 6 (by decide)] at t2
          exact t2
        rw [eq, zN_mul h 8 8, nI_add]
        have hv : vp_in (nI (h * 8 + q)) 96 := nI_in_ (by omega)
        refine ⟨hv, hv, ?_⟩
        intro z2
        have ez2 : z2 = upd (M2 38) (h * 8 + q) (M2 38 (h * 8 + q) ||| ((1 : Int32) <<< (nI m &&& 31))) := by
          show upd (M2 38) (nI (h * 8 + q)).toNatClampNeg (M2 38 (nI (h * 8 + q)).toNatClampNeg ||| _) = _
          rw [nI_clamp (show h * 8 + q < 2 ^ 31 by omega)]
        clear_value z2
        subst ez2
        rw [← eq]
        obtain ⟨b1, b2⟩ := hB3 (ab_u (ab_u (ab_u M2 37 (upd (M2 37) (h * 5 + m) ((zWk M0 h).1 m))) 40 (upd (M2 40) m ((zWk M0 h).2.1 m))) 38 (upd (M2 38) (h * 8 + q) (M2 38 (h * 8 + q) ||| ((1 : Int32) <<< (nI m &&& 31))))) rfl (by rw [ab_u_ne _ _ (by decide), ab_u_eq])
        refine ih (m + 1) _ (by omega) (zFr_u hF3 (by decide) _) (zAsks_go hA2 (zFr_u (zFr_u (zFr_u (zFr_rf _ _) (by decide) _) (by decide) _) (by decide) _)) (hO3 _ rfl (hF2 39 (by decide)) (fun i p hi hp => ?_)) b1 b2 (fun p hp => ?_)
        · rw [ab_u_eq, upd_ne _ _ (by omega), hF2 38 (by decide)]
        · obtain ⟨l1, l2⟩ := hL p hp
          refine ⟨by show M2 39 _ = _; rw [hF2 39 (by decide)]; exact l1, ?_⟩
          rw [ab_u_eq, zLk]
          by_cases e : p = q
          · subst e
            rw [upd_eq, if_pos ⟨⟨c4, c3⟩, eq⟩, hF2 38 (by decide), l2]
          · rw [upd_ne _ _ (by omega), if_neg (fun z => e ?_), hF2 38 (by decide), l2]
            have := z.2
            rw [eq] at this
            exact ((nI_eq (by omega) (by omega)).mp this).symm
    have f26 : M2 26 m = M0 26 m := by rw [hFt 26 (by decide)]
    have f27 : M2 27 m = M0 27 m := by rw [hFt 27 (by decide)]
    refine zv_X10_go_108 _ _ _ ?_
    rw [ei]
    refine ⟨nI_in_ (by omega), ?_⟩
    rw [nI_clamp (show h * 5 + m < 2 ^ 31 by omega), nI_clamp (show m < 2 ^ 31 by omega), f26, f27]
    have hb40 : 0 < h → M2 40 m = (zPrev M0 h).2.1 m := fun hp => by rw [hF2 40 (by decide)]; exact hB2 m (Nat.le_refl _) (by omega) hp
    refine ⟨hm5, fun c => fin _ ?_, fun c => ⟨hm5, fun c2 => fin _ ?_, fun c2 => ⟨fun c3 => fin _ ?_, fun c3 => ⟨hm5, fun c4 => fin _ ?_, fun c4 => fin _ ?_⟩⟩⟩⟩
    · unfold zBack ab_b
      rw [if_neg (fun z => z.1 c)]
    · unfold zBack ab_b
      rw [if_pos ⟨c, Or.inl c2⟩]
    · have e : h = 0 := by
        rcases Nat.eq_zero_or_pos h with z | z
        · exact z
        · exact absurd c3 (nI_nle z (by omega))
      unfold zBack ab_b
      rw [if_neg (fun z => z.2.elim c2 (fun w => by omega))]
    · have hp : 0 < h := by
        rcases Nat.eq_zero_or_pos h with z | z
        · exact absurd (by rw [z]; decide) c3
        · exact z
      have c5 : M2 40 m = 0 := c4
      rw [hb40 hp] at c5
      unfold zBack ab_b
      rw [if_neg (fun z => z.2.elim c2 (fun w => w.2 c5))]
    · have hp : 0 < h := by
        rcases Nat.eq_zero_or_pos h with z | z
        · exact absurd (by rw [z]; decide) c3
        · exact z
      have c5 : ¬ M2 40 m = 0 := c4
      rw [hb40 hp] at c5
      unfold zBack ab_b
      rw [if_pos ⟨c, Or.inr ⟨hp, c5⟩⟩]
/-- the pieces of an hour, from p on -/
theorem zL_go_p (hN : zNight M0) (h : Nat) (hh : h < zHrs M0) (kk : ∀ M, zFr zGo M0 M → zAsks M → zOut M0 (h + 1) M → (∀ m, m < zMen M0 → M 40 m = (zWk M0 h).2.1 m) → zr_X10_go Q 2 [some (.ref 6), some (.int (nI (h + 1))), none, none] [] M N) :
    ∀ (n p : Nat) (M : ab_M), p + n = zPcs M0 → zFr zGo M0 M → zAsks M → zOut M0 h M → (∀ i, i < zMen M0 → 0 < h → M 40 i = (zPrev M0 h).2.1 i) → (∀ i, i < p → M 39 (h * 8 + i) = nI (zSc M0 h i) ∧ M 38 (h * 8 + i) = zLk M0 h (zWk M0 h).1 0 i) → zr_X10_go Q 17 [some (.ref 6), some (.int (nI h)), some (.int (nI p)), none] [] M N := by
  obtain ⟨hA0, h0, h1⟩ := id hN
  obtain ⟨hP, hP8⟩ := zP_eq h0
  obtain ⟨hHe, hH12⟩ := zH_eq h0
  intro n
  induction n with
  | zero =>
    intro p M hp hF hA hO hB hL
    have ep : p = zPcs M0 := by omega
    refine zv_X10_go_17 _ _ ⟨fun _ => ?_, fun c => absurd ?_ c⟩
    · exact zL_go_m hN h hh kk (zMen M0) 0 M (by omega) hF hA hO (fun i hi => by omega) (fun i _ hi hp => hB i hi hp) (fun q hq => hL q (by omega))
    · rw [hF 1 (by decide), hP]
      exact nI_le (by omega) (by omega)
  | succ n ih =>
    intro p M hp hF hA hO hB hL
    have hp8 : vp_in (nI p) 8 := nI_in_ (by omega)
    have ei : nI h * 8 + nI p = nI (h * 8 + p) := by rw [zN_mul h 8 8, nI_add]
    have hi96 : vp_in (nI (h * 8 + p)) 96 := nI_in_ (by omega)
    have fin : ∀ s : Nat, s = zSc M0 h p → zr_X10_go Q 70 [some (.ref 6), some (.int (nI h)), some (.int (nI p)), some (.int (nI (h * 8 + p)))] [.int (nI s), .int (nI (h * 8 + p)), .ref 39] M N := by
      intro s hs
      subst hs
      refine zv_X10_go_70 _ _ _ _ _ ⟨hi96, ?_⟩
      intro z1
      refine ⟨hp8, hi96, ?_⟩
      intro z2
      have e1 : z1 = upd (M 39) (h * 8 + p) (nI (zSc M0 h p)) := by
        show upd (M 39) _ _ = _
        rw [nI_clamp (show h * 8 + p < 2 ^ 31 by omega)]
      have e2 : z2 = upd (M 38) (h * 8 + p) (zLk M0 h (zWk M0 h).1 0 p) := by
        show upd (M 38) (nI (h * 8 + p)).toNatClampNeg (zOth (M 1 7) (M 17 3) (M 17 4) (M 16 (nI p).toNatClampNeg) (M 6 11) (M 6 12) (nI p) (nI h)) = _
        rw [nI_clamp (show h * 8 + p < 2 ^ 31 by omega), nI_clamp (show p < 2 ^ 31 by omega), hF 1 (by decide), hF 17 (by decide), hF 16 (by decide), hF 6 (by decide)]
        rfl
      clear_value z1 z2
      subst e1
      subst e2
      rw [nI_1]
      refine ih (p + 1) _ (by omega) (zFr_u (zFr_u hF (by decide) _) (by decide) _) (zAsks_go hA (zFr_u (zFr_u (zFr_rf _ _) (by decide) _) (by decide) _)) ?_ hB ?_
      · intro i hi
        refine ⟨(hO i hi).1, fun q hq => ?_⟩
        obtain ⟨l1, l2⟩ := (hO i hi).2 q hq
        refine ⟨?_, ?_⟩
        · show upd (M 39) _ _ _ = _
          rw [upd_ne _ _ (by omega)]; exact l1
        · show upd (M 38) _ _ _ = _
          rw [upd_ne _ _ (by omega)]; exact l2
      · intro i hi
        show upd (M 39) _ _ _ = _ ∧ upd (M 38) _ _ _ = _
        by_cases e : i = p
        · subst e
          rw [upd_eq, upd_eq]
          exact ⟨rfl, rfl⟩
        · rw [upd_ne _ _ (by omega), upd_ne _ _ (by omega)]
          exact hL i (by omega)
    refine zv_X10_go_17 _ _ ⟨fun c => absurd c ?_, fun _ => ?_⟩
    · rw [hF 1 (by decide), hP]
      exact nI_ge (by omega) (by omega)
    rw [ei]
    match h, hh, hO, hB, fin, ei, hi96 with
    | 0, _, _, _, fin, _, _ => exact ⟨fun _ => fin 1 rfl, fun c => absurd rfl c⟩
    | h + 1, hh, hO, hB, fin, _, hi96 =>
      refine ⟨fun c => absurd c (nI_ne0 (by omega) (by omega)), fun _ => ?_⟩
      have ej : (nI (h + 1) - 1) * 8 + nI p = nI (h * 8 + p) := by rw [nI_pred, zN_mul h 8 8, nI_add]
      have ek : nI ((h + 1) * 8 + p) - 8 = nI (h * 8 + p) := by
        rw [show (8 : Int32) = nI 8 from rfl, pk_sub (by omega), show (h + 1) * 8 + p - 8 = h * 8 + p by omega]
      rw [ej, ek, nI_clamp (show h * 8 + p < 2 ^ 31 by omega)]
      obtain ⟨l1, l2⟩ := (hO h (by omega)).2 p (by omega)
      refine ⟨nI_in_ (by omega), fun c => ⟨nI_in_ (by omega), ?_⟩, fun c => ?_⟩
      · have c2 : M 38 (h * 8 + p) = 0 := Decidable.not_not.mp (ab_b_0.mp c)
        rw [l1, nI_1]
        refine fin _ ?_
        have e : (zPrev M0 (h + 1)).2.2.2 p = 0 := by show (zWk M0 h).2.2.2 p = 0; rw [← l2]; exact c2
        have e2 : (zPrev M0 (h + 1)).2.2.1 p = zSc M0 h p := by show (zWk M0 h).2.2.1 p = _; rw [zWk_sc]
        have e3 : zSc M0 (h + 1) p = (zPrev M0 (h + 1)).2.2.1 p + 1 := if_neg (fun z => z.elim (fun w => by omega) (fun w => w e))
        rw [e3, e2]
      · have c2 : ¬ M 38 (h * 8 + p) = 0 := Decidable.not_not.mp (fun q => c (ab_b_0.mpr q))
        refine fin 1 ?_
        have e : ¬ (zPrev M0 (h + 1)).2.2.2 p = 0 := by show ¬ (zWk M0 h).2.2.2 p = 0; rw [← l2]; exact c2
        rw [zSc, if_pos (Or.inr e)]
theorem zL_go_h (hN : zNight M0) (hq : ∀ M, zFr zGo M0 M → zAsks M → zOut M0 (zHrs M0) M → Q none M N) : ∀ (n h : Nat) (M : ab_M), h + n = zHrs M0 → zFr zGo M0 M → zAsks M → zOut M0 h M → (∀ i, i < zMen M0 → 0 < h → M 40 i = (zPrev M0 h).2.1 i) → zr_X10_go Q 2 [some (.ref 6), some (.int (nI h)), none, none] [] M N := by
  obtain ⟨hA0, h0, h1⟩ := id hN
  obtain ⟨hHe, hH12⟩ := zH_eq h0
  intro n
  induction n with
  | zero =>
    intro h M hh hF hA hO hB
    have eh : h = zHrs M0 := by omega
    refine zv_X10_go_2 _ ⟨ab_vpk (by decide), fun _ => ?_, fun c => absurd ?_ c⟩
    · rw [eh] at hO
      exact hq M hF hA hO
    · rw [hF 17 (by decide), hHe]
      exact nI_le (by omega) (by omega)
  | succ n ih =>
    intro h M hh hF hA hO hB
    refine zv_X10_go_2 _ ⟨ab_vpk (by decide), fun c => absurd c ?_, fun _ => ?_⟩
    · rw [hF 17 (by decide), hHe]
      exact nI_ge (by omega) (by omega)
    · exact zL_go_p hN h (by omega) (fun M2 hF2 hA2 hO2 hB2 => ih (h + 1) M2 (by omega) hF2 hA2 hO2 (fun i hi _ => hB2 i hi)) (zPcs M0) 0 M (by omega) hF hA hO hB (fun i hi => by omega)
end ZGo
theorem zE_X10_go (as : List Value) (M : ab_M) (N : ab_N) (k : ab_R) (hT : zt_X10_go as M N k) : ab_cs as ≤ 4 ∧ zr_X10_go k 0 (ab_en as) [] M N := by
  obtain ⟨rfl, hN, hk⟩ := ab_m0_e hT
  refine ⟨Nat.le_of_ble_eq_true rfl, zv_X10_go_0 ?_⟩
  refine zL_go_h hN (fun M2 hF hA hO => hk none M2 N ⟨rfl, rfl, hF, hA, fun h hh => ⟨(hO h hh).1, fun p hp => ?_⟩⟩) (zHrs M) 0 M (by omega) (zFr_rf _ _) hN.1 (fun i hi => by omega) (fun i _ hi => by omega)
  obtain ⟨l1, l2⟩ := (hO h hh).2 p hp
  exact ⟨by rw [l1, zWk_sc], l2⟩
abbrev zR_X10_go : Room := { frames := 5, cells := 0, slots := 0, locals := 132 }
set_option maxRecDepth 20000 in
theorem zM_X10_go (l : Launch) : ab_Met l zw_C vwCl zZ_C yX10_go cX10_go 4 none zR_X10_go zt_X10_go := ab_ofRun (G := zg_X10_go) (P := zp_X10_go) rfl zo_X10_go (by decide +kernel) zl_cl zl_lamC zf_X10_ok zs_tabOK ab_Cst_nil ab_Sta_nil (List.forall_mem_cons.mpr ⟨ab_callV zZ_C_ok (zM_X10_lookedAt l) (ab_in 662 (by decide +kernel) rfl) (ab_in 659 (by decide +kernel) rfl) (ab_in 660 (by decide +kernel) rfl) (ab_in 661 (by decide +kernel) rfl) (ab_in 7 (by decide +kernel) rfl) (by unfold ab_yok; decide +kernel) ⟨rfl, rfl⟩ (by decide) zV_X10_lookedAt, List.forall_mem_cons.mpr ⟨ab_callV zZ_C_ok (zM_X10_othersAt l) (ab_in 666 (by decide +kernel) rfl) (ab_in 663 (by decide +kernel) rfl) (ab_in 665 (by decide +kernel) rfl) (ab_inS (List.mem_of_getElem? (i := 13) (by decide +kernel)) rfl) (ab_in 7 (by decide +kernel) rfl) (by unfold ab_yok; decide +kernel) ⟨rfl, rfl⟩ (by decide) zV_X10_othersAt, List.forall_mem_cons.mpr ⟨ab_callV zZ_C_ok (zM_X10_comes l) (ab_in 674 (by decide +kernel) rfl) (ab_in 671 (by decide +kernel) rfl) (ab_in 673 (by decide +kernel) rfl) (ab_inS (List.mem_of_getElem? (i := 14) (by decide +kernel)) rfl) (ab_in 7 (by decide +kernel) rfl) (by unfold ab_yok; decide +kernel) ⟨rfl, rfl⟩ (by decide) zV_X10_comes, List.forall_mem_cons.mpr ⟨ab_callV zZ_C_ok (zM_X5_awake l) (ab_in 688 (by decide +kernel) rfl) (ab_in 685 (by decide +kernel) rfl) (ab_in 686 (by decide +kernel) rfl) (ab_in 687 (by decide +kernel) rfl) (ab_in 3 (by decide +kernel) rfl) (by unfold ab_yok; decide +kernel) ⟨rfl, rfl⟩ (by decide) zV_X5_awake, List.forall_mem_nil _⟩⟩⟩⟩) (List.forall_mem_nil _) zE_X10_go
end
section
/-! a night of one piece in parts, as it is told *)
-/
abbrev zRs : Type := (Nat → Int64) × Int64 × Int64
def zLook1 (d : ab_M) (p h pc st : Nat) (s : zRs) : zRs :=
  let seen : Int64 := s.1 st * lN (zAsk d 1 p h st pc) / 100
  (vp_updL (vp_updL s.1 st (s.1 st - seen)) 0 (vp_updL s.1 st (s.1 st - seen) 0 + seen), s.2.1 + seen * lN (zAsk d 2 p h st 0), s.2.2 + seen)
/-- n steps of a look, from 1 on -/
def zLook (d : ab_M) (p h pc : Nat) : Nat → zRs → zRs
  | 0, s => s
  | n + 1, s => zLook1 d p h pc (n + 1) (zLook d p h pc n s)
def zShift (f : Nat → Int64) (b : Nat) : Nat → Int64 := fun j => if 2 ≤ j ∧ j < b then f (j - 1) else f j
def zGrow (d : ab_M) (p h sc : Nat) (s : zRs) : zRs :=
  let b := zBrk d
  let f1 : Nat → Int64 := zShift (vp_updL s.1 b (s.1 b + s.1 (b - 1))) b
  let x : Int64 := f1 0 * lN (zAsk d 0 p h sc 0) / 1000
  (vp_updL (vp_updL f1 1 x) 0 (vp_updL f1 1 x 0 - x), s.2.1 + s.1 (b - 1) * lN (zAsk d 2 p h b 0), s.2.2)
abbrev zBit (x : Int32) (w : Nat) : Prop := ¬ (x >>> (nI w &&& 31)) &&& 1 = 0
def zPace (d : ab_M) (w : Nat) : Nat := if w < zMen d then (d 28 w).toNatClampNeg else if w = 7 then 1 else 0
def zLooks (d : ab_M) (p h : Nat) (lk : Int32) : Nat → zRs → zRs
  | 0, s => s
  | w + 1, s => if zBit lk w then zLook d p h (zPace d w) (zBrk d - 1) (zLooks d p h lk w s) else zLooks d p h lk w s
def zRk (d : ab_M) (p : Nat) : Nat → zRs
  | 0 => (fun j => if j = 0 then 1000000000 else 0, 0, 0)
  | h + 1 => zLooks d p h ((zWk d h).2.2.2 p) 8 (zGrow d p h (zSc d h p) (zRk d p h))
def zTold (d : ab_M) (s : zRs) (what : Nat) : Int64 := if what = 0 then s.2.1 else if what = 1 then s.1 (zBrk d) else s.2.2
/-- all harm of the first n pieces -/
def zSum (d : ab_M) (what : Nat) : Nat → Int64
  | 0 => 0
  | p + 1 => zSum d what p + zTold d (zRk d p (zHrs d)) what
def zAll (d : ab_M) : Int64 := zSum d 0 (zPcs d)
def zWalked (M : ab_M) : Prop := ∀ h, h < zHrs M → (∀ m, m < zMen M → M 37 (h * 5 + m) = (zWk M h).1 m) ∧ ∀ p, p < zPcs M → M 39 (h * 8 + p) = nI (zSc M h p) ∧ M 38 (h * 8 + p) = (zWk M h).2.2.2 p
def zNfr (L : List Nat) (N N2 : ab_N) : Prop := ∀ c, c ∉ L → N2 c = N c
/-- the reckoning holds a state -/
def zHas (N : ab_N) (s : zRs) : Prop := (∀ j, j < 7 → N 41 j = s.1 j) ∧ N 7 4 = s.2.1 ∧ N 7 5 = s.2.2
def zt_X6_look : ab_T := ab_m3 7 (fun p h pc M N => zNight M ∧ ∃ q g c : Nat, q < zPcs M ∧ g < 12 ∧ c ≤ 3 ∧ p = nI q ∧ h = nI g ∧ pc = nI c)
  (fun p h pc M N o M2 N2 => o = none ∧ zFr [33, 35, 36] M M2 ∧ zAsks M2 ∧ zNfr [7, 41] N N2 ∧ ∀ s, zHas N s → zHas N2 (zLook M p.toNatClampNeg h.toNatClampNeg pc.toNatClampNeg (zBrk M - 1) s))
theorem zt_X6_look_mono : ab_mono zt_X6_look := ab_m3_mono _ _ _
theorem zV_X6_look : ab_recv zw_C vwCl RX6 zt_X6_look := ab_m3_v rfl rfl
def zt_X6_grow : ab_T := ab_m2 7 (fun p h M N => zNight M ∧ ∃ q g s : Nat, q < zPcs M ∧ g < 12 ∧ p = nI q ∧ h = nI g ∧ s ≤ 12 ∧ M 39 (g * 8 + q) = nI s)
  (fun p h M N o M2 N2 => o = none ∧ zFr [33, 35, 36] M M2 ∧ zAsks M2 ∧ zNfr [7, 41] N N2 ∧ ∀ s, zHas N s → zHas N2 (zGrow M p.toNatClampNeg h.toNatClampNeg (M 39 (h.toNatClampNeg * 8 + p.toNatClampNeg)).toNatClampNeg s))
theorem zt_X6_grow_mono : ab_mono zt_X6_grow := ab_m2_mono _ _ _
theorem zV_X6_grow : ab_recv zw_C vwCl RX6 zt_X6_grow := ab_m2_v rfl rfl
def zt_X6_reckon : ab_T := ab_m2 7 (fun p h M N => zNight M ∧ zWalked M ∧ ∃ q g : Nat, q < zPcs M ∧ g ≤ zHrs M ∧ p = nI q ∧ h = nI g)
  (fun p h M N o M2 N2 => o = none ∧ zFr [33, 35, 36] M M2 ∧ zAsks M2 ∧ zNfr [7, 41] N N2 ∧ zHas N2 (zRk M p.toNatClampNeg h.toNatClampNeg))
theorem zt_X6_reckon_mono : ab_mono zt_X6_reckon := ab_m2_mono _ _ _
theorem zV_X6_reckon : ab_recv zw_C vwCl RX6 zt_X6_reckon := ab_m2_v rfl rfl
/-- Arrays.fill of the two rows that are filled -/
def zt_J7_fill_d0a16 : ab_T := fun as M N k => match as with
  | [.ref a, .long x] => a = 41 ∧ ∀ f : Nat → Int64, (∀ j, j < 7 → f j = x) → k none M (ab_u N 41 f)
  | _ => False
theorem zt_J7_fill_d0a16_mono : ab_mono zt_J7_fill_d0a16 := fun as M N k k2 hk h => by
  unfold zt_J7_fill_d0a16 at h ⊢
  split at h
  · exact ⟨h.1, fun f hf => hk _ _ _ (h.2 f hf)⟩
  · exact h
def zt_J7_fill_53178 : ab_T := fun as M N k => match as with
  | [.ref a, .int x] => a = 42 ∧ ∀ f : Nat → Int32, (∀ j, j < 8 → f j = x) → k none (ab_u M 42 f) N
  | _ => False
theorem zt_J7_fill_53178_mono : ab_mono zt_J7_fill_53178 := fun as M N k k2 hk h => by
  unfold zt_J7_fill_53178 at h ⊢
  split at h
  · exact ⟨h.1, fun f hf => hk _ _ _ (h.2 f hf)⟩
  · exact h
end
section
/-! Arrays.fill, Reckoning *)
-/
def zf_J7 : List (Nat × Nat × Nat) := []
theorem zf_J7_ok : ab_Fld RJ7 vwCl zf_J7 := fun _ _ _ h => by cases h
def zp_J7_fill_d0a16 : ab_P := [(0, .iconst 0, 1, [], [0]),
  (1, .istore_n 3, 2, [3], []),
  (2, .aload_n 0, 3, [0], []),
  (3, .arraylength, 4, [], []),
  (4, .istore 4, 6, [], []),
  (6, .iload_n 3, 7, [3], []),
  (7, .iload 4, 9, [], []),
  (9, .if_icmp .ge 13, 12, [22], []),
  (12, .aload_n 0, 13, [0], []),
  (13, .iload_n 3, 14, [3], []),
  (14, .lload_n 1, 15, [1], []),
  (15, .lastore, 16, [], []),
  (16, .iinc 3 1, 19, [], [1]),
  (19, .goto (-13), 22, [6], []),
  (22, .return_, 23, [], [])]
theorem zo_J7_fill_d0a16 : ab_ok cJ7_fill_d0a16 zp_J7_fill_d0a16 = true := by decide +kernel
def zg_J7_fill_d0a16 : ab_G := (zw_C, zs_tab, zf_J7, [], [], [], [])
theorem zm_J7_fill_d0a16 : ab_MG zg_J7_fill_d0a16 := ab_MGof (List.forall_mem_nil _) (List.forall_mem_nil _)
abbrev zr_J7_fill_d0a16 (Q : ab_R) : ab_K := ab_Run zg_J7_fill_d0a16 zp_J7_fill_d0a16 none 5 Q
set_option maxRecDepth 20000 in
theorem zv_J7_fill_d0a16_0 {Q : ab_R} {M : ab_M} {N : ab_N} (l1 : Int64) (h : zr_J7_fill_d0a16 Q 6 [some (.ref 41), some (.long l1), none, some (.int (0 : Int32)), some (.int (Int32.ofNat 7))] [] M N) : zr_J7_fill_d0a16 Q 0 [some (.ref 41), some (.long l1), none] [] M N := ab_Run_s zm_J7_fill_d0a16 (sp := [(6, [true, true, false, true, true])]) 17 h
set_option maxRecDepth 20000 in
theorem zv_J7_fill_d0a16_6 {Q : ab_R} {M : ab_M} {N : ab_N} (l1 : Int64) (l3 : Int32) (l4 : Int32) (h : (l4 ≤ l3 → Q none M N) ∧ (¬ (l4 ≤ l3) → vp_in l3 7 ∧ (let y1 : Nat → Int64 := vp_updL (N 41) l3.toNatClampNeg l1; zr_J7_fill_d0a16 Q 6 [some (.ref 41), some (.long l1), none, some (.int (l3 + (1 : Int32))), some (.int l4)] [] M (ab_u N 41 y1)))) : zr_J7_fill_d0a16 Q 6 [some (.ref 41), some (.long l1), none, some (.int l3), some (.int l4)] [] M N := ab_Run_s zm_J7_fill_d0a16 (sp := [(6, [true, true, false, true, true])]) 17 h
theorem ab_u_u {α : Type} (M : Nat → Nat → α) (k : Nat) (f g : Nat → α) : ab_u (ab_u M k f) k g = ab_u M k g := by
  funext c
  by_cases e : c = k
  · rw [e, ab_u_eq, ab_u_eq]
  · rw [ab_u_ne _ _ e, ab_u_ne _ _ e, ab_u_ne _ _ e]
theorem ab_u_self {α : Type} (M : Nat → Nat → α) (k : Nat) : ab_u M k (M k) = M := by
  funext c
  by_cases e : c = k
  · rw [e, ab_u_eq]
  · rw [ab_u_ne _ _ e]
theorem zL_J7_fill_l {Q : ab_R} {M : ab_M} {N : ab_N} (x : Int64) (hq : ∀ f : Nat → Int64, (∀ j, j < 7 → f j = x) → Q none M (ab_u N 41 f)) : ∀ (n i : Nat) (g : Nat → Int64), i + n = 7 → (∀ j, j < i → g j = x) → zr_J7_fill_d0a16 Q 6 [some (.ref 41), some (.long x), none, some (.int (nI i)), some (.int (Int32.ofNat 7))] [] M (ab_u N 41 g) := by
  intro n
  induction n with
  | zero =>
    intro i g hi hg
    refine zv_J7_fill_d0a16_6 _ _ _ ⟨fun _ => hq g (fun j hj => hg j (by omega)), fun c => absurd (show nI 7 ≤ nI i from nI_le (by omega) (by omega)) c⟩
  | succ n ih =>
    intro i g hi hg
    refine zv_J7_fill_d0a16_6 _ _ _ ⟨fun c => absurd c (show ¬ nI 7 ≤ nI i from nI_ge (by omega) (by omega)), fun _ => ⟨nI_in_ (by omega), ?_⟩⟩
    intro y1
    have e : y1 = vp_updL g i x := by
      show vp_updL (ab_u N 41 g 41) (nI i).toNatClampNeg x = _
      rw [nI_clamp (show i < 2 ^ 31 by omega), ab_u_eq]
    clear_value y1
    subst e
    rw [ab_u_u, nI_1]
    refine ih (i + 1) _ (by omega) (fun j hj => ?_)
    by_cases e : j = i
    · rw [e, updL_eq]
    · rw [updL_ne _ _ e]; exact hg j (by omega)
theorem zE_J7_fill_d0a16 (as : List Value) (M : ab_M) (N : ab_N) (k : ab_R) (hT : zt_J7_fill_d0a16 as M N k) : ab_cs as ≤ 5 ∧ zr_J7_fill_d0a16 k 0 (ab_en as) [] M N := by
  unfold zt_J7_fill_d0a16 at hT
  split at hT
  case h_2 => exact hT.elim
  rename_i a x
  obtain ⟨rfl, hk⟩ := hT
  refine ⟨Nat.le_of_ble_eq_true rfl, zv_J7_fill_d0a16_0 _ ?_⟩
  have := zL_J7_fill_l (N := N) x hk 7 0 (N 41) rfl (fun j hj => by omega)
  rw [ab_u_self] at this
  exact this
abbrev zR_J7_fill_d0a16 : Room := { frames := 0, cells := 0, slots := 0, locals := 0 }
set_option maxRecDepth 20000 in
theorem zM_J7_fill_d0a16 (l : Launch) : ab_Met l zw_C vwCl zZ_C yJ7_fill_d0a16 cJ7_fill_d0a16 5 none zR_J7_fill_d0a16 zt_J7_fill_d0a16 := ab_ofRun (G := zg_J7_fill_d0a16) (P := zp_J7_fill_d0a16) rfl zo_J7_fill_d0a16 (by decide +kernel) zl_cl zl_lamC zf_J7_ok zs_tabOK ab_Cst_nil ab_Sta_nil (List.forall_mem_nil _) (List.forall_mem_nil _) zE_J7_fill_d0a16
def zp_J7_fill_53178 : ab_P := [(0, .iconst 0, 1, [], [0]),
  (1, .istore_n 2, 2, [2], []),
  (2, .aload_n 0, 3, [0], []),
  (3, .arraylength, 4, [], []),
  (4, .istore_n 3, 5, [3], []),
  (5, .iload_n 2, 6, [2], []),
  (6, .iload_n 3, 7, [3], []),
  (7, .if_icmp .ge 13, 10, [20], []),
  (10, .aload_n 0, 11, [0], []),
  (11, .iload_n 2, 12, [2], []),
  (12, .iload_n 1, 13, [1], []),
  (13, .iastore, 14, [], []),
  (14, .iinc 2 1, 17, [], [1]),
  (17, .goto (-12), 20, [5], []),
  (20, .return_, 21, [], [])]
theorem zo_J7_fill_53178 : ab_ok cJ7_fill_53178 zp_J7_fill_53178 = true := by decide +kernel
def zg_J7_fill_53178 : ab_G := (zw_C, zs_tab, zf_J7, [], [], [], [])
theorem zm_J7_fill_53178 : ab_MG zg_J7_fill_53178 := ab_MGof (List.forall_mem_nil _) (List.forall_mem_nil _)
abbrev zr_J7_fill_53178 (Q : ab_R) : ab_K := ab_Run zg_J7_fill_53178 zp_J7_fill_53178 none 4 Q
set_option maxRecDepth 20000 in
theorem zv_J7_fill_53178_0 {Q : ab_R} {M : ab_M} {N : ab_N} (l1 : Int32) (h : zr_J7_fill_53178 Q 5 [some (.ref 42), some (.int l1), some (.int (0 : Int32)), some (.int (Int32.ofNat 8))] [] M N) : zr_J7_fill_53178 Q 0 [some (.ref 42), some (.int l1)] [] M N := ab_Run_s zm_J7_fill_53178 (sp := [(5, [true, true, true, true])]) 17 h
set_option maxRecDepth 20000 in
theorem zv_J7_fill_53178_5 {Q : ab_R} {M : ab_M} {N : ab_N} (l1 : Int32) (l2 : Int32) (l3 : Int32) (h : (l3 ≤ l2 → Q none M N) ∧ (¬ (l3 ≤ l2) → vp_in l2 8 ∧ (let z1 : Nat → Int32 := upd (M 42) l2.toNatClampNeg l1; zr_J7_fill_53178 Q 5 [some (.ref 42), some (.int l1), some (.int (l2 + (1 : Int32))), some (.int l3)] [] (ab_u M 42 z1) N))) : zr_J7_fill_53178 Q 5 [some (.ref 42), some (.int l1), some (.int l2), some (.int l3)] [] M N := ab_Run_s zm_J7_fill_53178 (sp := [(5, [true, true, true, true])]) 17 h
theorem zL_J7_fill_i {Q : ab_R} {M : ab_M} {N : ab_N} (x : Int32) (hq : ∀ f : Nat → Int32, (∀ j, j < 8 → f j = x) → Q none (ab_u M 42 f) N) : ∀ (n i : Nat) (g : Nat → Int32), i + n = 8 → (∀ j, j < i → g j = x) → zr_J7_fill_53178 Q 5 [some (.ref 42), some (.int x), some (.int (nI i)), some (.int (Int32.ofNat 8))] [] (ab_u M 42 g) N := by
  intro n
  induction n with
  | zero =>
    intro i g hi hg
    refine zv_J7_fill_53178_5 _ _ _ ⟨fun _ => hq g (fun j hj => hg j (by omega)), fun c => absurd (show nI 8 ≤ nI i from nI_le (by omega) (by omega)) c⟩
  | succ n ih =>
    intro i g hi hg
    refine zv_J7_fill_53178_5 _ _ _ ⟨fun c => absurd c (show ¬ nI 8 ≤ nI i from nI_ge (by omega) (by omega)), fun _ => ⟨nI_in_ (by omega), ?_⟩⟩
    intro y1
    have e : y1 = upd g i x := by
      show upd (ab_u M 42 g 42) (nI i).toNatClampNeg x = _
      rw [nI_clamp (show i < 2 ^ 31 by omega), ab_u_eq]
    clear_value y1
    subst e
    rw [ab_u_u, nI_1]
    refine ih (i + 1) _ (by omega) (fun j hj => ?_)
    by_cases e : j = i
    · rw [e, upd_eq]
    · rw [upd_ne _ _ e]; exact hg j (by omega)
theorem zE_J7_fill_53178 (as : List Value) (M : ab_M) (N : ab_N) (k : ab_R) (hT : zt_J7_fill_53178 as M N k) : ab_cs as ≤ 4 ∧ zr_J7_fill_53178 k 0 (ab_en as) [] M N := by
  unfold zt_J7_fill_53178 at hT
  split at hT
  case h_2 => exact hT.elim
  rename_i a x
  obtain ⟨rfl, hk⟩ := hT
  refine ⟨Nat.le_of_ble_eq_true rfl, zv_J7_fill_53178_0 _ ?_⟩
  have := zL_J7_fill_i (M := M) x hk 8 0 (M 42) rfl (fun j hj => by omega)
  rw [ab_u_self] at this
  exact this
abbrev zR_J7_fill_53178 : Room := { frames := 0, cells := 0, slots := 0, locals := 0 }
set_option maxRecDepth 20000 in
theorem zM_J7_fill_53178 (l : Launch) : ab_Met l zw_C vwCl zZ_C yJ7_fill_53178 cJ7_fill_53178 4 none zR_J7_fill_53178 zt_J7_fill_53178 := ab_ofRun (G := zg_J7_fill_53178) (P := zp_J7_fill_53178) rfl zo_J7_fill_53178 (by decide +kernel) zl_cl zl_lamC zf_J7_ok zs_tabOK ab_Cst_nil ab_Sta_nil (List.forall_mem_nil _) (List.forall_mem_nil _) zE_J7_fill_53178
theorem zNfr_rf (L : List Nat) (N : ab_N) : zNfr L N N := fun _ _ => rfl
theorem zNfr_u {L : List Nat} {N N2 : ab_N} (h : zNfr L N N2) {k : Nat} (hk : k ∈ L) (f : Nat → Int64) : zNfr L N (ab_u N2 k f) := fun c hc => by
  have hne : c ≠ k := fun e => hc (by rw [e]; exact hk)
  rw [ab_u_ne N2 f hne]
  exact h c hc
theorem zNfr_tr {L : List Nat} {N N2 N3 : ab_N} (h : zNfr L N N2) (h2 : zNfr L N2 N3) : zNfr L N N3 := fun c hc => (h2 c hc).trans (h c hc)
theorem zNight_fr {M M2 : ab_M} (hN : zNight M) (hA : zAsks M2) (hF : zFr [33, 35, 36] M M2) : zNight M2 := zNight_of hN hA (zFr_mono hF (by decide))
def zp_X6_look : ab_P := [(0, .iconst 1, 1, [], [1]),
  (1, .istore 4, 3, [], []),
  (3, .iload 4, 5, [], []),
  (5, .aload_n 0, 6, [0], []),
  (6, .getfield 15, 9, [], []),
  (9, .getfield 31, 12, [], []),
  (12, .iconst 1, 13, [], [1]),
  (13, .iaload, 14, [], []),
  (14, .if_icmp .ge 97, 17, [111], []),
  (17, .aload_n 0, 18, [0], []),
  (18, .getfield 9, 21, [], []),
  (21, .iload 4, 23, [], []),
  (23, .laload, 24, [], []),
  (24, .aload_n 0, 25, [0], []),
  (25, .getfield 23, 28, [], []),
  (28, .iconst 1, 29, [], [1]),
  (29, .iload_n 1, 30, [1], []),
  (30, .iload_n 2, 31, [2], []),
  (31, .iload 4, 33, [], []),
  (33, .iload_n 3, 34, [3], []),
  (34, .invokevirtual 70, 37, [], []),
  (37, .i2l, 38, [], []),
  (38, .lmul, 39, [], []),
  (39, .ldc2_w 82, 42, [], []),
  (42, .ldiv, 43, [], []),
  (43, .lstore 5, 45, [], []),
  (45, .aload_n 0, 46, [0], []),
  (46, .getfield 9, 49, [], []),
  (49, .iload 4, 51, [], []),
  (51, .dup2, 52, [], []),
  (52, .laload, 53, [], []),
  (53, .lload 5, 55, [], []),
  (55, .lsub, 56, [], []),
  (56, .lastore, 57, [], []),
  (57, .aload_n 0, 58, [0], []),
  (58, .getfield 9, 61, [], []),
  (61, .iconst 0, 62, [], [0]),
  (62, .dup2, 63, [], []),
  (63, .laload, 64, [], []),
  (64, .lload 5, 66, [], []),
  (66, .ladd, 67, [], []),
  (67, .lastore, 68, [], []),
  (68, .aload_n 0, 69, [0], []),
  (69, .dup, 70, [], []),
  (70, .getfield 37, 73, [], []),
  (73, .lload 5, 75, [], []),
  (75, .ladd, 76, [], []),
  (76, .putfield 37, 79, [], []),
  (79, .aload_n 0, 80, [0], []),
  (80, .dup, 81, [], []),
  (81, .getfield 27, 84, [], []),
  (84, .lload 5, 86, [], []),
  (86, .aload_n 0, 87, [0], []),
  (87, .getfield 23, 90, [], []),
  (90, .iconst 2, 91, [], [2]),
  (91, .iload_n 1, 92, [1], []),
  (92, .iload_n 2, 93, [2], []),
  (93, .iload 4, 95, [], []),
  (95, .iconst 0, 96, [], [0]),
  (96, .invokevirtual 70, 99, [], []),
  (99, .i2l, 100, [], []),
  (100, .lmul, 101, [], []),
  (101, .ladd, 102, [], []),
  (102, .putfield 27, 105, [], []),
  (105, .iinc 4 1, 108, [], [1]),
  (108, .goto (-105), 111, [3], []),
  (111, .return_, 112, [], [])]
theorem zo_X6_look : ab_ok cX6_look zp_X6_look = true := by decide +kernel
def zg_X6_look : ab_G := (zw_C, zs_tab, zf_X6, zc_X6, [], [(70, 6, zt_X1_ask)], [])
theorem zm_X6_look : ab_MG zg_X6_look := ab_MGof (List.forall_mem_cons.mpr ⟨zt_X1_ask_mono, List.forall_mem_nil _⟩) (List.forall_mem_nil _)
abbrev zr_X6_look (Q : ab_R) : ab_K := ab_Run zg_X6_look zp_X6_look none 7 Q
set_option maxRecDepth 20000 in
theorem zv_X6_look_0 {Q : ab_R} {M : ab_M} {N : ab_N} (l1 : Int32) (l2 : Int32) (l3 : Int32) (h : zr_X6_look Q 3 [some (.ref 7), some (.int l1), some (.int l2), some (.int l3), some (.int (1 : Int32)), none, none] [] M N) : zr_X6_look Q 0 [some (.ref 7), some (.int l1), some (.int l2), some (.int l3)] [] M N := ab_Run_s zm_X6_look (sp := [(3, [true, true, true, true, true, false, false]), (37, [true, true, true, true, true, false, false]), (99, [true, true, true, true, true, false, false])]) 69 h
set_option maxRecDepth 20000 in
theorem zv_X6_look_3 {Q : ab_R} {M : ab_M} {N : ab_N} (l1 : Int32) (l2 : Int32) (l3 : Int32) (l4 : Int32) (h : vp_in (1 : Int32) 5 ∧ (((M 17 1) ≤ l4 → Q none M N) ∧ (¬ ((M 17 1) ≤ l4) → vp_in l4 7 ∧ (zt_X1_ask [.ref 5, .int (1 : Int32), .int l1, .int l2, .int l4, .int l3] M N (fun r M2 N2 => zr_X6_look Q 37 [some (.ref 7), some (.int l1), some (.int l2), some (.int l3), some (.int l4), none, none] (ab_ol r [.long (N 41 l4.toNatClampNeg)]) M2 N2))))) : zr_X6_look Q 3 [some (.ref 7), some (.int l1), some (.int l2), some (.int l3), some (.int l4), none, none] [] M N := ab_Run_s zm_X6_look (sp := [(3, [true, true, true, true, true, false, false]), (37, [true, true, true, true, true, false, false]), (99, [true, true, true, true, true, false, false])]) 69 h
set_option maxRecDepth 20000 in
theorem zv_X6_look_37 {Q : ab_R} {M : ab_M} {N : ab_N} (l1 : Int32) (l2 : Int32) (l3 : Int32) (l4 : Int32) (s0 : Int64) (s1 : Int32) (h : ¬ (100 : Int64) = 0 ∧ (vp_in l4 7 ∧ (vp_in l4 7 ∧ (let y1 : Nat → Int64 := vp_updL (N 41) l4.toNatClampNeg ((N 41 l4.toNatClampNeg) - ((s0 * (s1.toInt64)) / (100 : Int64))); vp_in (0 : Int32) 7 ∧ (vp_in (0 : Int32) 7 ∧ (let y2 : Nat → Int64 := vp_updL (y1) 0 ((y1 0) + ((s0 * (s1.toInt64)) / (100 : Int64))); let y3 : Nat → Int64 := vp_updL (N 7) 5 ((N 7 5) + ((s0 * (s1.toInt64)) / (100 : Int64))); zt_X1_ask [.ref 5, .int (2 : Int32), .int l1, .int l2, .int l4, .int (0 : Int32)] M (ab_u (ab_u (ab_u N 41 y1) 41 y2) 7 y3) (fun r M2 N2 => zr_X6_look Q 99 [some (.ref 7), some (.int l1), some (.int l2), some (.int l3), some (.int l4), none, none] (ab_ol r [.long ((s0 * (s1.toInt64)) / (100 : Int64)), .long (y3 4), .ref 7]) M2 N2))))))) : zr_X6_look Q 37 [some (.ref 7), some (.int l1), some (.int l2), some (.int l3), some (.int l4), none, none] [.int s1, .long s0] M N := ab_Run_s zm_X6_look (sp := [(3, [true, true, true, true, true, false, false]), (37, [true, true, true, true, true, false, false]), (99, [true, true, true, true, true, false, false])]) 69 h
set_option maxRecDepth 20000 in
theorem zv_X6_look_99 {Q : ab_R} {M : ab_M} {N : ab_N} (l1 : Int32) (l2 : Int32) (l3 : Int32) (l4 : Int32) (s1 : Int64) (s2 : Int64) (s3 : Int32) (h : let y1 : Nat → Int64 := vp_updL (N 7) 4 (s1 + (s2 * (s3.toInt64))); zr_X6_look Q 3 [some (.ref 7), some (.int l1), some (.int l2), some (.int l3), some (.int (l4 + (1 : Int32))), none, none] [] M (ab_u N 7 y1)) : zr_X6_look Q 99 [some (.ref 7), some (.int l1), some (.int l2), some (.int l3), some (.int l4), none, none] [.int s3, .long s2, .long s1, .ref 7] M N := ab_Run_s zm_X6_look (sp := [(3, [true, true, true, true, true, false, false]), (37, [true, true, true, true, true, false, false]), (99, [true, true, true, true, true, false, false])]) 69 h
theorem zL_X6_look {Q : ab_R} (M0 : ab_M) (N0 : ab_N) (hN : zNight M0) (q g c : Nat) (hq : q < zPcs M0) (hg : g < 12) (hc : c ≤ 3) (kk : ∀ M N, zFr [33, 35, 36] M0 M → zAsks M → zNfr [7, 41] N0 N → (∀ s, zHas N0 s → zHas N (zLook M0 q g c (zBrk M0 - 1) s)) → Q none M N) :
    ∀ (n i : Nat) (M : ab_M) (N : ab_N), i + n = zBrk M0 - 1 → zFr [33, 35, 36] M0 M → zAsks M → zNfr [7, 41] N0 N → (∀ s, zHas N0 s → zHas N (zLook M0 q g c i s)) → zr_X6_look Q 3 [some (.ref 7), some (.int (nI q)), some (.int (nI g)), some (.int (nI c)), some (.int (nI (i + 1))), none, none] [] M N := by
  obtain ⟨hA0, h0, h1⟩ := id hN
  obtain ⟨hP, hP8⟩ := zP_eq h0
  obtain ⟨hB, hB6, hB2⟩ := zB_eq h0
  intro n
  induction n with
  | zero =>
    intro i M N hi hF hA hNf hS
    refine zv_X6_look_3 _ _ _ _ ⟨ab_vpk (by decide), fun _ => ?_, fun z => absurd ?_ z⟩
    · have ei : i = zBrk M0 - 1 := by omega
      rw [ei] at hS
      exact kk M N hF hA hNf hS
    · rw [hF 17 (by decide), hB]
      exact nI_le (by omega) (by omega)
  | succ n ih =>
    intro i M N hi hF hA hNf hS
    refine zv_X6_look_3 _ _ _ _ ⟨ab_vpk (by decide), fun z => absurd z ?_, fun _ => ⟨nI_in_ (by omega), ?_⟩⟩
    · rw [hF 17 (by decide), hB]
      exact nI_ge (by omega) (by omega)
    have hv : vp_in (nI (i + 1)) 7 := nI_in_ (by omega)
    have ci : (nI (i + 1)).toNatClampNeg = i + 1 := nI_clamp (by omega)
    refine ab_m5_i ⟨hA, 1, q, g, i + 1, c, zPcs M0, by omega, hq, hP8, hg, by omega, hc, rfl, rfl, rfl, rfl, rfl, by rw [hF 1 (by decide), hP]⟩ ?_
    rintro o M2 N2 ⟨rfl, hF2, hA2, rfl⟩
    have hFt : zFr [33, 35, 36] M0 M2 := zFr_tr hF hF2
    rw [zAsk_fr hF, show (1 : Int32).toNatClampNeg = 1 from rfl, nI_clamp (show q < 2 ^ 31 by omega), nI_clamp (show g < 2 ^ 31 by omega), ci, nI_clamp (show c < 2 ^ 31 by omega)]
    have hle := zAsk_le M0 (th := 1) (by omega) q g (i + 1) c
    refine zv_X6_look_37 _ _ _ _ _ _ ⟨by decide, hv, hv, ?_⟩
    rw [ci, nI_l (by omega)]
    intro y1
    refine ⟨ab_vpk (by decide), ab_vpk (by decide), ?_⟩
    intro y2 y3
    refine ab_m5_i ⟨hA2, 2, q, g, i + 1, 0, zPcs M0, by omega, hq, hP8, hg, by omega, by omega, rfl, rfl, rfl, rfl, rfl, by rw [hFt 1 (by decide), hP]⟩ ?_
    rintro o M3 N3 ⟨rfl, hF3, hA3, rfl⟩
    have hFu : zFr [33, 35, 36] M0 M3 := zFr_tr hFt hF3
    rw [zAsk_fr hFt, show (2 : Int32).toNatClampNeg = 2 from rfl, show (0 : Int32).toNatClampNeg = 0 from rfl, nI_clamp (show q < 2 ^ 31 by omega), nI_clamp (show g < 2 ^ 31 by omega), ci]
    have hle2 := zAsk_le M0 (th := 2) (by omega) q g (i + 1) 0
    refine zv_X6_look_99 _ _ _ _ _ _ _ ?_
    rw [nI_l (by omega)]
    intro y4
    rw [nI_1]
    refine ih (i + 1) M3 _ (by omega) hFu hA3 (zNfr_u (zNfr_u (zNfr_u (zNfr_u hNf (by decide) _) (by decide) _) (by decide) _) (by decide) _) ?_
    intro s hs
    obtain ⟨s1, s2, s3⟩ := hS s hs
    have es : N2 41 (i + 1) = (zLook M0 q g c i s).1 (i + 1) := s1 (i + 1) (by omega)
    refine ⟨fun j hj => ?_, ?_, ?_⟩
    · show y2 j = _
      show vp_updL (vp_updL (N2 41) (i + 1) (N2 41 (i + 1) - N2 41 (i + 1) * lN _ / 100)) 0 (vp_updL (N2 41) (i + 1) (N2 41 (i + 1) - N2 41 (i + 1) * lN _ / 100) 0 + N2 41 (i + 1) * lN _ / 100) j = _
      rw [es]
      show _ = vp_updL (vp_updL (zLook M0 q g c i s).1 (i + 1) _) 0 _ j
      unfold vp_updL
      by_cases e0 : j = 0
      · rw [if_pos e0, if_pos e0]
        rw [if_neg (by omega), if_neg (by omega), s1 0 (by omega)]
      · rw [if_neg e0, if_neg e0]
        by_cases e1 : j = i + 1
        · rw [if_pos e1, if_pos e1]
        · rw [if_neg e1, if_neg e1]; exact s1 j hj
    · show vp_updL (ab_u _ 7 y3 7) 4 (y3 4 + N2 41 (i + 1) * lN _ / 100 * lN _) 4 = _
      rw [updL_eq, es]
      show vp_updL (N2 7) 5 _ 4 + _ = (zLook M0 q g c i s).2.1 + _
      rw [updL_ne _ _ (by decide), s2]
    · show vp_updL (ab_u _ 7 y3 7) 4 _ 5 = _
      rw [updL_ne _ _ (by decide), ab_u_eq]
      show vp_updL (N2 7) 5 (N2 7 5 + N2 41 (i + 1) * lN _ / 100) 5 = _
      rw [updL_eq, es, s3]
      rfl
theorem zE_X6_look (as : List Value) (M : ab_M) (N : ab_N) (k : ab_R) (hT : zt_X6_look as M N k) : ab_cs as ≤ 7 ∧ zr_X6_look k 0 (ab_en as) [] M N := by
  obtain ⟨p, h, pc, rfl, ⟨hN, q, g, c, hq, hg, hc, rfl, rfl, rfl⟩, hk⟩ := ab_m3_e hT
  have hB := zB_eq hN.2.1
  have hP := zP_eq hN.2.1
  refine ⟨Nat.le_of_ble_eq_true rfl, zv_X6_look_0 _ _ _ ?_⟩
  rw [nI_clamp (show q < 2 ^ 31 by omega), nI_clamp (show g < 2 ^ 31 by omega), nI_clamp (show c < 2 ^ 31 by omega)] at hk
  exact zL_X6_look M N hN q g c hq hg hc (fun M2 N2 hF hA hNf hS => hk none M2 N2 ⟨rfl, hF, hA, hNf, hS⟩) (zBrk M - 1) 0 M N (by omega) (zFr_rf _ _) hN.1 (zNfr_rf _ _) (fun s hs => hs)
abbrev zR_X6_look : Room := { frames := 3, cells := 0, slots := 0, locals := 80 }
set_option maxRecDepth 20000 in
theorem zM_X6_look (l : Launch) : ab_Met l zw_C vwCl zZ_C yX6_look cX6_look 7 none zR_X6_look zt_X6_look := ab_ofRun (G := zg_X6_look) (P := zp_X6_look) rfl zo_X6_look (by decide +kernel) zl_cl zl_lamC zf_X6_ok zs_tabOK zc_X6_ok ab_Sta_nil (List.forall_mem_cons.mpr ⟨ab_callV zZ_C_ok (zM_X1_ask l) (ab_in 590 (by decide +kernel) rfl) (ab_in 746 (by decide +kernel) rfl) (ab_in 588 (by decide +kernel) rfl) (ab_in 589 (by decide +kernel) rfl) (ab_in 6 (by decide +kernel) rfl) (by unfold ab_yok; decide +kernel) ⟨rfl, rfl⟩ (by decide) zV_X1_ask, List.forall_mem_nil _⟩) (List.forall_mem_nil _) zE_X6_look
end
section
/-! Reckoning.grow, reckon, told *)
-/
theorem updL_self_ne {f : Nat → Int64} {k j : Nat} {x : Int64} (h : j ≠ k) : vp_updL f k x j = f j := updL_ne f x h
def zp_X6_grow : ab_P := [(0, .aload_n 0, 1, [0], []),
  (1, .getfield 15, 4, [], []),
  (4, .getfield 31, 7, [], []),
  (7, .iconst 1, 8, [], [1]),
  (8, .iaload, 9, [], []),
  (9, .istore_n 3, 10, [3], []),
  (10, .aload_n 0, 11, [0], []),
  (11, .getfield 9, 14, [], []),
  (14, .iload_n 3, 15, [3], []),
  (15, .iconst 1, 16, [], [1]),
  (16, .isub, 17, [], []),
  (17, .laload, 18, [], []),
  (18, .lstore 4, 20, [], []),
  (20, .aload_n 0, 21, [0], []),
  (21, .getfield 9, 24, [], []),
  (24, .iload_n 3, 25, [3], []),
  (25, .dup2, 26, [], []),
  (26, .laload, 27, [], []),
  (27, .lload 4, 29, [], []),
  (29, .ladd, 30, [], []),
  (30, .lastore, 31, [], []),
  (31, .aload_n 0, 32, [0], []),
  (32, .dup, 33, [], []),
  (33, .getfield 27, 36, [], []),
  (36, .lload 4, 38, [], []),
  (38, .aload_n 0, 39, [0], []),
  (39, .getfield 23, 42, [], []),
  (42, .iconst 2, 43, [], [2]),
  (43, .iload_n 1, 44, [1], []),
  (44, .iload_n 2, 45, [2], []),
  (45, .iload_n 3, 46, [3], []),
  (46, .iconst 0, 47, [], [0]),
  (47, .invokevirtual 70, 50, [], []),
  (50, .i2l, 51, [], []),
  (51, .lmul, 52, [], []),
  (52, .ladd, 53, [], []),
  (53, .putfield 27, 56, [], []),
  (56, .iload_n 3, 57, [3], []),
  (57, .iconst 1, 58, [], [1]),
  (58, .isub, 59, [], []),
  (59, .istore 6, 61, [], []),
  (61, .iload 6, 63, [], []),
  (63, .iconst 1, 64, [], [1]),
  (64, .if_icmp .le 25, 67, [89], []),
  (67, .aload_n 0, 68, [0], []),
  (68, .getfield 9, 71, [], []),
  (71, .iload 6, 73, [], []),
  (73, .aload_n 0, 74, [0], []),
  (74, .getfield 9, 77, [], []),
  (77, .iload 6, 79, [], []),
  (79, .iconst 1, 80, [], [1]),
  (80, .isub, 81, [], []),
  (81, .laload, 82, [], []),
  (82, .lastore, 83, [], []),
  (83, .iinc 6 (-1), 86, [], [(-1)]),
  (86, .goto (-25), 89, [61], []),
  (89, .aload_n 0, 90, [0], []),
  (90, .getfield 9, 93, [], []),
  (93, .iconst 1, 94, [], [1]),
  (94, .aload_n 0, 95, [0], []),
  (95, .getfield 9, 98, [], []),
  (98, .iconst 0, 99, [], [0]),
  (99, .laload, 100, [], []),
  (100, .aload_n 0, 101, [0], []),
  (101, .getfield 23, 104, [], []),
  (104, .iconst 0, 105, [], [0]),
  (105, .iload_n 1, 106, [1], []),
  (106, .iload_n 2, 107, [2], []),
  (107, .aload_n 0, 108, [0], []),
  (108, .getfield 19, 111, [], []),
  (111, .iload_n 1, 112, [1], []),
  (112, .iload_n 2, 113, [2], []),
  (113, .invokevirtual 76, 116, [], []),
  (116, .iconst 0, 117, [], [0]),
  (117, .invokevirtual 70, 120, [], []),
  (120, .i2l, 121, [], []),
  (121, .lmul, 122, [], []),
  (122, .ldc2_w 80, 125, [], []),
  (125, .ldiv, 126, [], []),
  (126, .lastore, 127, [], []),
  (127, .aload_n 0, 128, [0], []),
  (128, .getfield 9, 131, [], []),
  (131, .iconst 0, 132, [], [0]),
  (132, .dup2, 133, [], []),
  (133, .laload, 134, [], []),
  (134, .aload_n 0, 135, [0], []),
  (135, .getfield 9, 138, [], []),
  (138, .iconst 1, 139, [], [1]),
  (139, .laload, 140, [], []),
  (140, .lsub, 141, [], []),
  (141, .lastore, 142, [], []),
  (142, .return_, 143, [], [])]
theorem zo_X6_grow : ab_ok cX6_grow zp_X6_grow = true := by decide +kernel
def zg_X6_grow : ab_G := (zw_C, zs_tab, zf_X6, zc_X6, [], [(70, 6, zt_X1_ask), (76, 3, zt_X10_sinceOf)], [])
theorem zm_X6_grow : ab_MG zg_X6_grow := ab_MGof (List.forall_mem_cons.mpr ⟨zt_X1_ask_mono, List.forall_mem_cons.mpr ⟨ab_pp_mono _, List.forall_mem_nil _⟩⟩) (List.forall_mem_nil _)
abbrev zr_X6_grow (Q : ab_R) : ab_K := ab_Run zg_X6_grow zp_X6_grow none 7 Q
set_option maxRecDepth 20000 in
theorem zv_X6_grow_0 {Q : ab_R} {M : ab_M} {N : ab_N} (l1 : Int32) (l2 : Int32) (h : vp_in (1 : Int32) 5 ∧ (vp_in ((M 17 1) - (1 : Int32)) 7 ∧ (vp_in (M 17 1) 7 ∧ (vp_in (M 17 1) 7 ∧ (let y1 : Nat → Int64 := vp_updL (N 41) (M 17 1).toNatClampNeg ((N 41 (M 17 1).toNatClampNeg) + (N 41 ((M 17 1) - (1 : Int32)).toNatClampNeg)); zt_X1_ask [.ref 5, .int (2 : Int32), .int l1, .int l2, .int (M 17 1), .int (0 : Int32)] M (ab_u N 41 y1) (fun r M2 N2 => zr_X6_grow Q 50 [some (.ref 7), some (.int l1), some (.int l2), some (.int (M 17 1)), none, none, none] (ab_ol r [.long (N 41 ((M 17 1) - (1 : Int32)).toNatClampNeg), .long (N 7 4), .ref 7]) M2 N2)))))) : zr_X6_grow Q 0 [some (.ref 7), some (.int l1), some (.int l2)] [] M N := ab_Run_s zm_X6_grow (sp := [(50, [true, true, true, true, false, false, false]), (61, [true, true, true, false, false, false, true]), (120, [true, false, false, false, false, false, false])]) 94 h
set_option maxRecDepth 20000 in
theorem zv_X6_grow_50 {Q : ab_R} {M : ab_M} {N : ab_N} (l1 : Int32) (l2 : Int32) (l3 : Int32) (s1 : Int64) (s2 : Int64) (s3 : Int32) (h : let y1 : Nat → Int64 := vp_updL (N 7) 4 (s1 + (s2 * (s3.toInt64))); zr_X6_grow Q 61 [some (.ref 7), some (.int l1), some (.int l2), none, none, none, some (.int (l3 - (1 : Int32)))] [] M (ab_u N 7 y1)) : zr_X6_grow Q 50 [some (.ref 7), some (.int l1), some (.int l2), some (.int l3), none, none, none] [.int s3, .long s2, .long s1, .ref 7] M N := ab_Run_s zm_X6_grow (sp := [(50, [true, true, true, true, false, false, false]), (61, [true, true, true, false, false, false, true]), (120, [true, false, false, false, false, false, false])]) 94 h
set_option maxRecDepth 20000 in
theorem zv_X6_grow_61 {Q : ab_R} {M : ab_M} {N : ab_N} (l1 : Int32) (l2 : Int32) (l6 : Int32) (h : (l6 ≤ (1 : Int32) → vp_in (0 : Int32) 7 ∧ ((vp_in (l2 * 8 + l1) 96) ∧ (zt_X1_ask [.ref 5, .int (0 : Int32), .int l1, .int l2, .int ((M 39) (l2 * 8 + l1).toNatClampNeg), .int (0 : Int32)] M N (fun r M2 N2 => zr_X6_grow Q 120 [some (.ref 7), none, none, none, none, none, none] (ab_ol r [.long (N 41 0), .int (1 : Int32), .ref 41]) M2 N2)))) ∧ (¬ (l6 ≤ (1 : Int32)) → vp_in (l6 - (1 : Int32)) 7 ∧ (vp_in l6 7 ∧ (let y1 : Nat → Int64 := vp_updL (N 41) l6.toNatClampNeg (N 41 (l6 - (1 : Int32)).toNatClampNeg); zr_X6_grow Q 61 [some (.ref 7), some (.int l1), some (.int l2), none, none, none, some (.int (l6 + (-1 : Int32)))] [] M (ab_u N 41 y1))))) : zr_X6_grow Q 61 [some (.ref 7), some (.int l1), some (.int l2), none, none, none, some (.int l6)] [] M N := ab_Run_s zm_X6_grow (sp := [(50, [true, true, true, true, false, false, false]), (61, [true, true, true, false, false, false, true]), (120, [true, false, false, false, false, false, false])]) 94 h
set_option maxRecDepth 20000 in
theorem zv_X6_grow_120 {Q : ab_R} {M : ab_M} {N : ab_N} (s1 : Int32) (s2 : Int64) (s3 : Int32) (h : ¬ (1000 : Int64) = 0 ∧ (vp_in s1 7 ∧ (let y1 : Nat → Int64 := vp_updL (N 41) s1.toNatClampNeg ((s2 * (s3.toInt64)) / (1000 : Int64)); vp_in (0 : Int32) 7 ∧ (vp_in (1 : Int32) 7 ∧ (vp_in (0 : Int32) 7 ∧ (let y2 : Nat → Int64 := vp_updL (y1) 0 ((y1 0) - (y1 1)); Q none M (ab_u (ab_u N 41 y1) 41 y2))))))) : zr_X6_grow Q 120 [some (.ref 7), none, none, none, none, none, none] [.int s3, .long s2, .int s1, .ref 41] M N := ab_Run_s zm_X6_grow (sp := [(50, [true, true, true, true, false, false, false]), (61, [true, true, true, false, false, false, true]), (120, [true, false, false, false, false, false, false])]) 94 h
/-- the shift, from step i down -/
theorem zL_X6_grow {Q : ab_R} {M : ab_M} {N0 : ab_N} (q g B : Nat) (f : Nat → Int64) (hB : B ≤ 6) (kk : ∀ F : Nat → Int64, (∀ j, j < 7 → F j = zShift f B j) → zr_X6_grow Q 61 [some (.ref 7), some (.int (nI q)), some (.int (nI g)), none, none, none, some (.int (nI 1))] [] M (ab_u N0 41 F)) :
    ∀ (i : Nat) (F : Nat → Int64), i + 1 < B → (∀ j, j < 7 → F j = if i + 2 ≤ j ∧ j < B then f (j - 1) else f j) → zr_X6_grow Q 61 [some (.ref 7), some (.int (nI q)), some (.int (nI g)), none, none, none, some (.int (nI (i + 1)))] [] M (ab_u N0 41 F) := by
  intro i
  induction i with
  | zero =>
    intro F hi hF
    exact kk F (fun j hj => by rw [hF j hj]; rfl)
  | succ i ih =>
    intro F hi hF
    refine zv_X6_grow_61 _ _ _ ⟨fun c => absurd c (nI_ge (a := 1) (by omega) (by omega)), fun _ => ?_⟩
    rw [nI_pred, pk_m1]
    refine ⟨nI_in_ (by omega), nI_in_ (by omega), ?_⟩
    rw [nI_clamp (show i + 1 < 2 ^ 31 by omega), nI_clamp (show i + 1 + 1 < 2 ^ 31 by omega)]
    intro y1
    have e : y1 = vp_updL F (i + 1 + 1) (F (i + 1)) := by
      show vp_updL (ab_u N0 41 F 41) _ (ab_u N0 41 F 41 (i + 1)) = _
      rw [ab_u_eq]
    clear_value y1
    subst e
    rw [ab_u_u]
    refine ih _ (by omega) (fun j hj => ?_)
    by_cases e : j = i + 1 + 1
    · rw [e, updL_eq, hF (i + 1) (by omega), if_neg (by omega), if_pos (by omega)]
      rfl
    · rw [updL_ne _ _ e, hF j hj]
      by_cases c : i + 1 + 2 ≤ j ∧ j < B
      · rw [if_pos c, if_pos (by omega)]
      · rw [if_neg c, if_neg (by omega)]
theorem zE_X6_grow (as : List Value) (M : ab_M) (N : ab_N) (k : ab_R) (hT : zt_X6_grow as M N k) : ab_cs as ≤ 7 ∧ zr_X6_grow k 0 (ab_en as) [] M N := by
  obtain ⟨p, h, rfl, ⟨hN, q, g, sc, hq, hg, rfl, rfl, hs1, hs2⟩, hk⟩ := ab_m2_e hT
  obtain ⟨hA, h0, h1⟩ := id hN
  obtain ⟨hB, hB6, hB2⟩ := zB_eq h0
  obtain ⟨hP, hP8⟩ := zP_eq h0
  refine ⟨Nat.le_of_ble_eq_true rfl, zv_X6_grow_0 _ _ ?_⟩
  rw [nI_clamp (show q < 2 ^ 31 by omega), nI_clamp (show g < 2 ^ 31 by omega), hs2, nI_clamp (show sc < 2 ^ 31 by omega)] at hk
  have eB1 : nI (zBrk M) - 1 = nI (zBrk M - 1) := by
    rw [show (1 : Int32) = nI 1 from rfl, pk_sub (by omega)]
  rw [hB, eB1, nI_clamp (show zBrk M < 2 ^ 31 by omega), nI_clamp (show zBrk M - 1 < 2 ^ 31 by omega)]
  refine ⟨ab_vpk (by decide), nI_in_ (by omega), nI_in_ (by omega), nI_in_ (by omega), ?_⟩
  intro y1
  refine ab_m5_i ⟨hA, 2, q, g, zBrk M, 0, zPcs M, by omega, hq, hP8, hg, by omega, by omega, rfl, rfl, rfl, rfl, rfl, hP⟩ ?_
  rintro o M2 N2 ⟨hNe, hF, hA2, rfl⟩
  have hle2 := zAsk_le M (th := 2) (by omega) q g (zBrk M) 0
  rw [show (2 : Int32).toNatClampNeg = 2 from rfl, show (0 : Int32).toNatClampNeg = 0 from rfl, nI_clamp (show q < 2 ^ 31 by omega), nI_clamp (show g < 2 ^ 31 by omega), nI_clamp (show zBrk M < 2 ^ 31 by omega), hNe]
  refine zv_X6_grow_50 _ _ _ _ _ _ ?_
  rw [nI_l (by omega), eB1]
  intro y2
  have hy1 : y1 = vp_updL (N 41) (zBrk M) (N 41 (zBrk M) + N 41 (zBrk M - 1)) := rfl
  have hy2 : y2 = vp_updL (N 7) 4 (N 7 4 + N 41 (zBrk M - 1) * lN (zAsk M 2 q g (zBrk M) 0)) := rfl
  clear_value y1 y2
  have eN : ab_u (ab_u N 41 y1) 7 y2 = ab_u (ab_u N 7 y2) 41 y1 := by
    funext c
    by_cases e : c = 7
    · rw [e, ab_u_eq, ab_u_ne _ _ (by decide), ab_u_eq]
    · rw [ab_u_ne _ _ e]
      by_cases e2 : c = 41
      · rw [e2, ab_u_eq, ab_u_eq]
      · rw [ab_u_ne _ _ e2, ab_u_ne _ _ e2, ab_u_ne _ _ e]
  rw [eN]
  have eb : zBrk M - 1 = (zBrk M - 2) + 1 := by omega
  have start := zL_X6_grow (Q := k) (M := M2) (N0 := ab_u N 7 y2) q g (zBrk M) y1 hB6 (fun F hFs => ?_) (zBrk M - 2) y1 (by omega) (fun j hj => by rw [if_neg (by omega)])
  · rw [← eb] at start
    exact start
  · refine zv_X6_grow_61 _ _ _ ⟨fun _ => ⟨ab_vpk (by decide), ?_⟩, fun c => absurd (show nI 1 ≤ nI 1 from nI_le (by omega) (by omega)) c⟩
    have ei : nI g * 8 + nI q = nI (g * 8 + q) := by rw [zN_mul g 8 8, nI_add]
    rw [ei, nI_clamp (show g * 8 + q < 2 ^ 31 by omega), hF 39 (by decide), hs2]
    refine ⟨nI_in_ (by omega), ab_m5_i ⟨hA2, 0, q, g, sc, 0, zPcs M, by omega, hq, hP8, hg, hs1, by omega, rfl, rfl, rfl, rfl, rfl, by rw [hF 1 (by decide), hP]⟩ ?_⟩
    rintro o M3 N3 ⟨hNe3, hF3, hA3, rfl⟩
    have hFt : zFr [33, 35, 36] M M3 := zFr_tr hF hF3
    have hle0 := zAsk_le M (th := 0) (by omega) q g sc 0
    rw [zAsk_fr hF, show (0 : Int32).toNatClampNeg = 0 from rfl, nI_clamp (show q < 2 ^ 31 by omega), nI_clamp (show g < 2 ^ 31 by omega), nI_clamp (show sc < 2 ^ 31 by omega), hNe3]
    refine zv_X6_grow_120 _ _ _ ⟨by decide, ab_vpk (by decide), ?_⟩
    rw [nI_l (by omega), ab_u_eq]
    intro y3
    refine ⟨ab_vpk (by decide), ab_vpk (by decide), ab_vpk (by decide), ?_⟩
    intro y4
    have hy3 : y3 = vp_updL F 1 (F 0 * lN (zAsk M 0 q g sc 0) / 1000) := by
      show vp_updL (ab_u (ab_u N 7 y2) 41 F 41) _ _ = _
      rw [ab_u_eq]; rfl
    have hy4 : y4 = vp_updL y3 0 (y3 0 - y3 1) := rfl
    clear_value y3 y4
    refine hk none M3 _ ⟨rfl, hFt, hA3, zNfr_u (zNfr_u (zNfr_u (zNfr_u (zNfr_rf _ _) (by decide) _) (by decide) _) (by decide) _) (by decide) _, ?_⟩
    intro s hs
    obtain ⟨s1, s2, s3⟩ := hs
    have e1 : ∀ j, j < 7 → y1 j = vp_updL s.1 (zBrk M) (s.1 (zBrk M) + s.1 (zBrk M - 1)) j := by
      intro j hj
      rw [hy1, s1 (zBrk M) (by omega), s1 (zBrk M - 1) (by omega)]
      by_cases e : j = zBrk M
      · rw [e, updL_eq, updL_eq]
      · rw [updL_ne _ _ e, updL_ne _ _ e]; exact s1 j hj
    have e2 : ∀ j, j < 7 → F j = zShift (vp_updL s.1 (zBrk M) (s.1 (zBrk M) + s.1 (zBrk M - 1))) (zBrk M) j := by
      intro j hj
      rw [hFs j hj]
      unfold zShift
      by_cases c : 2 ≤ j ∧ j < zBrk M
      · rw [if_pos c, if_pos c, e1 (j - 1) (by omega)]
      · rw [if_neg c, if_neg c, e1 j hj]
    refine ⟨fun j hj => ?_, ?_, ?_⟩
    · rw [ab_u_eq, hy4, hy3]
      show _ = vp_updL (vp_updL (zShift (vp_updL s.1 (zBrk M) (s.1 (zBrk M) + s.1 (zBrk M - 1))) (zBrk M)) 1 _) 0 _ j
      have f0 := e2 0 (by omega)
      by_cases c0 : j = 0
      · rw [c0, updL_eq, updL_eq, updL_ne _ _ (show (0 : Nat) ≠ 1 by decide), updL_ne _ _ (show (0 : Nat) ≠ 1 by decide), updL_eq, f0]
      · rw [updL_ne _ _ c0, updL_ne _ _ c0]
        by_cases c1 : j = 1
        · rw [c1, updL_eq, updL_eq, f0]
        · rw [updL_ne _ _ c1, updL_ne _ _ c1, e2 j hj]
    · rw [ab_u_ne _ _ (by decide), ab_u_ne _ _ (by decide), ab_u_ne _ _ (by decide), ab_u_eq, hy2, updL_eq, s2, s1 (zBrk M - 1) (by omega)]
      rfl
    · rw [ab_u_ne _ _ (by decide), ab_u_ne _ _ (by decide), ab_u_ne _ _ (by decide), ab_u_eq, hy2, updL_ne _ _ (by decide), s3]
      rfl
abbrev zR_X6_grow : Room := { frames := 3, cells := 0, slots := 0, locals := 80 }
set_option maxRecDepth 20000 in
theorem zM_X6_grow (l : Launch) : ab_Met l zw_C vwCl zZ_C yX6_grow cX6_grow 7 none zR_X6_grow zt_X6_grow := ab_ofRun (G := zg_X6_grow) (P := zp_X6_grow) rfl zo_X6_grow (by decide +kernel) zl_cl zl_lamC zf_X6_ok zs_tabOK zc_X6_ok ab_Sta_nil (List.forall_mem_cons.mpr ⟨ab_callV zZ_C_ok (zM_X1_ask l) (ab_in 590 (by decide +kernel) rfl) (ab_in 746 (by decide +kernel) rfl) (ab_in 588 (by decide +kernel) rfl) (ab_in 589 (by decide +kernel) rfl) (ab_in 6 (by decide +kernel) rfl) (by unfold ab_yok; decide +kernel) ⟨rfl, rfl⟩ (by decide) zV_X1_ask, List.forall_mem_cons.mpr ⟨ab_callV zZ_C_ok (zM_X10_sinceOf l) (ab_in 699 (by decide +kernel) rfl) (ab_in 747 (by decide +kernel) rfl) (ab_in 697 (by decide +kernel) rfl) (ab_in 698 (by decide +kernel) rfl) (ab_in 7 (by decide +kernel) rfl) (by unfold ab_yok; decide +kernel) ⟨rfl, rfl⟩ (by decide) zV_X10_sinceOf, List.forall_mem_nil _⟩⟩) (List.forall_mem_nil _) zE_X6_grow
theorem zWk_fr {M M2 : ab_M} (hF : zFr [33, 35, 36] M M2) : zWk M2 = zWk M := by
  have hG : zFr zGo M M2 := zFr_mono hF (by decide)
  have hH : zHr M2 = zHr M := by
    funext h s
    have hm : zMen M2 = zMen M := by unfold zMen; rw [hF 2 (by decide)]
    have hc : ∀ sc, zCome M2 h s.1 s.2.1 sc = zCome M h s.1 s.2.1 sc := fun sc => by
      funext m
      exact zCome_congr (hF 1 (by decide)) (hF 6 (by decide)) (hF 25 (by decide)) (hF 26 (by decide)) (hF 27 (by decide)) (hF 28 (by decide)) (hF 29 (by decide)) (hF 30 (by decide)) (zAsk_go hG) (fun _ => rfl) (fun _ => rfl) (fun _ _ => rfl)
    have hl : ∀ pl, zLk M2 h pl = zLk M h pl := fun pl => by
      funext m p
      induction m with
      | zero => unfold zLk; rw [hF 1 (by decide), hF 17 (by decide), hF 16 (by decide), hF 6 (by decide)]
      | succ m ih => unfold zLk; rw [ih, hF 6 (by decide), hF 25 (by decide), hF 29 (by decide)]
    unfold zHr zBack
    rw [hm, hF 26 (by decide), hF 27 (by decide)]
    simp only [hc, hl]
  funext h
  induction h with
  | zero => show zHr M2 0 zS0 = zHr M 0 zS0; rw [hH]
  | succ h ih => show zHr M2 (h + 1) (zWk M2 h) = zHr M (h + 1) (zWk M h); rw [hH, ih]
theorem zSc_fr {M M2 : ab_M} (hF : zFr [33, 35, 36] M M2) : zSc M2 = zSc M := by
  funext h p
  rw [← zWk_sc, ← zWk_sc, zWk_fr hF]
theorem zHrs_fr {M M2 : ab_M} (hF : zFr [33, 35, 36] M M2) : zHrs M2 = zHrs M := by unfold zHrs; rw [hF 17 (by decide)]
theorem zBrk_fr {M M2 : ab_M} (hF : zFr [33, 35, 36] M M2) : zBrk M2 = zBrk M := by unfold zBrk; rw [hF 17 (by decide)]
theorem zPcs_fr {M M2 : ab_M} (hF : zFr [33, 35, 36] M M2) : zPcs M2 = zPcs M := by unfold zPcs; rw [hF 1 (by decide)]
theorem zMen_fr {M M2 : ab_M} (hF : zFr [33, 35, 36] M M2) : zMen M2 = zMen M := by unfold zMen; rw [hF 2 (by decide)]
theorem zWalked_fr {M M2 : ab_M} (hF : zFr [33, 35, 36] M M2) (h : zWalked M) : zWalked M2 := by
  unfold zWalked at h ⊢
  rw [zHrs_fr hF, zMen_fr hF, zPcs_fr hF, zWk_fr hF, zSc_fr hF, hF 37 (by decide), hF 38 (by decide), hF 39 (by decide)]
  exact h
theorem zLook_fr {M M2 : ab_M} (hF : zFr [33, 35, 36] M M2) : zLook M2 = zLook M := by
  funext p h pc n
  induction n with
  | zero => rfl
  | succ n ih => funext s; show zLook1 M2 p h pc (n + 1) (zLook M2 p h pc n s) = _; rw [ih]; unfold zLook1; rw [zAsk_fr hF]; rfl
theorem zGrow_fr {M M2 : ab_M} (hF : zFr [33, 35, 36] M M2) : zGrow M2 = zGrow M := by
  funext p h sc s
  unfold zGrow
  rw [zAsk_fr hF, zBrk_fr hF]
def zp_X6_reckon : ab_P := [(0, .aload_n 0, 1, [0], []),
  (1, .getfield 9, 4, [], []),
  (4, .lconst 0, 5, [0], []),
  (5, .invokestatic 40, 8, [], []),
  (8, .aload_n 0, 9, [0], []),
  (9, .getfield 9, 12, [], []),
  (12, .iconst 0, 13, [], [0]),
  (13, .ldc2_w 46, 16, [], []),
  (16, .lastore, 17, [], []),
  (17, .aload_n 0, 18, [0], []),
  (18, .lconst 0, 19, [0], []),
  (19, .putfield 27, 22, [], []),
  (22, .aload_n 0, 23, [0], []),
  (23, .lconst 0, 24, [0], []),
  (24, .putfield 37, 27, [], []),
  (27, .iconst 0, 28, [], [0]),
  (28, .istore_n 3, 29, [3], []),
  (29, .iload_n 3, 30, [3], []),
  (30, .iload_n 2, 31, [2], []),
  (31, .if_icmp .ge 72, 34, [103], []),
  (34, .aload_n 0, 35, [0], []),
  (35, .iload_n 1, 36, [1], []),
  (36, .iload_n 3, 37, [3], []),
  (37, .invokevirtual 48, 40, [], []),
  (40, .iconst 0, 41, [], [0]),
  (41, .istore 4, 43, [], []),
  (43, .iload 4, 45, [], []),
  (45, .bipush 8, 47, [], [8]),
  (47, .if_icmp .ge 50, 50, [97], []),
  (50, .aload_n 0, 51, [0], []),
  (51, .getfield 19, 54, [], []),
  (54, .iload_n 1, 55, [1], []),
  (55, .iload_n 3, 56, [3], []),
  (56, .invokevirtual 52, 59, [], []),
  (59, .ifCond .eq 38, 62, [97], []),
  (62, .aload_n 0, 63, [0], []),
  (63, .getfield 19, 66, [], []),
  (66, .iload 4, 68, [], []),
  (68, .iload_n 1, 69, [1], []),
  (69, .iload_n 3, 70, [3], []),
  (70, .invokevirtual 58, 73, [], []),
  (73, .ifCond .eq 18, 76, [91], []),
  (76, .aload_n 0, 77, [0], []),
  (77, .iload_n 1, 78, [1], []),
  (78, .iload_n 3, 79, [3], []),
  (79, .aload_n 0, 80, [0], []),
  (80, .getfield 19, 83, [], []),
  (83, .iload 4, 85, [], []),
  (85, .invokevirtual 62, 88, [], []),
  (88, .invokevirtual 66, 91, [], []),
  (91, .iinc 4 1, 94, [], [1]),
  (94, .goto (-51), 97, [43], []),
  (97, .iinc 3 1, 100, [], [1]),
  (100, .goto (-71), 103, [29], []),
  (103, .return_, 104, [], [])]
theorem zo_X6_reckon : ab_ok cX6_reckon zp_X6_reckon = true := by decide +kernel
def zg_X6_reckon : ab_G := (zw_C, zs_tab, zf_X6, zc_X6, [], [(48, 3, zt_X6_grow), (52, 3, zt_X10_lookedAt), (58, 4, zt_X10_looksAt), (62, 2, zt_X10_paceOf), (66, 4, zt_X6_look)], [(40, 2, zt_J7_fill_d0a16)])
theorem zm_X6_reckon : ab_MG zg_X6_reckon := ab_MGof (List.forall_mem_cons.mpr ⟨zt_X6_grow_mono, List.forall_mem_cons.mpr ⟨ab_pp_mono _, List.forall_mem_cons.mpr ⟨ab_pp_mono _, List.forall_mem_cons.mpr ⟨ab_pure_mono _, List.forall_mem_cons.mpr ⟨zt_X6_look_mono, List.forall_mem_nil _⟩⟩⟩⟩⟩) (List.forall_mem_cons.mpr ⟨zt_J7_fill_d0a16_mono, List.forall_mem_nil _⟩)
abbrev zr_X6_reckon (Q : ab_R) : ab_K := ab_Run zg_X6_reckon zp_X6_reckon none 5 Q
set_option maxRecDepth 20000 in
theorem zv_X6_reckon_0 {Q : ab_R} {M : ab_M} {N : ab_N} (l1 : Int32) (l2 : Int32) (h : zt_J7_fill_d0a16 [.ref 41, .long (0 : Int64)] M N (fun r M2 N2 => zr_X6_reckon Q 8 [some (.ref 7), some (.int l1), some (.int l2), none, none] (ab_ol r []) M2 N2)) : zr_X6_reckon Q 0 [some (.ref 7), some (.int l1), some (.int l2)] [] M N := ab_Run_s zm_X6_reckon (sp := [(8, [true, true, true, false, false]), (29, [true, true, true, true, false]), (40, [true, true, true, true, false]), (43, [true, true, true, true, true]), (91, [true, true, true, true, true])]) 57 h
set_option maxRecDepth 20000 in
theorem zv_X6_reckon_8 {Q : ab_R} {M : ab_M} {N : ab_N} (l1 : Int32) (l2 : Int32) (h : vp_in (0 : Int32) 7 ∧ (let y1 : Nat → Int64 := vp_updL (N 41) 0 (1000000000 : Int64); let y2 : Nat → Int64 := vp_updL (N 7) 4 (0 : Int64); let y3 : Nat → Int64 := vp_updL (y2) 5 (0 : Int64); zr_X6_reckon Q 29 [some (.ref 7), some (.int l1), some (.int l2), some (.int (0 : Int32)), none] [] M (ab_u (ab_u (ab_u N 41 y1) 7 y2) 7 y3))) : zr_X6_reckon Q 8 [some (.ref 7), some (.int l1), some (.int l2), none, none] [] M N := ab_Run_s zm_X6_reckon (sp := [(8, [true, true, true, false, false]), (29, [true, true, true, true, false]), (40, [true, true, true, true, false]), (43, [true, true, true, true, true]), (91, [true, true, true, true, true])]) 57 h
set_option maxRecDepth 20000 in
theorem zv_X6_reckon_29 {Q : ab_R} {M : ab_M} {N : ab_N} (l1 : Int32) (l2 : Int32) (l3 : Int32) (h : (l2 ≤ l3 → Q none M N) ∧ (¬ (l2 ≤ l3) → zt_X6_grow [.ref 7, .int l1, .int l3] M N (fun r M2 N2 => zr_X6_reckon Q 40 [some (.ref 7), some (.int l1), some (.int l2), some (.int l3), none] (ab_ol r []) M2 N2))) : zr_X6_reckon Q 29 [some (.ref 7), some (.int l1), some (.int l2), some (.int l3), none] [] M N := ab_Run_s zm_X6_reckon (sp := [(8, [true, true, true, false, false]), (29, [true, true, true, true, false]), (40, [true, true, true, true, false]), (43, [true, true, true, true, true]), (91, [true, true, true, true, true])]) 57 h
set_option maxRecDepth 20000 in
theorem zv_X6_reckon_40 {Q : ab_R} {M : ab_M} {N : ab_N} (l1 : Int32) (l2 : Int32) (l3 : Int32) (h : zr_X6_reckon Q 43 [some (.ref 7), some (.int l1), some (.int l2), some (.int l3), some (.int (0 : Int32))] [] M N) : zr_X6_reckon Q 40 [some (.ref 7), some (.int l1), some (.int l2), some (.int l3), none] [] M N := ab_Run_s zm_X6_reckon (sp := [(8, [true, true, true, false, false]), (29, [true, true, true, true, false]), (40, [true, true, true, true, false]), (43, [true, true, true, true, true]), (91, [true, true, true, true, true])]) 57 h
set_option maxRecDepth 20000 in
theorem zv_X6_reckon_43 {Q : ab_R} {M : ab_M} {N : ab_N} (l1 : Int32) (l2 : Int32) (l3 : Int32) (l4 : Int32) (h : ((8 : Int32) ≤ l4 → zr_X6_reckon Q 29 [some (.ref 7), some (.int l1), some (.int l2), some (.int (l3 + (1 : Int32))), none] [] M N) ∧ (¬ ((8 : Int32) ≤ l4) → (vp_in (l3 * 8 + l1) 96) ∧ (((ab_b (¬ (M 38) (l3 * 8 + l1).toNatClampNeg = 0)) = 0 → zr_X6_reckon Q 29 [some (.ref 7), some (.int l1), some (.int l2), some (.int (l3 + (1 : Int32))), none] [] M N) ∧ (¬ ((ab_b (¬ (M 38) (l3 * 8 + l1).toNatClampNeg = 0)) = 0) → (vp_in (l3 * 8 + l1) 96) ∧ (((ab_b (¬ ((M 38) (l3 * 8 + l1).toNatClampNeg >>> (l4 &&& 31)) &&& 1 = 0)) = 0 → zr_X6_reckon Q 91 [some (.ref 7), some (.int l1), some (.int l2), some (.int l3), some (.int l4)] [] M N) ∧ (¬ ((ab_b (¬ ((M 38) (l3 * 8 + l1).toNatClampNeg >>> (l4 &&& 31)) &&& 1 = 0)) = 0) → zt_X6_look [.ref 7, .int l1, .int l3, .int (if 0 ≤ l4 ∧ l4 < (M 2) 6 ∧ l4 < 5 then (M 28) l4.toNatClampNeg else if l4 = 7 then 1 else 0)] M N (fun r M2 N2 => zr_X6_reckon Q 91 [some (.ref 7), some (.int l1), some (.int l2), some (.int l3), some (.int l4)] (ab_ol r []) M2 N2))))))) : zr_X6_reckon Q 43 [some (.ref 7), some (.int l1), some (.int l2), some (.int l3), some (.int l4)] [] M N := ab_Run_s zm_X6_reckon (sp := [(8, [true, true, true, false, false]), (29, [true, true, true, true, false]), (40, [true, true, true, true, false]), (43, [true, true, true, true, true]), (91, [true, true, true, true, true])]) 57 h
set_option maxRecDepth 20000 in
theorem zv_X6_reckon_91 {Q : ab_R} {M : ab_M} {N : ab_N} (l1 : Int32) (l2 : Int32) (l3 : Int32) (l4 : Int32) (h : zr_X6_reckon Q 43 [some (.ref 7), some (.int l1), some (.int l2), some (.int l3), some (.int (l4 + (1 : Int32)))] [] M N) : zr_X6_reckon Q 91 [some (.ref 7), some (.int l1), some (.int l2), some (.int l3), some (.int l4)] [] M N := ab_Run_s zm_X6_reckon (sp := [(8, [true, true, true, false, false]), (29, [true, true, true, true, false]), (40, [true, true, true, true, false]), (43, [true, true, true, true, true]), (91, [true, true, true, true, true])]) 57 h
theorem zPace_le {M : ab_M} (h1 : zI1 M) (w : Nat) : zPace M w ≤ 3 := by
  unfold zPace
  split
  · rename_i c
    obtain ⟨-, -, -, g, -⟩ := h1 w c
    exact (zNat 3 3 (by grind) g.2).2
  · split <;> omega
section ZRk
variable {Q : ab_R} {M0 : ab_M} {N0 : ab_N}
theorem zL_X6_reckon_w (hN : zNight M0) (hW : zWalked M0) (q g hrs : Nat) (s0 : zRs) (hq : q < zPcs M0) (hg : g < zHrs M0) (kk : ∀ M N, zFr [33, 35, 36] M0 M → zAsks M → zNfr [7, 41] N0 N → zHas N (zLooks M0 q g ((zWk M0 g).2.2.2 q) 8 s0) → zr_X6_reckon Q 29 [some (.ref 7), some (.int (nI q)), some (.int (nI hrs)), some (.int (nI (g + 1))), none] [] M N) :
    ∀ (n w : Nat) (M : ab_M) (N : ab_N), w + n = 8 → zFr [33, 35, 36] M0 M → zAsks M → zNfr [7, 41] N0 N → zHas N (zLooks M0 q g ((zWk M0 g).2.2.2 q) w s0) → zr_X6_reckon Q 43 [some (.ref 7), some (.int (nI q)), some (.int (nI hrs)), some (.int (nI g)), some (.int (nI w))] [] M N := by
  obtain ⟨hA0, h0, h1⟩ := id hN
  obtain ⟨hP, hP8⟩ := zP_eq h0
  obtain ⟨hMe, hM5⟩ := zM_eq h0
  obtain ⟨hHe, hH12⟩ := zH_eq h0
  intro n
  induction n with
  | zero =>
    intro w M N hw hF hA hNf hH
    have ew : w = 8 := by omega
    subst ew
    refine zv_X6_reckon_43 _ _ _ _ ⟨fun _ => ?_, fun c => absurd (show nI 8 ≤ nI 8 from nI_le (by omega) (by omega)) c⟩
    rw [nI_1]
    exact kk M N hF hA hNf hH
  | succ n ih =>
    intro w M N hw hF hA hNf hH
    refine zv_X6_reckon_43 _ _ _ _ ⟨fun c => absurd c (show ¬ nI 8 ≤ nI w from nI_ge (by omega) (by omega)), fun _ => ?_⟩
    have ei : nI g * 8 + nI q = nI (g * 8 + q) := by rw [zN_mul g 8 8, nI_add]
    have e38 : M 38 (g * 8 + q) = (zWk M0 g).2.2.2 q := by rw [hF 38 (by decide)]; exact ((hW g hg).2 q hq).2
    rw [ei, nI_clamp (show g * 8 + q < 2 ^ 31 by omega), e38, nI_1]
    have hv : vp_in (nI (g * 8 + q)) 96 := nI_in_ (by omega)
    refine ⟨hv, fun c => ?_, fun c => ⟨hv, fun c2 => ?_, fun c2 => ?_⟩⟩
    · have c3 : (zWk M0 g).2.2.2 q = 0 := Decidable.not_not.mp (ab_b_0.mp c)
      refine kk M N hF hA hNf ?_
      have e8 : ∀ j, zLooks M0 q g ((zWk M0 g).2.2.2 q) j s0 = s0 := by
        intro j
        induction j with
        | zero => rfl
        | succ j ih2 =>
          unfold zLooks
          rw [if_neg, ih2]
          rw [c3]
          intro z
          apply z
          simp
      rw [e8] at hH ⊢
      exact hH
    · have c3 : ¬ zBit ((zWk M0 g).2.2.2 q) w := ab_b_0.mp c2
      refine zv_X6_reckon_91 _ _ _ _ ?_
      rw [nI_1]
      refine ih (w + 1) M N (by omega) hF hA hNf ?_
      unfold zLooks
      rw [if_neg c3]
      exact hH
    · have c3 : zBit ((zWk M0 g).2.2.2 q) w := Decidable.not_not.mp (fun z => c2 (ab_b_0.mpr z))
      have hp3 := zPace_le h1 w
      have ep : (if 0 ≤ nI w ∧ nI w < (M 2) 6 ∧ nI w < 5 then (M 28) (nI w).toNatClampNeg else if nI w = 7 then 1 else 0) = nI (zPace M0 w) := by
        rw [hF 2 (by decide), hF 28 (by decide), nI_clamp (show w < 2 ^ 31 by omega), hMe]
        unfold zPace
        by_cases c4 : w < zMen M0
        · rw [if_pos ⟨nI_pos' (by omega), nI_lt c4 (by omega), nI_lt (a := w) (b := 5) (by omega) (by omega)⟩, if_pos c4]
          obtain ⟨-, -, -, g4, -⟩ := h1 w c4
          exact (zNat 3 3 (by grind) g4.2).1
        · rw [if_neg (fun z => c4 ((nI_ltI (by omega) (by omega)).mp z.2.1)), if_neg c4]
          by_cases c5 : w = 7
          · rw [c5]; rfl
          · have c6 : ¬ nI w = 7 := fun z => c5 ((nI_eq (by omega) (by omega)).mp (show nI w = nI 7 from z))
            simp only [c5, c6, if_false]; rfl
      rw [ep]
      refine ab_m3_i ⟨zNight_fr hN hA hF, q, g, zPace M0 w, by rw [zPcs_fr hF]; exact hq, by omega, hp3, rfl, rfl, rfl⟩ ?_
      rintro o M2 N2 ⟨rfl, hF2, hA2, hNf2, hS2⟩
      have hS3 := hS2 _ hH
      rw [zLook_fr hF, zBrk_fr hF, nI_clamp (show q < 2 ^ 31 by omega), nI_clamp (show g < 2 ^ 31 by omega), nI_clamp (show zPace M0 w < 2 ^ 31 by omega)] at hS3
      refine zv_X6_reckon_91 _ _ _ _ ?_
      rw [nI_1]
      refine ih (w + 1) M2 N2 (by omega) (zFr_tr hF hF2) hA2 (zNfr_tr hNf hNf2) ?_
      unfold zLooks
      rw [if_pos c3]
      exact hS3
theorem zL_X6_reckon_h (hN : zNight M0) (hW : zWalked M0) (q hrs : Nat) (hq : q < zPcs M0) (hh : hrs ≤ zHrs M0) (kk : ∀ M N, zFr [33, 35, 36] M0 M → zAsks M → zNfr [7, 41] N0 N → zHas N (zRk M0 q hrs) → Q none M N) :
    ∀ (n g : Nat) (M : ab_M) (N : ab_N), g + n = hrs → zFr [33, 35, 36] M0 M → zAsks M → zNfr [7, 41] N0 N → zHas N (zRk M0 q g) → zr_X6_reckon Q 29 [some (.ref 7), some (.int (nI q)), some (.int (nI hrs)), some (.int (nI g)), none] [] M N := by
  obtain ⟨hA0, h0, h1⟩ := id hN
  obtain ⟨hP, hP8⟩ := zP_eq h0
  obtain ⟨hHe, hH12⟩ := zH_eq h0
  intro n
  induction n with
  | zero =>
    intro g M N hg hF hA hNf hH
    have eg : g = hrs := by omega
    subst eg
    exact zv_X6_reckon_29 _ _ _ ⟨fun _ => kk M N hF hA hNf hH, fun c => absurd (nI_le (by omega) (by omega)) c⟩
  | succ n ih =>
    intro g M N hg hF hA hNf hH
    refine zv_X6_reckon_29 _ _ _ ⟨fun c => absurd c (nI_ge (by omega) (by omega)), fun _ => ?_⟩
    have e39 : M 39 (g * 8 + q) = nI (zSc M0 g q) := by rw [hF 39 (by decide)]; exact ((hW g (by omega)).2 q hq).1
    have hsc := zSc_le M0 q g
    refine ab_m2_i ⟨zNight_fr hN hA hF, q, g, zSc M0 g q, by rw [zPcs_fr hF]; exact hq, by omega, rfl, rfl, by omega, e39⟩ ?_
    rintro o M2 N2 ⟨rfl, hF2, hA2, hNf2, hS2⟩
    have hS3 := hS2 _ hH
    rw [zGrow_fr hF, nI_clamp (show q < 2 ^ 31 by omega), nI_clamp (show g < 2 ^ 31 by omega), e39, nI_clamp (by omega)] at hS3
    refine zv_X6_reckon_40 _ _ _ ?_
    exact zL_X6_reckon_w hN hW q g hrs _ hq (by omega) (fun M3 N3 hF3 hA3 hNf3 hH3 => ih (g + 1) M3 N3 (by omega) hF3 hA3 hNf3 hH3) 8 0 M2 N2 (by omega) (zFr_tr hF hF2) hA2 (zNfr_tr hNf hNf2) hS3
end ZRk
theorem zE_X6_reckon (as : List Value) (M : ab_M) (N : ab_N) (k : ab_R) (hT : zt_X6_reckon as M N k) : ab_cs as ≤ 5 ∧ zr_X6_reckon k 0 (ab_en as) [] M N := by
  obtain ⟨p, h, rfl, ⟨hN, hW, q, g, hq, hg, rfl, rfl⟩, hk⟩ := ab_m2_e hT
  have hP := zP_eq hN.2.1
  have hH := zH_eq hN.2.1
  rw [nI_clamp (show q < 2 ^ 31 by omega), nI_clamp (show g < 2 ^ 31 by omega)] at hk
  refine ⟨Nat.le_of_ble_eq_true rfl, zv_X6_reckon_0 _ _ ⟨rfl, fun f hf => zv_X6_reckon_8 _ _ ⟨ab_vpk (by decide), ?_⟩⟩⟩
  intro y1 y2 y3
  refine zL_X6_reckon_h hN hW q g hq hg (fun M2 N2 hF hA hNf hS => hk none M2 N2 ⟨rfl, hF, hA, hNf, hS⟩) g 0 M _ (by omega) (zFr_rf _ _) hN.1 (zNfr_u (zNfr_u (zNfr_u (zNfr_u (zNfr_rf _ _) (by decide) _) (by decide) _) (by decide) _) (by decide) _) ⟨fun j hj => ?_, ?_, ?_⟩
  · show y1 j = _
    show vp_updL (ab_u N 41 f 41) 0 1000000000 j = if j = 0 then 1000000000 else 0
    rw [ab_u_eq]
    by_cases e : j = 0
    · rw [e, updL_eq, if_pos rfl]
    · rw [updL_ne _ _ e, if_neg e, hf j hj]
  · show y3 4 = 0
    show vp_updL y2 5 0 4 = 0
    rw [updL_ne _ _ (by decide)]
    show vp_updL _ 4 0 4 = 0
    rw [updL_eq]
  · show y3 5 = 0
    show vp_updL y2 5 0 5 = 0
    rw [updL_eq]
abbrev zR_X6_reckon : Room := { frames := 4, cells := 0, slots := 0, locals := 106 }
set_option maxRecDepth 20000 in
theorem zM_X6_reckon (l : Launch) : ab_Met l zw_C vwCl zZ_C yX6_reckon cX6_reckon 5 none zR_X6_reckon zt_X6_reckon := ab_ofRun (G := zg_X6_reckon) (P := zp_X6_reckon) rfl zo_X6_reckon (by decide +kernel) zl_cl zl_lamC zf_X6_ok zs_tabOK zc_X6_ok ab_Sta_nil (List.forall_mem_cons.mpr ⟨ab_callV zZ_C_ok (zM_X6_grow l) (ab_in 745 (by decide +kernel) rfl) (ab_in 742 (by decide +kernel) rfl) (ab_in 744 (by decide +kernel) rfl) (ab_inS (List.mem_of_getElem? (i := 19) (by decide +kernel)) rfl) (ab_in 8 (by decide +kernel) rfl) (by unfold ab_yok; decide +kernel) ⟨rfl, rfl⟩ (by decide) zV_X6_grow, List.forall_mem_cons.mpr ⟨ab_callV zZ_C_ok (zM_X10_lookedAt l) (ab_in 662 (by decide +kernel) rfl) (ab_in 749 (by decide +kernel) rfl) (ab_in 660 (by decide +kernel) rfl) (ab_in 661 (by decide +kernel) rfl) (ab_in 7 (by decide +kernel) rfl) (by unfold ab_yok; decide +kernel) ⟨rfl, rfl⟩ (by decide) zV_X10_lookedAt, List.forall_mem_cons.mpr ⟨ab_callV zZ_C_ok (zM_X10_looksAt l) (ab_in 753 (by decide +kernel) rfl) (ab_in 750 (by decide +kernel) rfl) (ab_in 751 (by decide +kernel) rfl) (ab_in 752 (by decide +kernel) rfl) (ab_in 7 (by decide +kernel) rfl) (by unfold ab_yok; decide +kernel) ⟨rfl, rfl⟩ (by decide) zV_X10_looksAt, List.forall_mem_cons.mpr ⟨ab_callV zZ_C_ok (zM_X10_paceOf l) (ab_in 757 (by decide +kernel) rfl) (ab_in 754 (by decide +kernel) rfl) (ab_in 755 (by decide +kernel) rfl) (ab_in 756 (by decide +kernel) rfl) (ab_in 7 (by decide +kernel) rfl) (by unfold ab_yok; decide +kernel) ⟨rfl, rfl⟩ (by decide) zV_X10_paceOf, List.forall_mem_cons.mpr ⟨ab_callV zZ_C_ok (zM_X6_look l) (ab_in 762 (by decide +kernel) rfl) (ab_in 759 (by decide +kernel) rfl) (ab_in 761 (by decide +kernel) rfl) (ab_inS (List.mem_of_getElem? (i := 20) (by decide +kernel)) rfl) (ab_in 8 (by decide +kernel) rfl) (by unfold ab_yok; decide +kernel) ⟨rfl, rfl⟩ (by decide) zV_X6_look, List.forall_mem_nil _⟩⟩⟩⟩⟩) (List.forall_mem_cons.mpr ⟨ab_callS zZ_C_ok (zM_J7_fill_d0a16 l) (ab_in 740 (by decide +kernel) rfl) (ab_in 738 (by decide +kernel) rfl) (ab_in 739 (by decide +kernel) rfl) (ab_in 19 (by decide +kernel) rfl) (by unfold ab_yok; decide +kernel) ⟨rfl, rfl⟩ (by decide), List.forall_mem_nil _⟩) zE_X6_reckon
end
section
/-! small methods that change a little *)
-/
def zt_X0_begin : ab_T := fun as M N k => match as with
  | [.ref a, .long x] => a = 11 ∧ k none (ab_u M 11 (upd (M 11) 0 (-1))) (ab_u N 11 (vp_updL (N 11) 1 x))
  | _ => False
theorem zt_X0_begin_mono : ab_mono zt_X0_begin := fun as M N k k2 hk h => by
  unfold zt_X0_begin at h ⊢
  split at h
  · exact ⟨h.1, hk _ _ _ h.2⟩
  · exact h
theorem zV_X0_begin : ab_recv zw_C vwCl RX0 zt_X0_begin := fun as M N k h => by
  unfold zt_X0_begin at h
  split at h
  · obtain ⟨rfl, -⟩ := h
    exact ⟨_, _, _, _, _, _, rfl, rfl, rfl⟩
  · exact h.elim
def zt_X0_offer : ab_T := fun as M N k => match as with
  | [.ref a, .int i, .long x] => a = 11 ∧ k none (if x < N 11 1 then ab_u M 11 (upd (M 11) 0 i) else M) (if x < N 11 1 then ab_u N 11 (vp_updL (N 11) 1 x) else N)
  | _ => False
theorem zt_X0_offer_mono : ab_mono zt_X0_offer := fun as M N k k2 hk h => by
  unfold zt_X0_offer at h ⊢
  split at h
  · exact ⟨h.1, hk _ _ _ h.2⟩
  · exact h
theorem zV_X0_offer : ab_recv zw_C vwCl RX0 zt_X0_offer := fun as M N k h => by
  unfold zt_X0_offer at h
  split at h
  · obtain ⟨rfl, -⟩ := h
    exact ⟨_, _, _, _, _, _, rfl, rfl, rfl⟩
  · exact h.elim
def zt_X1_forget : ab_T := ab_m0 5 (fun _ _ => True) (fun M N o M2 N2 => o = none ∧ M2 = ab_u M 5 (upd (M 5) 4 (M 5 4 + 1)) ∧ N2 = N)
theorem zt_X1_forget_mono : ab_mono zt_X1_forget := ab_m0_mono _ _ _
theorem zV_X1_forget : ab_recv zw_C vwCl RX1 zt_X1_forget := ab_m0_v rfl rfl
def zt_X2_add : ab_T := ab_m2 1 (fun _ _ M _ => vp_in (M 1 4) 8) (fun i v M N o M2 N2 => o = some (.int (M 1 4)) ∧ M2 = ab_u (ab_u (ab_u M 13 (upd (M 13) (M 1 4).toNatClampNeg i)) 14 (upd (M 14) (M 1 4).toNatClampNeg v)) 1 (upd (M 1) 4 (M 1 4 + 1)) ∧ N2 = N)
theorem zt_X2_add_mono : ab_mono zt_X2_add := ab_m2_mono _ _ _
theorem zV_X2_add : ab_recv zw_C vwCl RX2 zt_X2_add := ab_m2_v rfl rfl
def zt_X5_add : ab_T := ab_m3 2 (fun _ _ _ M _ => vp_in (M 2 6) 5) (fun i e r M N o M2 N2 => o = some (.int (M 2 6)) ∧ M2 = ab_u (ab_u (ab_u (ab_u (ab_u (ab_u M 25 (upd (M 25) (M 2 6).toNatClampNeg i)) 26 (upd (M 26) (M 2 6).toNatClampNeg (e / 10))) 27 (upd (M 27) (M 2 6).toNatClampNeg (e - e / 10 * 10))) 28 (upd (M 28) (M 2 6).toNatClampNeg (r / 10))) 29 (upd (M 29) (M 2 6).toNatClampNeg (r - r / 10 * 10))) 2 (upd (M 2) 6 (M 2 6 + 1)) ∧ N2 = N)
theorem zt_X5_add_mono : ab_mono zt_X5_add := ab_m3_mono _ _ _
theorem zV_X5_add : ab_recv zw_C vwCl RX5 zt_X5_add := ab_m3_v rfl rfl
def zt_X3_nextLot : ab_T := ab_m0 8 (fun _ _ => True) (fun M N o M2 N2 => o = some (.long (N2 8 4)) ∧ M2 = M ∧ N2 = ab_u N 8 (vp_updL (N 8) 4 (N 8 4 * 48271 - N 8 4 * 48271 / 2147483647 * 2147483647)))
theorem zt_X3_nextLot_mono : ab_mono zt_X3_nextLot := ab_m0_mono _ _ _
theorem zV_X3_nextLot : ab_recv zw_C vwCl RX3 zt_X3_nextLot := ab_m0_v rfl rfl
def zt_X7_renew : ab_T := ab_m3 9 (fun s _ _ _ _ => ∃ q : Nat, q < 4 ∧ s = nI q) (fun s t n M N o M2 N2 => o = none ∧ N2 = N ∧ M2 = ab_u (ab_u (ab_u M 43 (upd (M 43) s.toNatClampNeg t)) 44 (upd (M 44) s.toNatClampNeg n)) 45 (fun j => if s.toNatClampNeg * 40 ≤ j ∧ j < s.toNatClampNeg * 40 + 40 then 0 else M 45 j))
theorem zt_X7_renew_mono : ab_mono zt_X7_renew := ab_m3_mono _ _ _
theorem zV_X7_renew : ab_recv zw_C vwCl RX7 zt_X7_renew := ab_m3_v rfl rfl
def zCp (x y n : Nat) (M : ab_M) : ab_M := ab_u M x (va_cpy (M y) (M x) 0 0 n)
def zBec (x y p q n : Nat) (M : ab_M) : ab_M :=
  let M6 := zCp (x + 5) (y + 5) 12 (zCp (x + 4) (y + 4) 5 (zCp (x + 3) (y + 3) n (zCp (x + 2) (y + 2) n (zCp (x + 1) (y + 1) n (zCp x y n M)))))
  ab_u M6 p (upd (M6 p) 7 (M6 q 7))
def zt_X2_become : ab_T := fun as M N k => match as with
  | [.ref a, .ref b, .int n] => (¬ n < 0 ∧ n.toNatClampNeg ≤ 8) ∧ ((a = 1 ∧ b = 12 ∧ k none (zBec 13 19 1 12 n.toNatClampNeg M) N) ∨ (a = 12 ∧ b = 1 ∧ k none (zBec 19 13 12 1 n.toNatClampNeg M) N))
  | _ => False
theorem zt_X2_become_mono : ab_mono zt_X2_become := fun as M N k k2 hk h => by
  unfold zt_X2_become at h ⊢
  split at h
  · obtain ⟨h1, ⟨a, b, h2⟩ | ⟨a, b, h2⟩⟩ := h
    · exact ⟨h1, Or.inl ⟨a, b, hk _ _ _ h2⟩⟩
    · exact ⟨h1, Or.inr ⟨a, b, hk _ _ _ h2⟩⟩
  · exact h
theorem zV_X2_become : ab_recv zw_C vwCl RX2 zt_X2_become := fun as M N k h => by
  unfold zt_X2_become at h
  split at h
  · obtain ⟨-, ⟨rfl, -, -⟩ | ⟨rfl, -, -⟩⟩ := h
    · exact ⟨_, _, _, _, _, _, rfl, rfl, rfl⟩
    · exact ⟨_, _, _, _, _, _, rfl, rfl, rfl⟩
  · exact h.elim
def zp_X0_begin : ab_P := [(0, .aload_n 0, 1, [0], []),
  (1, .iconst (-1), 2, [], [(-1)]),
  (2, .putfield 7, 5, [], []),
  (5, .aload_n 0, 6, [0], []),
  (6, .lload_n 1, 7, [1], []),
  (7, .putfield 13, 10, [], []),
  (10, .return_, 11, [], [])]
theorem zo_X0_begin : ab_ok cX0_begin zp_X0_begin = true := by decide +kernel
def zg_X0_begin : ab_G := (zw_C, zs_tab, zf_X0, [], [], [], [])
theorem zm_X0_begin : ab_MG zg_X0_begin := ab_MGof (List.forall_mem_nil _) (List.forall_mem_nil _)
abbrev zr_X0_begin (Q : ab_R) : ab_K := ab_Run zg_X0_begin zp_X0_begin none 3 Q
set_option maxRecDepth 20000 in
theorem zv_X0_begin_0 {Q : ab_R} {M : ab_M} {N : ab_N} (l1 : Int64) (h : let z1 : Nat → Int32 := upd (M 11) 0 (-1 : Int32); let y2 : Nat → Int64 := vp_updL (N 11) 1 l1; Q none (ab_u M 11 z1) (ab_u N 11 y2)) : zr_X0_begin Q 0 [some (.ref 11), some (.long l1), none] [] M N := ab_Run_s zm_X0_begin (sp := []) 9 h
theorem zE_X0_begin (as : List Value) (M : ab_M) (N : ab_N) (k : ab_R) (hT : zt_X0_begin as M N k) : ab_cs as ≤ 3 ∧ zr_X0_begin k 0 (ab_en as) [] M N := by
  unfold zt_X0_begin at hT
  split at hT
  · obtain ⟨rfl, hk⟩ := hT
    exact ⟨Nat.le_of_ble_eq_true rfl, zv_X0_begin_0 _ hk⟩
  · exact hT.elim
abbrev zR_X0_begin : Room := { frames := 0, cells := 0, slots := 0, locals := 0 }
set_option maxRecDepth 20000 in
theorem zM_X0_begin (l : Launch) : ab_Met l zw_C vwCl zZ_C yX0_begin cX0_begin 3 none zR_X0_begin zt_X0_begin := ab_ofRun (G := zg_X0_begin) (P := zp_X0_begin) rfl zo_X0_begin (by decide +kernel) zl_cl zl_lamC zf_X0_ok zs_tabOK ab_Cst_nil ab_Sta_nil (List.forall_mem_nil _) (List.forall_mem_nil _) zE_X0_begin
def zp_X0_offer : ab_P := [(0, .lload_n 2, 1, [2], []),
  (1, .aload_n 0, 2, [0], []),
  (2, .getfield 13, 5, [], []),
  (5, .lcmp, 6, [], []),
  (6, .ifCond .ge 13, 9, [19], []),
  (9, .aload_n 0, 10, [0], []),
  (10, .lload_n 2, 11, [2], []),
  (11, .putfield 13, 14, [], []),
  (14, .aload_n 0, 15, [0], []),
  (15, .iload_n 1, 16, [1], []),
  (16, .putfield 7, 19, [], []),
  (19, .return_, 20, [], [])]
theorem zo_X0_offer : ab_ok cX0_offer zp_X0_offer = true := by decide +kernel
def zg_X0_offer : ab_G := (zw_C, zs_tab, zf_X0, [], [], [], [])
theorem zm_X0_offer : ab_MG zg_X0_offer := ab_MGof (List.forall_mem_nil _) (List.forall_mem_nil _)
abbrev zr_X0_offer (Q : ab_R) : ab_K := ab_Run zg_X0_offer zp_X0_offer none 4 Q
set_option maxRecDepth 20000 in
theorem zv_X0_offer_0 {Q : ab_R} {M : ab_M} {N : ab_N} (l1 : Int32) (l2 : Int64) (h : (0 ≤ (lg_cmp l2 (N 11 1)) → Q none M N) ∧ (¬ (0 ≤ (lg_cmp l2 (N 11 1))) → let y1 : Nat → Int64 := vp_updL (N 11) 1 l2; let z2 : Nat → Int32 := upd (M 11) 0 l1; Q none (ab_u M 11 z2) (ab_u N 11 y1))) : zr_X0_offer Q 0 [some (.ref 11), some (.int l1), some (.long l2), none] [] M N := ab_Run_s zm_X0_offer (sp := []) 14 h
theorem zE_X0_offer (as : List Value) (M : ab_M) (N : ab_N) (k : ab_R) (hT : zt_X0_offer as M N k) : ab_cs as ≤ 4 ∧ zr_X0_offer k 0 (ab_en as) [] M N := by
  unfold zt_X0_offer at hT
  split at hT
  · obtain ⟨rfl, hk⟩ := hT
    refine ⟨Nat.le_of_ble_eq_true rfl, zv_X0_offer_0 _ _ ⟨fun c => ?_, fun c => ?_⟩⟩
    · have c2 := (lg_cmp_ge _ _).mp c
      rw [if_neg (Int64.not_lt.mpr c2), if_neg (Int64.not_lt.mpr c2)] at hk
      exact hk
    · have c2 := Int64.not_le.mp (fun z => c ((lg_cmp_ge _ _).mpr z))
      rw [if_pos c2, if_pos c2] at hk
      exact hk
  · exact hT.elim
abbrev zR_X0_offer : Room := { frames := 0, cells := 0, slots := 0, locals := 0 }
set_option maxRecDepth 20000 in
theorem zM_X0_offer (l : Launch) : ab_Met l zw_C vwCl zZ_C yX0_offer cX0_offer 4 none zR_X0_offer zt_X0_offer := ab_ofRun (G := zg_X0_offer) (P := zp_X0_offer) rfl zo_X0_offer (by decide +kernel) zl_cl zl_lamC zf_X0_ok zs_tabOK ab_Cst_nil ab_Sta_nil (List.forall_mem_nil _) (List.forall_mem_nil _) zE_X0_offer
def zp_X1_forget : ab_P := [(0, .aload_n 0, 1, [0], []),
  (1, .dup, 2, [], []),
  (2, .getfield 18, 5, [], []),
  (5, .iconst 1, 6, [], [1]),
  (6, .iadd, 7, [], []),
  (7, .putfield 18, 10, [], []),
  (10, .return_, 11, [], [])]
theorem zo_X1_forget : ab_ok cX1_forget zp_X1_forget = true := by decide +kernel
def zg_X1_forget : ab_G := (zw_C, zs_tab, zf_X1, [], [(63, 52)], [], [])
theorem zm_X1_forget : ab_MG zg_X1_forget := ab_MGof (List.forall_mem_nil _) (List.forall_mem_nil _)
abbrev zr_X1_forget (Q : ab_R) : ab_K := ab_Run zg_X1_forget zp_X1_forget none 1 Q
set_option maxRecDepth 20000 in
theorem zv_X1_forget_0 {Q : ab_R} {M : ab_M} {N : ab_N}  (h : let z1 : Nat → Int32 := upd (M 5) 4 ((M 5 4) + (1 : Int32)); Q none (ab_u M 5 z1) N) : zr_X1_forget Q 0 [some (.ref 5)] [] M N := ab_Run_s zm_X1_forget (sp := []) 9 h
theorem zE_X1_forget (as : List Value) (M : ab_M) (N : ab_N) (k : ab_R) (hT : zt_X1_forget as M N k) : ab_cs as ≤ 1 ∧ zr_X1_forget k 0 (ab_en as) [] M N := by
  obtain ⟨rfl, -, hk⟩ := ab_m0_e hT
  exact ⟨Nat.le_of_ble_eq_true rfl, zv_X1_forget_0 (hk _ _ _ ⟨rfl, rfl, rfl⟩)⟩
abbrev zR_X1_forget : Room := { frames := 0, cells := 0, slots := 0, locals := 0 }
set_option maxRecDepth 20000 in
theorem zM_X1_forget (l : Launch) : ab_Met l zw_C vwCl zZ_C yX1_forget cX1_forget 1 none zR_X1_forget zt_X1_forget := ab_ofRun (G := zg_X1_forget) (P := zp_X1_forget) rfl zo_X1_forget (by decide +kernel) zl_cl zl_lamC zf_X1_ok zs_tabOK ab_Cst_nil zs_X1_ok (List.forall_mem_nil _) (List.forall_mem_nil _) zE_X1_forget
def zp_X2_add : ab_P := [(0, .aload_n 0, 1, [0], []),
  (1, .getfield 24, 4, [], []),
  (4, .istore_n 3, 5, [3], []),
  (5, .aload_n 0, 6, [0], []),
  (6, .getfield 9, 9, [], []),
  (9, .iload_n 3, 10, [3], []),
  (10, .iload_n 1, 11, [1], []),
  (11, .iastore, 12, [], []),
  (12, .aload_n 0, 13, [0], []),
  (13, .getfield 15, 16, [], []),
  (16, .iload_n 3, 17, [3], []),
  (17, .iload_n 2, 18, [2], []),
  (18, .iastore, 19, [], []),
  (19, .aload_n 0, 20, [0], []),
  (20, .dup, 21, [], []),
  (21, .getfield 24, 24, [], []),
  (24, .iconst 1, 25, [], [1]),
  (25, .iadd, 26, [], []),
  (26, .putfield 24, 29, [], []),
  (29, .iload_n 3, 30, [3], []),
  (30, .ireturn, 31, [], [])]
theorem zo_X2_add : ab_ok cX2_add zp_X2_add = true := by decide +kernel
def zg_X2_add : ab_G := (zw_C, zs_tab, zf_X2, [], [], [], [])
theorem zm_X2_add : ab_MG zg_X2_add := ab_MGof (List.forall_mem_nil _) (List.forall_mem_nil _)
abbrev zr_X2_add (Q : ab_R) : ab_K := ab_Run zg_X2_add zp_X2_add (some .int) 4 Q
set_option maxRecDepth 20000 in
theorem zv_X2_add_0 {Q : ab_R} {M : ab_M} {N : ab_N} (l1 : Int32) (l2 : Int32) (h : vp_in (M 1 4) 8 ∧ (let z1 : Nat → Int32 := upd (M 13) (M 1 4).toNatClampNeg l1; vp_in (M 1 4) 8 ∧ (let z2 : Nat → Int32 := upd (M 14) (M 1 4).toNatClampNeg l2; let z3 : Nat → Int32 := upd (M 1) 4 ((M 1 4) + (1 : Int32)); Q (some (.int (M 1 4))) (ab_u (ab_u (ab_u M 13 z1) 14 z2) 1 z3) N))) : zr_X2_add Q 0 [some (.ref 1), some (.int l1), some (.int l2)] [] M N := ab_Run_s zm_X2_add (sp := []) 23 h
theorem zE_X2_add (as : List Value) (M : ab_M) (N : ab_N) (k : ab_R) (hT : zt_X2_add as M N k) : ab_cs as ≤ 4 ∧ zr_X2_add k 0 (ab_en as) [] M N := by
  obtain ⟨i, v, rfl, hp, hk⟩ := ab_m2_e hT
  exact ⟨Nat.le_of_ble_eq_true rfl, zv_X2_add_0 _ _ ⟨hp, hp, hk _ _ _ ⟨rfl, rfl, rfl⟩⟩⟩
abbrev zR_X2_add : Room := { frames := 0, cells := 0, slots := 0, locals := 0 }
set_option maxRecDepth 20000 in
theorem zM_X2_add (l : Launch) : ab_Met l zw_C vwCl zZ_C yX2_add cX2_add 4 (some .int) zR_X2_add zt_X2_add := ab_ofRun (G := zg_X2_add) (P := zp_X2_add) rfl zo_X2_add (by decide +kernel) zl_cl zl_lamC zf_X2_ok zs_tabOK ab_Cst_nil ab_Sta_nil (List.forall_mem_nil _) (List.forall_mem_nil _) zE_X2_add
def zp_X5_add : ab_P := [(0, .aload_n 0, 1, [0], []),
  (1, .getfield 30, 4, [], []),
  (4, .istore 4, 6, [], []),
  (6, .aload_n 0, 7, [0], []),
  (7, .getfield 9, 10, [], []),
  (10, .iload 4, 12, [], []),
  (12, .iload_n 1, 13, [1], []),
  (13, .iastore, 14, [], []),
  (14, .aload_n 0, 15, [0], []),
  (15, .getfield 15, 18, [], []),
  (18, .iload 4, 20, [], []),
  (20, .iload_n 2, 21, [2], []),
  (21, .bipush 10, 23, [], [10]),
  (23, .idiv, 24, [], []),
  (24, .iastore, 25, [], []),
  (25, .aload_n 0, 26, [0], []),
  (26, .getfield 18, 29, [], []),
  (29, .iload 4, 31, [], []),
  (31, .iload_n 2, 32, [2], []),
  (32, .bipush 10, 34, [], [10]),
  (34, .irem, 35, [], []),
  (35, .iastore, 36, [], []),
  (36, .aload_n 0, 37, [0], []),
  (37, .getfield 21, 40, [], []),
  (40, .iload 4, 42, [], []),
  (42, .iload_n 3, 43, [3], []),
  (43, .bipush 10, 45, [], [10]),
  (45, .idiv, 46, [], []),
  (46, .iastore, 47, [], []),
  (47, .aload_n 0, 48, [0], []),
  (48, .getfield 24, 51, [], []),
  (51, .iload 4, 53, [], []),
  (53, .iload_n 3, 54, [3], []),
  (54, .bipush 10, 56, [], [10]),
  (56, .irem, 57, [], []),
  (57, .iastore, 58, [], []),
  (58, .aload_n 0, 59, [0], []),
  (59, .dup, 60, [], []),
  (60, .getfield 30, 63, [], []),
  (63, .iconst 1, 64, [], [1]),
  (64, .iadd, 65, [], []),
  (65, .putfield 30, 68, [], []),
  (68, .iload 4, 70, [], []),
  (70, .ireturn, 71, [], [])]
theorem zo_X5_add : ab_ok cX5_add zp_X5_add = true := by decide +kernel
def zg_X5_add : ab_G := (zw_C, zs_tab, zf_X5, [], [], [], [])
theorem zm_X5_add : ab_MG zg_X5_add := ab_MGof (List.forall_mem_nil _) (List.forall_mem_nil _)
abbrev zr_X5_add (Q : ab_R) : ab_K := ab_Run zg_X5_add zp_X5_add (some .int) 5 Q
set_option maxRecDepth 20000 in
theorem zv_X5_add_0 {Q : ab_R} {M : ab_M} {N : ab_N} (l1 : Int32) (l2 : Int32) (l3 : Int32) (h : vp_in (M 2 6) 5 ∧ (let z1 : Nat → Int32 := upd (M 25) (M 2 6).toNatClampNeg l1; ¬ (10 : Int32) = 0 ∧ (vp_in (M 2 6) 5 ∧ (let z2 : Nat → Int32 := upd (M 26) (M 2 6).toNatClampNeg (l2 / (10 : Int32)); ¬ (10 : Int32) = 0 ∧ (vp_in (M 2 6) 5 ∧ (let z3 : Nat → Int32 := upd (M 27) (M 2 6).toNatClampNeg (l2 - l2 / (10 : Int32) * (10 : Int32)); ¬ (10 : Int32) = 0 ∧ (vp_in (M 2 6) 5 ∧ (let z4 : Nat → Int32 := upd (M 28) (M 2 6).toNatClampNeg (l3 / (10 : Int32)); ¬ (10 : Int32) = 0 ∧ (vp_in (M 2 6) 5 ∧ (let z5 : Nat → Int32 := upd (M 29) (M 2 6).toNatClampNeg (l3 - l3 / (10 : Int32) * (10 : Int32)); let z6 : Nat → Int32 := upd (M 2) 6 ((M 2 6) + (1 : Int32)); Q (some (.int (M 2 6))) (ab_u (ab_u (ab_u (ab_u (ab_u (ab_u M 25 z1) 26 z2) 27 z3) 28 z4) 29 z5) 2 z6) N)))))))))) : zr_X5_add Q 0 [some (.ref 2), some (.int l1), some (.int l2), some (.int l3)] [] M N := ab_Run_s zm_X5_add (sp := []) 46 h
theorem zE_X5_add (as : List Value) (M : ab_M) (N : ab_N) (k : ab_R) (hT : zt_X5_add as M N k) : ab_cs as ≤ 5 ∧ zr_X5_add k 0 (ab_en as) [] M N := by
  obtain ⟨i, e, r, rfl, hp, hk⟩ := ab_m3_e hT
  exact ⟨Nat.le_of_ble_eq_true rfl, zv_X5_add_0 _ _ _ ⟨hp, by decide, hp, by decide, hp, by decide, hp, by decide, hp, hk _ _ _ ⟨rfl, rfl, rfl⟩⟩⟩
abbrev zR_X5_add : Room := { frames := 0, cells := 0, slots := 0, locals := 0 }
set_option maxRecDepth 20000 in
theorem zM_X5_add (l : Launch) : ab_Met l zw_C vwCl zZ_C yX5_add cX5_add 5 (some .int) zR_X5_add zt_X5_add := ab_ofRun (G := zg_X5_add) (P := zp_X5_add) rfl zo_X5_add (by decide +kernel) zl_cl zl_lamC zf_X5_ok zs_tabOK ab_Cst_nil ab_Sta_nil (List.forall_mem_nil _) (List.forall_mem_nil _) zE_X5_add
def zp_X3_nextLot : ab_P := [(0, .aload_n 0, 1, [0], []),
  (1, .aload_n 0, 2, [0], []),
  (2, .getfield 33, 5, [], []),
  (5, .ldc2_w 91, 8, [], []),
  (8, .lmul, 9, [], []),
  (9, .ldc2_w 93, 12, [], []),
  (12, .lrem, 13, [], []),
  (13, .putfield 33, 16, [], []),
  (16, .aload_n 0, 17, [0], []),
  (17, .getfield 33, 20, [], []),
  (20, .lreturn, 21, [], [])]
theorem zo_X3_nextLot : ab_ok cX3_nextLot zp_X3_nextLot = true := by decide +kernel
def zg_X3_nextLot : ab_G := (zw_C, zs_tab, zf_X3, zc_X3, [], [], [])
theorem zm_X3_nextLot : ab_MG zg_X3_nextLot := ab_MGof (List.forall_mem_nil _) (List.forall_mem_nil _)
abbrev zr_X3_nextLot (Q : ab_R) : ab_K := ab_Run zg_X3_nextLot zp_X3_nextLot (some .long) 1 Q
set_option maxRecDepth 20000 in
theorem zv_X3_nextLot_0 {Q : ab_R} {M : ab_M} {N : ab_N}  (h : ¬ (2147483647 : Int64) = 0 ∧ (let y1 : Nat → Int64 := vp_updL (N 8) 4 (((N 8 4) * (48271 : Int64)) - ((N 8 4) * (48271 : Int64)) / (2147483647 : Int64) * (2147483647 : Int64)); Q (some (.long (y1 4))) M (ab_u N 8 y1))) : zr_X3_nextLot Q 0 [some (.ref 8)] [] M N := ab_Run_s zm_X3_nextLot (sp := []) 13 h
theorem zE_X3_nextLot (as : List Value) (M : ab_M) (N : ab_N) (k : ab_R) (hT : zt_X3_nextLot as M N k) : ab_cs as ≤ 1 ∧ zr_X3_nextLot k 0 (ab_en as) [] M N := by
  obtain ⟨rfl, -, hk⟩ := ab_m0_e hT
  exact ⟨Nat.le_of_ble_eq_true rfl, zv_X3_nextLot_0 ⟨by decide, hk _ _ _ ⟨rfl, rfl, rfl⟩⟩⟩
abbrev zR_X3_nextLot : Room := { frames := 0, cells := 0, slots := 0, locals := 0 }
set_option maxRecDepth 20000 in
theorem zM_X3_nextLot (l : Launch) : ab_Met l zw_C vwCl zZ_C yX3_nextLot cX3_nextLot 1 (some .long) zR_X3_nextLot zt_X3_nextLot := ab_ofRun (G := zg_X3_nextLot) (P := zp_X3_nextLot) rfl zo_X3_nextLot (by decide +kernel) zl_cl zl_lamC zf_X3_ok zs_tabOK zc_X3_ok ab_Sta_nil (List.forall_mem_nil _) (List.forall_mem_nil _) zE_X3_nextLot
def zt_X6_told : ab_T := ab_pp (fun as M N => match as with
  | [.ref r1, .int w] => (match Nat.beq r1 7 with | true => some ((vp_in ((M 17) 1) 7), (.long (if w = 0 then N 7 4 else if w = 1 then N 41 ((M 17) 1).toNatClampNeg else N 7 5))) | false => none)
  | _ => none)
theorem zI_X6_told {as : List Value} {M : ab_M} {N : ab_N} {k : ab_R} (hk : zt_X6_told as M N k) : ∃ (w : Int32), as = [.ref 7, .int w] ∧ (vp_in ((M 17) 1) 7) ∧ k (some (.long (if w = 0 then N 7 4 else if w = 1 then N 41 ((M 17) 1).toNatClampNeg else N 7 5))) M N := by
  unfold zt_X6_told ab_pp at hk
  dsimp only at hk
  split at hk
  · rename_i v hv
    split at hv
    · split at hv
      · rename_i hb0
        cases hv
        rw [Nat.eq_of_beq_eq_true hb0]
        exact ⟨_, rfl, hk⟩
      · cases hv
    · cases hv
  · exact hk.elim
def zp_X6_told : ab_P := [(0, .iload_n 1, 1, [1], []),
  (1, .ifCond .ne 10, 4, [11], []),
  (4, .aload_n 0, 5, [0], []),
  (5, .getfield 27, 8, [], []),
  (8, .goto 29, 11, [37], []),
  (11, .iload_n 1, 12, [1], []),
  (12, .iconst 1, 13, [], [1]),
  (13, .if_icmp .ne 20, 16, [33], []),
  (16, .aload_n 0, 17, [0], []),
  (17, .getfield 9, 20, [], []),
  (20, .aload_n 0, 21, [0], []),
  (21, .getfield 15, 24, [], []),
  (24, .getfield 31, 27, [], []),
  (27, .iconst 1, 28, [], [1]),
  (28, .iaload, 29, [], []),
  (29, .laload, 30, [], []),
  (30, .goto 7, 33, [37], []),
  (33, .aload_n 0, 34, [0], []),
  (34, .getfield 37, 37, [], []),
  (37, .lreturn, 38, [], [])]
theorem zo_X6_told : ab_ok cX6_told zp_X6_told = true := by decide +kernel
def zg_X6_told : ab_G := (zw_C, zs_tab, zf_X6, zc_X6, [], [], [])
theorem zm_X6_told : ab_MG zg_X6_told := ab_MGof (List.forall_mem_nil _) (List.forall_mem_nil _)
abbrev zr_X6_told (Q : ab_R) : ab_K := ab_Run zg_X6_told zp_X6_told (some .long) 2 Q
set_option maxRecDepth 20000 in
theorem zv_X6_told_0 {Q : ab_R} {M : ab_M} {N : ab_N} (l1 : Int32) (h : (l1 = 0 → Q (some (.long (N 7 4))) M N) ∧ (¬ (l1 = 0) → (l1 = (1 : Int32) → vp_in (1 : Int32) 5 ∧ (vp_in (M 17 1) 7 ∧ (Q (some (.long (N 41 (M 17 1).toNatClampNeg))) M N))) ∧ (¬ (l1 = (1 : Int32)) → Q (some (.long (N 7 5))) M N))) : zr_X6_told Q 0 [some (.ref 7), some (.int l1)] [] M N := ab_Run_s zm_X6_told (sp := []) 22 h
theorem zH_X6_told (w : Int32) {M : ab_M} {N : ab_N} {k : ab_R} (hp : vp_in ((M 17) 1) 7) (hk : k (some (.long (if w = 0 then N 7 4 else if w = 1 then N 41 ((M 17) 1).toNatClampNeg else N 7 5))) M N) : zr_X6_told k 0 [some (.ref 7), some (.int w)] [] M N := by
  refine zv_X6_told_0 _ ⟨fun c => ?_, fun c => ⟨fun c2 => ⟨ab_vpk (by decide), hp, ?_⟩, fun c2 => ?_⟩⟩
  · rw [if_pos c] at hk; exact hk
  · rw [if_neg c, if_pos c2] at hk; exact hk
  · rw [if_neg c, if_neg c2] at hk; exact hk
abbrev zR_X6_told : Room := { frames := 0, cells := 0, slots := 0, locals := 0 }
theorem zV_X6_told : ab_recv zw_C vwCl RX6 zt_X6_told := fun as M N k h => by
  obtain ⟨_, rfl, -⟩ := zI_X6_told h
  exact ⟨_, _, _, _, _, _, rfl, rfl, rfl⟩
theorem zE_X6_told (as : List Value) (M : ab_M) (N : ab_N) (k : ab_R) (hk : zt_X6_told as M N k) : ab_cs as ≤ 2 ∧ zr_X6_told k 0 (ab_en as) [] M N := by
  obtain ⟨w, rfl, hp, hk2⟩ := zI_X6_told hk
  exact ⟨Nat.le_of_ble_eq_true rfl, zH_X6_told w hp hk2⟩
set_option maxRecDepth 20000 in
theorem zM_X6_told (l : Launch) : ab_Met l zw_C vwCl zZ_C yX6_told cX6_told 2 (some .long) zR_X6_told zt_X6_told := ab_ofRun (G := zg_X6_told) (P := zp_X6_told) rfl zo_X6_told (by decide +kernel) zl_cl zl_lamC zf_X6_ok zs_tabOK zc_X6_ok ab_Sta_nil (List.forall_mem_nil _) (List.forall_mem_nil _) zE_X6_told
def zp_X7_renew : ab_P := [(0, .aload_n 0, 1, [0], []),
  (1, .getfield 9, 4, [], []),
  (4, .iload_n 1, 5, [1], []),
  (5, .iload_n 2, 6, [2], []),
  (6, .iastore, 7, [], []),
  (7, .aload_n 0, 8, [0], []),
  (8, .getfield 15, 11, [], []),
  (11, .iload_n 1, 12, [1], []),
  (12, .iload_n 3, 13, [3], []),
  (13, .iastore, 14, [], []),
  (14, .iconst 0, 15, [], [0]),
  (15, .istore 4, 17, [], []),
  (17, .iload 4, 19, [], []),
  (19, .bipush 40, 21, [], [40]),
  (21, .if_icmp .ge 22, 24, [43], []),
  (24, .aload_n 0, 25, [0], []),
  (25, .getfield 18, 28, [], []),
  (28, .iload_n 1, 29, [1], []),
  (29, .bipush 40, 31, [], [40]),
  (31, .imul, 32, [], []),
  (32, .iload 4, 34, [], []),
  (34, .iadd, 35, [], []),
  (35, .iconst 0, 36, [], [0]),
  (36, .iastore, 37, [], []),
  (37, .iinc 4 1, 40, [], [1]),
  (40, .goto (-23), 43, [17], []),
  (43, .return_, 44, [], [])]
theorem zo_X7_renew : ab_ok cX7_renew zp_X7_renew = true := by decide +kernel
def zg_X7_renew : ab_G := (zw_C, zs_tab, zf_X7, [], [], [], [])
theorem zm_X7_renew : ab_MG zg_X7_renew := ab_MGof (List.forall_mem_nil _) (List.forall_mem_nil _)
abbrev zr_X7_renew (Q : ab_R) : ab_K := ab_Run zg_X7_renew zp_X7_renew none 5 Q
set_option maxRecDepth 20000 in
theorem zv_X7_renew_0 {Q : ab_R} {M : ab_M} {N : ab_N} (l1 : Int32) (l2 : Int32) (l3 : Int32) (h : vp_in l1 4 ∧ (let z1 : Nat → Int32 := upd (M 43) l1.toNatClampNeg l2; vp_in l1 4 ∧ (let z2 : Nat → Int32 := upd (M 44) l1.toNatClampNeg l3; zr_X7_renew Q 17 [some (.ref 9), some (.int l1), none, none, some (.int (0 : Int32))] [] (ab_u (ab_u M 43 z1) 44 z2) N))) : zr_X7_renew Q 0 [some (.ref 9), some (.int l1), some (.int l2), some (.int l3)] [] M N := ab_Run_s zm_X7_renew (sp := [(17, [true, true, false, false, true])]) 29 h
set_option maxRecDepth 20000 in
theorem zv_X7_renew_17 {Q : ab_R} {M : ab_M} {N : ab_N} (l1 : Int32) (l4 : Int32) (h : ((40 : Int32) ≤ l4 → Q none M N) ∧ (¬ ((40 : Int32) ≤ l4) → vp_in ((l1 * (40 : Int32)) + l4) 160 ∧ (let z1 : Nat → Int32 := upd (M 45) ((l1 * (40 : Int32)) + l4).toNatClampNeg (0 : Int32); zr_X7_renew Q 17 [some (.ref 9), some (.int l1), none, none, some (.int (l4 + (1 : Int32)))] [] (ab_u M 45 z1) N))) : zr_X7_renew Q 17 [some (.ref 9), some (.int l1), none, none, some (.int l4)] [] M N := ab_Run_s zm_X7_renew (sp := [(17, [true, true, false, false, true])]) 29 h
theorem zL_X7_renew {Q : ab_R} {N : ab_N} (M0 : ab_M) (q : Nat) (hq : q < 4) (hk : Q none (ab_u M0 45 (fun j => if q * 40 ≤ j ∧ j < q * 40 + 40 then 0 else M0 45 j)) N) : ∀ (n i : Nat) (f : Nat → Int32), i + n = 40 → (∀ j, f j = if q * 40 ≤ j ∧ j < q * 40 + i then 0 else M0 45 j) → zr_X7_renew Q 17 [some (.ref 9), some (.int (nI q)), none, none, some (.int (nI i))] [] (ab_u M0 45 f) N := by
  intro n
  induction n with
  | zero =>
    intro i f hi hf
    have ei : i = 40 := by omega
    subst ei
    refine zv_X7_renew_17 _ _ ⟨fun _ => ?_, fun c => absurd (show nI 40 ≤ nI 40 from nI_le (by omega) (by omega)) c⟩
    rw [show f = fun j => if q * 40 ≤ j ∧ j < q * 40 + 40 then 0 else M0 45 j from funext hf]
    exact hk
  | succ n ih =>
    intro i f hi hf
    refine zv_X7_renew_17 _ _ ⟨fun c => absurd c (show ¬ nI 40 ≤ nI i from nI_ge (by omega) (by omega)), fun _ => ?_⟩
    have ei : nI q * 40 + nI i = nI (q * 40 + i) := by rw [zN_mul q 40 40, nI_add]
    rw [ei, nI_1]
    refine ⟨nI_in_ (by omega), ?_⟩
    intro z1
    have e1 : z1 = upd f (q * 40 + i) 0 := by
      show upd (ab_u M0 45 f 45) _ _ = _
      rw [ab_u_eq, nI_clamp (show q * 40 + i < 2 ^ 31 by omega)]
    clear_value z1
    subst e1
    rw [ab_u_u]
    refine ih (i + 1) _ (by omega) (fun j => ?_)
    by_cases e : j = q * 40 + i
    · rw [e, upd_eq, if_pos (by omega)]
    · rw [upd_ne _ _ e, hf j]
      by_cases c : q * 40 ≤ j ∧ j < q * 40 + i
      · rw [if_pos c, if_pos (by omega)]
      · rw [if_neg c, if_neg (by omega)]
theorem zE_X7_renew (as : List Value) (M : ab_M) (N : ab_N) (k : ab_R) (hT : zt_X7_renew as M N k) : ab_cs as ≤ 5 ∧ zr_X7_renew k 0 (ab_en as) [] M N := by
  obtain ⟨s, t, n, rfl, ⟨q, hq, rfl⟩, hk⟩ := ab_m3_e hT
  rw [nI_clamp (show q < 2 ^ 31 by omega)] at hk
  refine ⟨Nat.le_of_ble_eq_true rfl, zv_X7_renew_0 _ _ _ ⟨nI_in_ hq, ?_⟩⟩
  rw [nI_clamp (show q < 2 ^ 31 by omega)]
  refine ⟨nI_in_ hq, ?_⟩
  intro z2
  have := zL_X7_renew (Q := k) (N := N) (ab_u (ab_u M 43 (upd (M 43) q t)) 44 z2) q hq (hk _ _ _ ⟨rfl, rfl, rfl⟩) 40 0 (M 45) (by omega) (fun j => by rw [if_neg (by omega), ab_u_ne _ _ (by decide), ab_u_ne _ _ (by decide)])
  have e : ab_u (ab_u (ab_u M 43 (upd (M 43) q t)) 44 z2) 45 (M 45) = ab_u (ab_u M 43 (upd (M 43) q t)) 44 z2 := by
    funext c
    by_cases e : c = 45
    · rw [e, ab_u_eq, ab_u_ne _ _ (by decide), ab_u_ne _ _ (by decide)]
    · rw [ab_u_ne _ _ e]
  rw [e] at this
  exact this
abbrev zR_X7_renew : Room := { frames := 0, cells := 0, slots := 0, locals := 0 }
set_option maxRecDepth 20000 in
theorem zM_X7_renew (l : Launch) : ab_Met l zw_C vwCl zZ_C yX7_renew cX7_renew 5 none zR_X7_renew zt_X7_renew := ab_ofRun (G := zg_X7_renew) (P := zp_X7_renew) rfl zo_X7_renew (by decide +kernel) zl_cl zl_lamC zf_X7_ok zs_tabOK ab_Cst_nil ab_Sta_nil (List.forall_mem_nil _) (List.forall_mem_nil _) zE_X7_renew
def zp_X2_become : ab_P := [(0, .aload_n 1, 1, [1], []),
  (1, .getfield 9, 4, [], []),
  (4, .iconst 0, 5, [], [0]),
  (5, .aload_n 0, 6, [0], []),
  (6, .getfield 9, 9, [], []),
  (9, .iconst 0, 10, [], [0]),
  (10, .iload_n 2, 11, [2], []),
  (11, .invokestatic 37, 14, [], []),
  (14, .aload_n 1, 15, [1], []),
  (15, .getfield 15, 18, [], []),
  (18, .iconst 0, 19, [], [0]),
  (19, .aload_n 0, 20, [0], []),
  (20, .getfield 15, 23, [], []),
  (23, .iconst 0, 24, [], [0]),
  (24, .iload_n 2, 25, [2], []),
  (25, .invokestatic 37, 28, [], []),
  (28, .aload_n 1, 29, [1], []),
  (29, .getfield 18, 32, [], []),
  (32, .iconst 0, 33, [], [0]),
  (33, .aload_n 0, 34, [0], []),
  (34, .getfield 18, 37, [], []),
  (37, .iconst 0, 38, [], [0]),
  (38, .iload_n 2, 39, [2], []),
  (39, .invokestatic 37, 42, [], []),
  (42, .aload_n 1, 43, [1], []),
  (43, .getfield 21, 46, [], []),
  (46, .iconst 0, 47, [], [0]),
  (47, .aload_n 0, 48, [0], []),
  (48, .getfield 21, 51, [], []),
  (51, .iconst 0, 52, [], [0]),
  (52, .iload_n 2, 53, [2], []),
  (53, .invokestatic 37, 56, [], []),
  (56, .aload_n 1, 57, [1], []),
  (57, .getfield 28, 60, [], []),
  (60, .iconst 0, 61, [], [0]),
  (61, .aload_n 0, 62, [0], []),
  (62, .getfield 28, 65, [], []),
  (65, .iconst 0, 66, [], [0]),
  (66, .iconst 5, 67, [], [5]),
  (67, .invokestatic 37, 70, [], []),
  (70, .aload_n 1, 71, [1], []),
  (71, .getfield 31, 74, [], []),
  (74, .iconst 0, 75, [], [0]),
  (75, .aload_n 0, 76, [0], []),
  (76, .getfield 31, 79, [], []),
  (79, .iconst 0, 80, [], [0]),
  (80, .bipush 12, 82, [], [12]),
  (82, .invokestatic 37, 85, [], []),
  (85, .aload_n 0, 86, [0], []),
  (86, .aload_n 1, 87, [1], []),
  (87, .getfield 34, 90, [], []),
  (90, .putfield 34, 93, [], []),
  (93, .return_, 94, [], [])]
theorem zo_X2_become : ab_ok cX2_become zp_X2_become = true := by decide +kernel
def zg_X2_become : ab_G := (zw_C, zs_tab, zf_X2, [], [], [], [(37, 5, zt_acopy zw_C)])
theorem zm_X2_become : ab_MG zg_X2_become := ab_MGof (List.forall_mem_nil _) (List.forall_mem_cons.mpr ⟨zt_acopy_mono _, List.forall_mem_nil _⟩)
abbrev zr_X2_become (Q : ab_R) : ab_K := ab_Run zg_X2_become zp_X2_become none 3 Q
set_option maxRecDepth 20000 in
theorem zv_X2_become_0 {Q : ab_R} {M : ab_M} {N : ab_N} (l2 : Int32) (h : zt_acopy zw_C [.ref 19, .int (0 : Int32), .ref 13, .int (0 : Int32), .int l2] M N (fun r M2 N2 => zr_X2_become Q 14 [some (.ref 1), some (.ref 12), some (.int l2)] (ab_ol r []) M2 N2)) : zr_X2_become Q 0 [some (.ref 1), some (.ref 12), some (.int l2)] [] M N := ab_Run_s zm_X2_become (sp := [(14, [true, true, true]), (28, [true, true, true]), (42, [true, true, true]), (56, [true, true, false]), (70, [true, true, false]), (85, [true, true, false])]) 55 h
set_option maxRecDepth 20000 in
theorem zv_X2_become_14 {Q : ab_R} {M : ab_M} {N : ab_N} (l2 : Int32) (h : zt_acopy zw_C [.ref 20, .int (0 : Int32), .ref 14, .int (0 : Int32), .int l2] M N (fun r M2 N2 => zr_X2_become Q 28 [some (.ref 1), some (.ref 12), some (.int l2)] (ab_ol r []) M2 N2)) : zr_X2_become Q 14 [some (.ref 1), some (.ref 12), some (.int l2)] [] M N := ab_Run_s zm_X2_become (sp := [(14, [true, true, true]), (28, [true, true, true]), (42, [true, true, true]), (56, [true, true, false]), (70, [true, true, false]), (85, [true, true, false])]) 55 h
set_option maxRecDepth 20000 in
theorem zv_X2_become_28 {Q : ab_R} {M : ab_M} {N : ab_N} (l2 : Int32) (h : zt_acopy zw_C [.ref 21, .int (0 : Int32), .ref 15, .int (0 : Int32), .int l2] M N (fun r M2 N2 => zr_X2_become Q 42 [some (.ref 1), some (.ref 12), some (.int l2)] (ab_ol r []) M2 N2)) : zr_X2_become Q 28 [some (.ref 1), some (.ref 12), some (.int l2)] [] M N := ab_Run_s zm_X2_become (sp := [(14, [true, true, true]), (28, [true, true, true]), (42, [true, true, true]), (56, [true, true, false]), (70, [true, true, false]), (85, [true, true, false])]) 55 h
set_option maxRecDepth 20000 in
theorem zv_X2_become_42 {Q : ab_R} {M : ab_M} {N : ab_N} (l2 : Int32) (h : zt_acopy zw_C [.ref 22, .int (0 : Int32), .ref 16, .int (0 : Int32), .int l2] M N (fun r M2 N2 => zr_X2_become Q 56 [some (.ref 1), some (.ref 12), none] (ab_ol r []) M2 N2)) : zr_X2_become Q 42 [some (.ref 1), some (.ref 12), some (.int l2)] [] M N := ab_Run_s zm_X2_become (sp := [(14, [true, true, true]), (28, [true, true, true]), (42, [true, true, true]), (56, [true, true, false]), (70, [true, true, false]), (85, [true, true, false])]) 55 h
set_option maxRecDepth 20000 in
theorem zv_X2_become_56 {Q : ab_R} {M : ab_M} {N : ab_N}  (h : zt_acopy zw_C [.ref 23, .int (0 : Int32), .ref 17, .int (0 : Int32), .int (5 : Int32)] M N (fun r M2 N2 => zr_X2_become Q 70 [some (.ref 1), some (.ref 12), none] (ab_ol r []) M2 N2)) : zr_X2_become Q 56 [some (.ref 1), some (.ref 12), none] [] M N := ab_Run_s zm_X2_become (sp := [(14, [true, true, true]), (28, [true, true, true]), (42, [true, true, true]), (56, [true, true, false]), (70, [true, true, false]), (85, [true, true, false])]) 55 h
set_option maxRecDepth 20000 in
theorem zv_X2_become_70 {Q : ab_R} {M : ab_M} {N : ab_N}  (h : zt_acopy zw_C [.ref 24, .int (0 : Int32), .ref 18, .int (0 : Int32), .int (12 : Int32)] M N (fun r M2 N2 => zr_X2_become Q 85 [some (.ref 1), some (.ref 12), none] (ab_ol r []) M2 N2)) : zr_X2_become Q 70 [some (.ref 1), some (.ref 12), none] [] M N := ab_Run_s zm_X2_become (sp := [(14, [true, true, true]), (28, [true, true, true]), (42, [true, true, true]), (56, [true, true, false]), (70, [true, true, false]), (85, [true, true, false])]) 55 h
set_option maxRecDepth 20000 in
theorem zv_X2_become_85 {Q : ab_R} {M : ab_M} {N : ab_N}  (h : let z1 : Nat → Int32 := upd (M 1) 7 (M 12 7); Q none (ab_u M 1 z1) N) : zr_X2_become Q 85 [some (.ref 1), some (.ref 12), none] [] M N := ab_Run_s zm_X2_become (sp := [(14, [true, true, true]), (28, [true, true, true]), (42, [true, true, true]), (56, [true, true, false]), (70, [true, true, false]), (85, [true, true, false])]) 55 h
abbrev zr_X2_becomeI (Q : ab_R) : ab_K := zr_X2_become Q
set_option maxRecDepth 20000 in
theorem zv_X2_becomeI_0 {Q : ab_R} {M : ab_M} {N : ab_N} (l2 : Int32) (h : zt_acopy zw_C [.ref 13, .int (0 : Int32), .ref 19, .int (0 : Int32), .int l2] M N (fun r M2 N2 => zr_X2_becomeI Q 14 [some (.ref 12), some (.ref 1), some (.int l2)] (ab_ol r []) M2 N2)) : zr_X2_becomeI Q 0 [some (.ref 12), some (.ref 1), some (.int l2)] [] M N := ab_Run_s zm_X2_become (sp := [(14, [true, true, true]), (28, [true, true, true]), (42, [true, true, true]), (56, [true, true, false]), (70, [true, true, false]), (85, [true, true, false])]) 55 h
set_option maxRecDepth 20000 in
theorem zv_X2_becomeI_14 {Q : ab_R} {M : ab_M} {N : ab_N} (l2 : Int32) (h : zt_acopy zw_C [.ref 14, .int (0 : Int32), .ref 20, .int (0 : Int32), .int l2] M N (fun r M2 N2 => zr_X2_becomeI Q 28 [some (.ref 12), some (.ref 1), some (.int l2)] (ab_ol r []) M2 N2)) : zr_X2_becomeI Q 14 [some (.ref 12), some (.ref 1), some (.int l2)] [] M N := ab_Run_s zm_X2_become (sp := [(14, [true, true, true]), (28, [true, true, true]), (42, [true, true, true]), (56, [true, true, false]), (70, [true, true, false]), (85, [true, true, false])]) 55 h
set_option maxRecDepth 20000 in
theorem zv_X2_becomeI_28 {Q : ab_R} {M : ab_M} {N : ab_N} (l2 : Int32) (h : zt_acopy zw_C [.ref 15, .int (0 : Int32), .ref 21, .int (0 : Int32), .int l2] M N (fun r M2 N2 => zr_X2_becomeI Q 42 [some (.ref 12), some (.ref 1), some (.int l2)] (ab_ol r []) M2 N2)) : zr_X2_becomeI Q 28 [some (.ref 12), some (.ref 1), some (.int l2)] [] M N := ab_Run_s zm_X2_become (sp := [(14, [true, true, true]), (28, [true, true, true]), (42, [true, true, true]), (56, [true, true, false]), (70, [true, true, false]), (85, [true, true, false])]) 55 h
set_option maxRecDepth 20000 in
theorem zv_X2_becomeI_42 {Q : ab_R} {M : ab_M} {N : ab_N} (l2 : Int32) (h : zt_acopy zw_C [.ref 16, .int (0 : Int32), .ref 22, .int (0 : Int32), .int l2] M N (fun r M2 N2 => zr_X2_becomeI Q 56 [some (.ref 12), some (.ref 1), none] (ab_ol r []) M2 N2)) : zr_X2_becomeI Q 42 [some (.ref 12), some (.ref 1), some (.int l2)] [] M N := ab_Run_s zm_X2_become (sp := [(14, [true, true, true]), (28, [true, true, true]), (42, [true, true, true]), (56, [true, true, false]), (70, [true, true, false]), (85, [true, true, false])]) 55 h
set_option maxRecDepth 20000 in
theorem zv_X2_becomeI_56 {Q : ab_R} {M : ab_M} {N : ab_N}  (h : zt_acopy zw_C [.ref 17, .int (0 : Int32), .ref 23, .int (0 : Int32), .int (5 : Int32)] M N (fun r M2 N2 => zr_X2_becomeI Q 70 [some (.ref 12), some (.ref 1), none] (ab_ol r []) M2 N2)) : zr_X2_becomeI Q 56 [some (.ref 12), some (.ref 1), none] [] M N := ab_Run_s zm_X2_become (sp := [(14, [true, true, true]), (28, [true, true, true]), (42, [true, true, true]), (56, [true, true, false]), (70, [true, true, false]), (85, [true, true, false])]) 55 h
set_option maxRecDepth 20000 in
theorem zv_X2_becomeI_70 {Q : ab_R} {M : ab_M} {N : ab_N}  (h : zt_acopy zw_C [.ref 18, .int (0 : Int32), .ref 24, .int (0 : Int32), .int (12 : Int32)] M N (fun r M2 N2 => zr_X2_becomeI Q 85 [some (.ref 12), some (.ref 1), none] (ab_ol r []) M2 N2)) : zr_X2_becomeI Q 70 [some (.ref 12), some (.ref 1), none] [] M N := ab_Run_s zm_X2_become (sp := [(14, [true, true, true]), (28, [true, true, true]), (42, [true, true, true]), (56, [true, true, false]), (70, [true, true, false]), (85, [true, true, false])]) 55 h
set_option maxRecDepth 20000 in
theorem zv_X2_becomeI_85 {Q : ab_R} {M : ab_M} {N : ab_N}  (h : let z1 : Nat → Int32 := upd (M 12) 7 (M 1 7); Q none (ab_u M 12 z1) N) : zr_X2_becomeI Q 85 [some (.ref 12), some (.ref 1), none] [] M N := ab_Run_s zm_X2_become (sp := [(14, [true, true, true]), (28, [true, true, true]), (42, [true, true, true]), (56, [true, true, false]), (70, [true, true, false]), (85, [true, true, false])]) 55 h
theorem zE_X2_become (as : List Value) (M : ab_M) (N : ab_N) (k : ab_R) (hT : zt_X2_become as M N k) : ab_cs as ≤ 3 ∧ zr_X2_become k 0 (ab_en as) [] M N := by
  unfold zt_X2_become at hT
  split at hT
  · rename_i a b n
    obtain ⟨⟨h0, h8⟩, ⟨rfl, rfl, hk⟩ | ⟨rfl, rfl, hk⟩⟩ := hT
    · refine ⟨Nat.le_of_ble_eq_true rfl, zv_X2_become_0 _ ⟨⟨by decide, by decide, h0, by simpa using h8, by simpa using h8⟩, ?_⟩⟩
      refine zv_X2_become_14 _ ⟨⟨by decide, by decide, h0, by simpa using h8, by simpa using h8⟩, ?_⟩
      refine zv_X2_become_28 _ ⟨⟨by decide, by decide, h0, by simpa using h8, by simpa using h8⟩, ?_⟩
      refine zv_X2_become_42 _ ⟨⟨by decide, by decide, h0, by simpa using h8, by simpa using h8⟩, ?_⟩
      refine zv_X2_become_56 ⟨⟨by decide, by decide, by decide, by decide, by decide⟩, ?_⟩
      refine zv_X2_become_70 ⟨⟨by decide, by decide, by decide, by decide, by decide⟩, ?_⟩
      exact zv_X2_become_85 hk
    · refine ⟨Nat.le_of_ble_eq_true rfl, zv_X2_becomeI_0 _ ⟨⟨by decide, by decide, h0, by simpa using h8, by simpa using h8⟩, ?_⟩⟩
      refine zv_X2_becomeI_14 _ ⟨⟨by decide, by decide, h0, by simpa using h8, by simpa using h8⟩, ?_⟩
      refine zv_X2_becomeI_28 _ ⟨⟨by decide, by decide, h0, by simpa using h8, by simpa using h8⟩, ?_⟩
      refine zv_X2_becomeI_42 _ ⟨⟨by decide, by decide, h0, by simpa using h8, by simpa using h8⟩, ?_⟩
      refine zv_X2_becomeI_56 ⟨⟨by decide, by decide, by decide, by decide, by decide⟩, ?_⟩
      refine zv_X2_becomeI_70 ⟨⟨by decide, by decide, by decide, by decide, by decide⟩, ?_⟩
      exact zv_X2_becomeI_85 hk
  · exact hT.elim
abbrev zR_X2_become : Room := { frames := 1, cells := 0, slots := 0, locals := 26 }
set_option maxRecDepth 20000 in
theorem zM_X2_become (l : Launch) : ab_Met l zw_C vwCl zZ_C yX2_become cX2_become 3 none zR_X2_become zt_X2_become := ab_ofRun (G := zg_X2_become) (P := zp_X2_become) rfl zo_X2_become (by decide +kernel) zl_cl zl_lamC zf_X2_ok zs_tabOK ab_Cst_nil ab_Sta_nil (List.forall_mem_nil _) (List.forall_mem_cons.mpr ⟨ab_callCopy (ab_in 912 (by decide +kernel) rfl) (ab_in 914 (by decide +kernel) rfl) (ab_in 913 (by decide +kernel) rfl) (ab_in 20 (by decide +kernel) rfl) (by decide) (by decide), List.forall_mem_nil _⟩) zE_X2_become
end
section
/-! what the night's walk and the reckoning see of a state *)
-/
theorem zCl_lt (x : Int32) : x.toNatClampNeg < 2 ^ 31 := by
  have h := Int32.toInt_lt x
  show x.toInt.toNat < _
  omega
def zEqT (d d2 : ab_M) : Prop := d2 6 7 = d 6 7 ∧ d2 6 8 = d 6 8 ∧ (d 6 8 = -1 ∨ (d2 6 9 = d 6 9 ∧ d2 6 10 = d 6 10)) ∧ d2 6 11 = d 6 11 ∧ (d 6 11 = -1 ∨ d2 6 12 = d 6 12)
def zEqv (d d2 : ab_M) : Prop := zAsk d2 = zAsk d ∧ d2 1 = d 1 ∧ d2 2 = d 2 ∧ zEqT d d2 ∧ d2 16 = d 16 ∧ d2 17 = d 17 ∧ d2 25 = d 25 ∧ d2 26 = d 26 ∧ d2 27 = d 27 ∧ d2 28 = d 28 ∧ d2 29 = d 29 ∧ d2 30 = d 30
theorem zEqT_rf {d d2 : ab_M} (h : d2 6 = d 6) : zEqT d d2 := by
  unfold zEqT
  rw [h]
  exact ⟨rfl, rfl, Or.inr ⟨rfl, rfl⟩, rfl, Or.inr rfl⟩
theorem zEqv_go {M M2 : ab_M} (hF : zFr zGo M M2) : zEqv M M2 := ⟨zAsk_go hF, hF 1 (by decide), hF 2 (by decide), zEqT_rf (hF 6 (by decide)), hF 16 (by decide), hF 17 (by decide), hF 25 (by decide), hF 26 (by decide), hF 27 (by decide), hF 28 (by decide), hF 29 (by decide), hF 30 (by decide)⟩
theorem nI_m1 {m : Nat} (hm : m < 2 ^ 31) : ¬ nI m = -1 := fun z => nI_pos hm (by rw [z]; decide)
section Eqv
variable {d d2 : ab_M}
theorem zEqv_pcs (E : zEqv d d2) : zPcs d2 = zPcs d := by unfold zPcs; rw [E.2.1]
theorem zEqv_men (E : zEqv d d2) : zMen d2 = zMen d := by unfold zMen; rw [E.2.2.1]
theorem zEqv_hrs (E : zEqv d d2) : zHrs d2 = zHrs d := by unfold zHrs; rw [E.2.2.2.2.2.1]
theorem zEqv_brk (E : zEqv d d2) : zBrk d2 = zBrk d := by unfold zBrk; rw [E.2.2.2.2.2.1]
theorem zPcs_lt (d : ab_M) : zPcs d < 2 ^ 31 := zCl_lt _
theorem zMen_lt (d : ab_M) : zMen d < 2 ^ 31 := zCl_lt _
theorem zCome_eqv (E : zEqv d d2) {h m : Nat} (hm : m < 2 ^ 31) {pl pl2 bk bk2 : Nat → Int32} {sc sc2 : Nat → Nat} (hpl : pl2 m = pl m) (hbk : bk2 m = bk m) (hsc : ∀ p, p < 2 ^ 31 → sc2 p = sc p) : zCome d2 h pl2 bk2 sc2 m = zCome d h pl bk sc m := by
  have hP := zEqv_pcs E
  have hL := zPcs_lt d
  obtain ⟨hA, e1, e2, ⟨-, t8, t9, -, -⟩, e16, e17, e25, e26, e27, e28, e29, e30⟩ := E
  have hR : ∀ v f, zRiskF d2 h sc2 v f (zPcs d) = zRiskF d h sc v f (zPcs d) := by
    intro v f
    rw [zRiskF_congr (zPcs d) (fun p hp => hsc p (by omega))]
    generalize zPcs d = n
    induction n with
    | zero => rfl
    | succ n ih => rw [zRiskF, zRiskF, ih, hA]
  have hT : (if nI m = d2 6 8 ∧ nI h = d2 6 9 then some (d2 6 10) else none) = (if nI m = d 6 8 ∧ nI h = d 6 9 then some (d 6 10) else none) := by
    rw [t8]
    rcases t9 with q | ⟨q, q2⟩
    · rw [q, if_neg (fun z => nI_m1 hm z.1), if_neg (fun z => nI_m1 hm z.1)]
    · rw [q, q2]
  unfold zCome
  rw [e1, e25, e26, e27, e28, e29, e30, hP, hR, hpl, hbk]
  by_cases c : nI m = d 6 8 ∧ nI h = d 6 9
  · rw [if_pos c] at hT ⊢
    by_cases c2 : nI m = d2 6 8 ∧ nI h = d2 6 9
    · rw [if_pos c2] at hT ⊢
      exact Option.some.inj hT
    · rw [if_neg c2] at hT
      cases hT
  · rw [if_neg c] at hT ⊢
    by_cases c2 : nI m = d2 6 8 ∧ nI h = d2 6 9
    · rw [if_pos c2] at hT
      cases hT
    · rw [if_neg c2]
theorem zLk_eqv (E : zEqv d d2) {h p : Nat} (hp : p < 2 ^ 31) {pl pl2 : Nat → Int32} : ∀ m, m < 2 ^ 31 → (∀ i, i < m → pl2 i = pl i) → zLk d2 h pl2 m p = zLk d h pl m p
  | 0, _, _ => by
    obtain ⟨hA, e1, e2, ⟨-, -, -, t11, t12⟩, e16, e17, e25, e26, e27, e28, e29, e30⟩ := E
    unfold zLk zOth
    rw [e1, e16, e17, t11]
    rcases t12 with q | q
    · have n1 : ∀ a : Int32, ¬ (nI p = -1 ∧ nI h = a) := fun a z => nI_m1 hp z.1
      rw [q]
      simp only [if_neg (n1 _)]
    · rw [q]
  | m + 1, hm, hpl => by
    have ih := zLk_eqv E (h := h) hp m (by omega) (fun i hi => hpl i (by omega))
    obtain ⟨hA, e1, e2, ⟨t7, -, -, -, -⟩, e16, e17, e25, e26, e27, e28, e29, e30⟩ := E
    unfold zLk
    rw [ih, e25, e29, t7, hpl m (by omega)]
def zAgr (s s2 : zSt) : Prop := (∀ m, m < 2 ^ 31 → s2.1 m = s.1 m ∧ s2.2.1 m = s.2.1 m) ∧ ∀ p, p < 2 ^ 31 → s2.2.2.1 p = s.2.2.1 p ∧ s2.2.2.2 p = s.2.2.2 p
theorem zHr_eqv (E : zEqv d d2) (h : Nat) {s s2 : zSt} (hs : zAgr s s2) : zAgr (zHr d h s) (zHr d2 h s2) := by
  have hM := zMen_lt d
  have hsc : ∀ p, p < 2 ^ 31 → (if h = 0 ∨ ¬ s2.2.2.2 p = 0 then 1 else s2.2.2.1 p + 1) = (if h = 0 ∨ ¬ s.2.2.2 p = 0 then 1 else s.2.2.1 p + 1) := fun p hp => by rw [(hs.2 p hp).1, (hs.2 p hp).2]
  have hpl : ∀ m, m < 2 ^ 31 → (zHr d2 h s2).1 m = (zHr d h s).1 m := fun m hm => zCome_eqv E hm (hs.1 m hm).1 (hs.1 m hm).2 hsc
  refine ⟨fun m hm => ⟨hpl m hm, ?_⟩, fun p hp => ⟨hsc p hp, ?_⟩⟩
  · show zBack d2 h s2.2.1 m ((zHr d2 h s2).1 m) = zBack d h s.2.1 m ((zHr d h s).1 m)
    unfold zBack
    rw [hpl m hm, (hs.1 m hm).2]
    obtain ⟨-, -, -, -, -, -, -, e26, e27, -⟩ := E
    rw [e26, e27]
  · show zLk d2 h (zHr d2 h s2).1 (zMen d2) p = zLk d h (zHr d h s).1 (zMen d) p
    rw [zEqv_men E]
    exact zLk_eqv E hp _ hM (fun i hi => hpl i (by omega))
theorem zWk_eqv (E : zEqv d d2) : ∀ h, zAgr (zWk d h) (zWk d2 h)
  | 0 => zHr_eqv E 0 ⟨fun _ _ => ⟨rfl, rfl⟩, fun _ _ => ⟨rfl, rfl⟩⟩
  | h + 1 => zHr_eqv E (h + 1) (zWk_eqv E h)
theorem zSc_eqv (E : zEqv d d2) (h : Nat) {p : Nat} (hp : p < 2 ^ 31) : zSc d2 h p = zSc d h p := by
  rw [← zWk_sc, ← zWk_sc]
  exact ((zWk_eqv E h).2 p hp).1
theorem zLook_eqv (E : zEqv d d2) : zLook d2 = zLook d := by
  funext p h pc n
  induction n with
  | zero => rfl
  | succ n ih => funext s; show zLook1 d2 p h pc (n + 1) (zLook d2 p h pc n s) = _; rw [ih]; unfold zLook1; rw [E.1]; rfl
theorem zGrow_eqv (E : zEqv d d2) : zGrow d2 = zGrow d := by
  funext p h sc s
  unfold zGrow
  rw [E.1, zEqv_brk E]
theorem zPace_eqv (E : zEqv d d2) : zPace d2 = zPace d := by
  funext w
  unfold zPace
  rw [zEqv_men E, E.2.2.2.2.2.2.2.2.2.1]
theorem zLooks_eqv (E : zEqv d d2) (p h : Nat) (lk : Int32) (s : zRs) : ∀ n, zLooks d2 p h lk n s = zLooks d p h lk n s
  | 0 => rfl
  | n + 1 => by
    unfold zLooks
    rw [zLooks_eqv E p h lk s n, zLook_eqv E, zEqv_brk E, zPace_eqv E]
theorem zRk_eqv (E : zEqv d d2) {p : Nat} (hp : p < 2 ^ 31) : ∀ h, zRk d2 p h = zRk d p h
  | 0 => rfl
  | h + 1 => by
    show zLooks d2 p h ((zWk d2 h).2.2.2 p) 8 (zGrow d2 p h (zSc d2 h p) (zRk d2 p h)) = zLooks d p h ((zWk d h).2.2.2 p) 8 (zGrow d p h (zSc d h p) (zRk d p h))
    rw [zLooks_eqv E, zRk_eqv E hp h, zGrow_eqv E, zSc_eqv E h hp, ((zWk_eqv E h).2 p hp).2]
theorem zSum_eqv (E : zEqv d d2) (w : Nat) : ∀ n, n < 2 ^ 31 → zSum d2 w n = zSum d w n
  | 0, _ => rfl
  | n + 1, hn => by
    unfold zSum
    rw [zSum_eqv E w n (by omega), zRk_eqv E (by omega), zEqv_hrs E]
    unfold zTold
    rw [zEqv_brk E]
theorem zAll_eqv (E : zEqv d d2) : zAll d2 = zAll d := by
  unfold zAll
  rw [zEqv_pcs E]
  exact zSum_eqv E 0 _ (zPcs_lt d)
end Eqv
theorem zWalked_eqv {M M2 : ab_M} (hI : zI0 M) (E : zEqv M M2) (h37 : M2 37 = M 37) (h38 : M2 38 = M 38) (h39 : M2 39 = M 39) (h : zWalked M) : zWalked M2 := by
  have hm := zMen_lt M
  have hp := zPcs_lt M
  intro g hg
  rw [zEqv_hrs E] at hg
  obtain ⟨k1, k2⟩ := h g hg
  rw [h37, h38, h39]
  refine ⟨fun m hm2 => ?_, fun p hp2 => ?_⟩
  · rw [zEqv_men E] at hm2
    rw [((zWk_eqv E g).1 m (by omega)).1]
    exact k1 m hm2
  · rw [zEqv_pcs E] at hp2
    rw [zSc_eqv E g (by omega), ((zWk_eqv E g).2 p (by omega)).2]
    exact k2 p hp2
/-- behind a walk -/
theorem zWalked_go {M M2 : ab_M} (hF : zFr zGo M M2) (h : ∀ h, h < zHrs M → (∀ m, m < zMen M → M2 37 (h * 5 + m) = (zWk M h).1 m) ∧ ∀ p, p < zPcs M → M2 39 (h * 8 + p) = nI ((zWk M h).2.2.1 p) ∧ M2 38 (h * 8 + p) = (zWk M h).2.2.2 p) : zWalked M2 := by
  have E := zEqv_go hF
  have hm := zMen_lt M
  have hp := zPcs_lt M
  intro g hg
  rw [zEqv_hrs E] at hg
  obtain ⟨k1, k2⟩ := h g hg
  refine ⟨fun m hm2 => ?_, fun p hp2 => ?_⟩
  · rw [zEqv_men E] at hm2
    rw [((zWk_eqv E g).1 m (by omega)).1]
    exact k1 m hm2
  · rw [zEqv_pcs E] at hp2
    rw [zSc_eqv E g (by omega), ((zWk_eqv E g).2 p (by omega)).2, ← zWk_sc]
    exact k2 p hp2
end
section
/-! all harm, how long, rows of sheets *)
-/
def zt_X11_allHarm : ab_T := ab_m0 0 (fun M N => zNight M) (fun M N o M2 N2 => o = some (.long (zAll M)) ∧ zFr zGo M M2 ∧ zAsks M2 ∧ zNfr [7, 41] N N2)
theorem zt_X11_allHarm_mono : ab_mono zt_X11_allHarm := ab_m0_mono _ _ _
theorem zV_X11_allHarm : ab_recv zw_C vwCl RX11 zt_X11_allHarm := ab_m0_v rfl rfl
/-- how many hours, out of what stands by hours -/
def zHours (f : Nat → Int32) : Nat → Int32
  | 0 => 0
  | h + 1 => zHours f h + (if f h = 0 then 0 else 1)
def zLong (f : Nat → Int32) : Nat → Int32 × Int32
  | 0 => (0, 0)
  | h + 1 => let r : Int32 := if f h = 0 then (zLong f h).2 + 1 else 0
    (if (zLong f h).1 < r then r else (zLong f h).1, r)
def zt_X11_hoursLookedAt : ab_T := ab_m1 0 (fun p M N => zI0 M ∧ zWalked M ∧ ∃ q : Nat, q < zPcs M ∧ p = nI q) (fun p M N o M2 N2 => o = some (.int (zHours (fun h => (zWk M h).2.2.2 p.toNatClampNeg) (zHrs M))) ∧ M2 = M ∧ N2 = N)
theorem zt_X11_hoursLookedAt_mono : ab_mono zt_X11_hoursLookedAt := ab_m1_mono _ _ _
theorem zV_X11_hoursLookedAt : ab_recv zw_C vwCl RX11 zt_X11_hoursLookedAt := ab_m1_v rfl rfl
def zt_X11_longestNotLookedAt : ab_T := ab_m1 0 (fun p M N => zI0 M ∧ zWalked M ∧ ∃ q : Nat, q < zPcs M ∧ p = nI q) (fun p M N o M2 N2 => o = some (.int (zLong (fun h => (zWk M h).2.2.2 p.toNatClampNeg) (zHrs M)).1) ∧ M2 = M ∧ N2 = N)
theorem zt_X11_longestNotLookedAt_mono : ab_mono zt_X11_longestNotLookedAt := ab_m1_mono _ _ _
theorem zV_X11_longestNotLookedAt : ab_recv zw_C vwCl RX11 zt_X11_longestNotLookedAt := ab_m1_v rfl rfl
/-- the sheets' sizes -/
def zSh (M : ab_M) : Prop := ∀ s : Nat, s < 4 → ∃ n : Nat, n ≤ 40 ∧ M 44 s = nI n
def zAllS (f : Nat → Int32) (mx : Int32) : Nat → Nat → Bool
  | _, 0 => true
  | i, m + 1 => decide (0 ≤ f i ∧ f i ≤ mx) && zAllS f mx (i + 1) m
/-- why a sheet is no row -/
def zRefused (d : ab_M) (s n mx : Int32) : Int32 :=
  if ¬ (0 ≤ s ∧ s < 4) then -2
  else if d 43 s.toNatClampNeg = -1 then -11
  else if ¬ d 44 s.toNatClampNeg = n then -2
  else if zAllS (fun i => d 45 (s.toNatClampNeg * 40 + i)) mx 0 n.toNatClampNeg = true then 0 else -2
def zt_X11_rowRefused : ab_T := ab_m3 0 (fun _ _ _ M _ => zSh M) (fun s n mx M N o M2 N2 => o = some (.int (zRefused M s n mx)) ∧ M2 = M ∧ N2 = N)
theorem zt_X11_rowRefused_mono : ab_mono zt_X11_rowRefused := ab_m3_mono _ _ _
theorem zV_X11_rowRefused : ab_recv zw_C vwCl RX11 zt_X11_rowRefused := ab_m3_v rfl rfl
def zSumS (d : ab_M) (q : Nat) : Nat → Int32
  | 0 => 0
  | p + 1 => zSumS d q p + d 45 (q * 40 + p)
def zHoled (d : ab_M) (q : Nat) : Nat → Int32
  | 0 => 0
  | p + 1 => zHoled d q p ||| (if d 45 (q * 40 + p) * d 1 4 ≤ 2 * zSumS d q (zPcs d) then 0 else (1 : Int32) <<< (nI p &&& 31))
def zt_X11_holedOften : ab_T := ab_m1 0 (fun s M _ => zI0 M ∧ ∃ q : Nat, q < 4 ∧ s = nI q ∧ M 44 q = M 1 4) (fun s M N o M2 N2 => o = some (.int (zHoled M s.toNatClampNeg (zPcs M))) ∧ M2 = M ∧ N2 = N)
theorem zt_X11_holedOften_mono : ab_mono zt_X11_holedOften := ab_m1_mono _ _ _
theorem zV_X11_holedOften : ab_recv zw_C vwCl RX11 zt_X11_holedOften := ab_m1_v rfl rfl
def zp_X11_allHarm : ab_P := [(0, .aload_n 0, 1, [0], []),
  (1, .getfield 53, 4, [], []),
  (4, .invokevirtual 198, 7, [], []),
  (7, .lconst 0, 8, [0], []),
  (8, .lstore_n 1, 9, [1], []),
  (9, .iconst 0, 10, [], [0]),
  (10, .istore_n 3, 11, [3], []),
  (11, .iload_n 3, 12, [3], []),
  (12, .aload_n 0, 13, [0], []),
  (13, .getfield 10, 16, [], []),
  (16, .getfield 121, 19, [], []),
  (19, .if_icmp .ge 36, 22, [55], []),
  (22, .aload_n 0, 23, [0], []),
  (23, .getfield 62, 26, [], []),
  (26, .iload_n 3, 27, [3], []),
  (27, .aload_n 0, 28, [0], []),
  (28, .getfield 10, 31, [], []),
  (31, .getfield 150, 34, [], []),
  (34, .iconst 0, 35, [], [0]),
  (35, .iaload, 36, [], []),
  (36, .invokevirtual 220, 39, [], []),
  (39, .lload_n 1, 40, [1], []),
  (40, .aload_n 0, 41, [0], []),
  (41, .getfield 62, 44, [], []),
  (44, .getfield 342, 47, [], []),
  (47, .ladd, 48, [], []),
  (48, .lstore_n 1, 49, [1], []),
  (49, .iinc 3 1, 52, [], [1]),
  (52, .goto (-41), 55, [11], []),
  (55, .lload_n 1, 56, [1], []),
  (56, .lreturn, 57, [], [])]
theorem zo_X11_allHarm : ab_ok cX11_allHarm zp_X11_allHarm = true := by decide +kernel
def zg_X11_allHarm : ab_G := (zw_C, zs_tab, zf_X11, zc_X11, [(144, 50), (147, 51)], [(198, 1, zt_X10_go), (220, 3, zt_X6_reckon)], [])
theorem zm_X11_allHarm : ab_MG zg_X11_allHarm := ab_MGof (List.forall_mem_cons.mpr ⟨zt_X10_go_mono, List.forall_mem_cons.mpr ⟨zt_X6_reckon_mono, List.forall_mem_nil _⟩⟩) (List.forall_mem_nil _)
abbrev zr_X11_allHarm (Q : ab_R) : ab_K := ab_Run zg_X11_allHarm zp_X11_allHarm (some .long) 4 Q
set_option maxRecDepth 20000 in
theorem zv_X11_allHarm_0 {Q : ab_R} {M : ab_M} {N : ab_N}  (h : zt_X10_go [.ref 6] M N (fun r M2 N2 => zr_X11_allHarm Q 7 [some (.ref 0), none, none, none] (ab_ol r []) M2 N2)) : zr_X11_allHarm Q 0 [some (.ref 0)] [] M N := ab_Run_s zm_X11_allHarm (sp := [(7, [true, false, false, false]), (11, [true, true, false, true]), (39, [true, true, false, true])]) 33 h
set_option maxRecDepth 20000 in
theorem zv_X11_allHarm_7 {Q : ab_R} {M : ab_M} {N : ab_N}  (h : zr_X11_allHarm Q 11 [some (.ref 0), some (.long (0 : Int64)), none, some (.int (0 : Int32))] [] M N) : zr_X11_allHarm Q 7 [some (.ref 0), none, none, none] [] M N := ab_Run_s zm_X11_allHarm (sp := [(7, [true, false, false, false]), (11, [true, true, false, true]), (39, [true, true, false, true])]) 33 h
set_option maxRecDepth 20000 in
theorem zv_X11_allHarm_11 {Q : ab_R} {M : ab_M} {N : ab_N} (l1 : Int64) (l3 : Int32) (h : ((M 1 4) ≤ l3 → Q (some (.long l1)) M N) ∧ (¬ ((M 1 4) ≤ l3) → vp_in (0 : Int32) 5 ∧ (zt_X6_reckon [.ref 7, .int l3, .int (M 17 0)] M N (fun r M2 N2 => zr_X11_allHarm Q 39 [some (.ref 0), some (.long l1), none, some (.int l3)] (ab_ol r []) M2 N2)))) : zr_X11_allHarm Q 11 [some (.ref 0), some (.long l1), none, some (.int l3)] [] M N := ab_Run_s zm_X11_allHarm (sp := [(7, [true, false, false, false]), (11, [true, true, false, true]), (39, [true, true, false, true])]) 33 h
set_option maxRecDepth 20000 in
theorem zv_X11_allHarm_39 {Q : ab_R} {M : ab_M} {N : ab_N} (l1 : Int64) (l3 : Int32) (h : zr_X11_allHarm Q 11 [some (.ref 0), some (.long (l1 + (N 7 4))), none, some (.int (l3 + (1 : Int32)))] [] M N) : zr_X11_allHarm Q 39 [some (.ref 0), some (.long l1), none, some (.int l3)] [] M N := ab_Run_s zm_X11_allHarm (sp := [(7, [true, false, false, false]), (11, [true, true, false, true]), (39, [true, true, false, true])]) 33 h
theorem zRk_fr {M M2 : ab_M} (hF : zFr [33, 35, 36] M M2) {p : Nat} (hp : p < 2 ^ 31) (h : Nat) : zRk M2 p h = zRk M p h := zRk_eqv (zEqv_go (zFr_mono hF (by decide))) hp h
theorem zL_X11_allHarm {Q : ab_R} {M0 : ab_M} {N0 : ab_N} (hN : zNight M0) (hW : zWalked M0) (kk : ∀ M N, zFr [33, 35, 36] M0 M → zAsks M → zNfr [7, 41] N0 N → Q (some (.long (zSum M0 0 (zPcs M0)))) M N) :
    ∀ (n p : Nat) (M : ab_M) (N : ab_N), p + n = zPcs M0 → zFr [33, 35, 36] M0 M → zAsks M → zNfr [7, 41] N0 N → zr_X11_allHarm Q 11 [some (.ref 0), some (.long (zSum M0 0 p)), none, some (.int (nI p))] [] M N := by
  obtain ⟨hA0, h0, h1⟩ := id hN
  obtain ⟨hP, hP8⟩ := zP_eq h0
  obtain ⟨hHe, hH12⟩ := zH_eq h0
  intro n
  induction n with
  | zero =>
    intro p M N hp hF hA hNf
    have ep : p = zPcs M0 := by omega
    subst ep
    refine zv_X11_allHarm_11 _ _ ⟨fun _ => kk M N hF hA hNf, fun c => absurd ?_ c⟩
    rw [hF 1 (by decide), hP]
    exact nI_le (by omega) (by omega)
  | succ n ih =>
    intro p M N hp hF hA hNf
    refine zv_X11_allHarm_11 _ _ ⟨fun c => ?_, fun _ => ⟨ab_vpk (by decide), ?_⟩⟩
    · rw [hF 1 (by decide), hP] at c
      exact absurd c (nI_ge (by omega) (by omega))
    · rw [hF 17 (by decide), hHe]
      refine ab_m2_i ⟨zNight_fr hN hA hF, zWalked_fr hF hW, p, zHrs M0, by rw [zPcs_fr hF]; omega, by rw [zHrs_fr hF]; exact Nat.le_refl _, rfl, rfl⟩ ?_
      rintro o M2 N2 ⟨rfl, hF2, hA2, hNf2, hS2⟩
      rw [nI_clamp (show p < 2 ^ 31 by omega), nI_clamp (show zHrs M0 < 2 ^ 31 by omega), zRk_fr hF (by omega)] at hS2
      refine zv_X11_allHarm_39 _ _ ?_
      rw [nI_1, hS2.2.1]
      exact ih (p + 1) M2 N2 (by omega) (zFr_tr hF hF2) hA2 (zNfr_tr hNf hNf2)
theorem zE_X11_allHarm (as : List Value) (M : ab_M) (N : ab_N) (k : ab_R) (hT : zt_X11_allHarm as M N k) : ab_cs as ≤ 4 ∧ zr_X11_allHarm k 0 (ab_en as) [] M N := by
  obtain ⟨rfl, hN, hk⟩ := ab_m0_e hT
  refine ⟨Nat.le_of_ble_eq_true rfl, zv_X11_allHarm_0 (ab_m0_i hN ?_)⟩
  rintro o M2 N2 ⟨rfl, rfl, hF, hA, hW⟩
  have hW2 := zWalked_go hF hW
  have hN2 := zNight_of hN hA hF
  have E := zEqv_go hF
  refine zv_X11_allHarm_7 ?_
  refine zL_X11_allHarm hN2 hW2 (fun M3 N3 hF3 hA3 hNf3 => hk _ _ _ ⟨?_, zFr_tr hF (zFr_mono hF3 (by decide)), hA3, hNf3⟩) (zPcs M2) 0 M2 N2 (by omega) (zFr_rf _ _) hA (zNfr_rf _ _)
  rw [show zSum M2 0 (zPcs M2) = zAll M2 from rfl, zAll_eqv E]
abbrev zR_X11_allHarm : Room := { frames := 6, cells := 0, slots := 0, locals := 155 }
set_option maxRecDepth 20000 in
theorem zM_X11_allHarm (l : Launch) : ab_Met l zw_C vwCl zZ_C yX11_allHarm cX11_allHarm 4 (some .long) zR_X11_allHarm zt_X11_allHarm := ab_ofRun (G := zg_X11_allHarm) (P := zp_X11_allHarm) rfl zo_X11_allHarm (by decide +kernel) zl_cl zl_lamC zf_X11_ok zs_tabOK zc_X11_ok zs_X11_ok (List.forall_mem_cons.mpr ⟨ab_callV zZ_C_ok (zM_X10_go l) (ab_in 658 (by decide +kernel) rfl) (ab_in 655 (by decide +kernel) rfl) (ab_in 656 (by decide +kernel) rfl) (ab_in 657 (by decide +kernel) rfl) (ab_in 7 (by decide +kernel) rfl) (by unfold ab_yok; decide +kernel) ⟨rfl, rfl⟩ (by decide) zV_X10_go, List.forall_mem_cons.mpr ⟨ab_callV zZ_C_ok (zM_X6_reckon l) (ab_in 737 (by decide +kernel) rfl) (ab_in 734 (by decide +kernel) rfl) (ab_in 735 (by decide +kernel) rfl) (ab_in 736 (by decide +kernel) rfl) (ab_in 8 (by decide +kernel) rfl) (by unfold ab_yok; decide +kernel) ⟨rfl, rfl⟩ (by decide) zV_X6_reckon, List.forall_mem_nil _⟩⟩) (List.forall_mem_nil _) zE_X11_allHarm
def zp_X11_hoursLookedAt : ab_P := [(0, .iconst 0, 1, [], [0]),
  (1, .istore_n 2, 2, [2], []),
  (2, .iconst 0, 3, [], [0]),
  (3, .istore_n 3, 4, [3], []),
  (4, .iload_n 3, 5, [3], []),
  (5, .aload_n 0, 6, [0], []),
  (6, .getfield 10, 9, [], []),
  (9, .getfield 150, 12, [], []),
  (12, .iconst 0, 13, [], [0]),
  (13, .iaload, 14, [], []),
  (14, .if_icmp .ge 29, 17, [43], []),
  (17, .iload_n 2, 18, [2], []),
  (18, .aload_n 0, 19, [0], []),
  (19, .getfield 53, 22, [], []),
  (22, .iload_n 1, 23, [1], []),
  (23, .iload_n 3, 24, [3], []),
  (24, .invokevirtual 204, 27, [], []),
  (27, .ifCond .eq 7, 30, [34], []),
  (30, .iconst 1, 31, [], [1]),
  (31, .goto 4, 34, [35], []),
  (34, .iconst 0, 35, [], [0]),
  (35, .iadd, 36, [], []),
  (36, .istore_n 2, 37, [2], []),
  (37, .iinc 3 1, 40, [], [1]),
  (40, .goto (-36), 43, [4], []),
  (43, .iload_n 2, 44, [2], []),
  (44, .ireturn, 45, [], [])]
theorem zo_X11_hoursLookedAt : ab_ok cX11_hoursLookedAt zp_X11_hoursLookedAt = true := by decide +kernel
def zg_X11_hoursLookedAt : ab_G := (zw_C, zs_tab, zf_X11, zc_X11, [(144, 50), (147, 51)], [(204, 3, zt_X10_lookedAt)], [])
theorem zm_X11_hoursLookedAt : ab_MG zg_X11_hoursLookedAt := ab_MGof (List.forall_mem_cons.mpr ⟨ab_pp_mono _, List.forall_mem_nil _⟩) (List.forall_mem_nil _)
abbrev zr_X11_hoursLookedAt (Q : ab_R) : ab_K := ab_Run zg_X11_hoursLookedAt zp_X11_hoursLookedAt (some .int) 4 Q
set_option maxRecDepth 20000 in
theorem zv_X11_hoursLookedAt_0 {Q : ab_R} {M : ab_M} {N : ab_N} (l1 : Int32) (h : zr_X11_hoursLookedAt Q 4 [some (.ref 0), some (.int l1), some (.int (0 : Int32)), some (.int (0 : Int32))] [] M N) : zr_X11_hoursLookedAt Q 0 [some (.ref 0), some (.int l1)] [] M N := ab_Run_s zm_X11_hoursLookedAt (sp := [(4, [true, true, true, true])]) 29 h
set_option maxRecDepth 20000 in
theorem zv_X11_hoursLookedAt_4 {Q : ab_R} {M : ab_M} {N : ab_N} (l1 : Int32) (l2 : Int32) (l3 : Int32) (h : vp_in (0 : Int32) 5 ∧ (((M 17 0) ≤ l3 → Q (some (.int l2)) M N) ∧ (¬ ((M 17 0) ≤ l3) → (vp_in (l3 * 8 + l1) 96) ∧ (((ab_b (¬ (M 38) (l3 * 8 + l1).toNatClampNeg = 0)) = 0 → zr_X11_hoursLookedAt Q 4 [some (.ref 0), some (.int l1), some (.int (l2 + (0 : Int32))), some (.int (l3 + (1 : Int32)))] [] M N) ∧ (¬ ((ab_b (¬ (M 38) (l3 * 8 + l1).toNatClampNeg = 0)) = 0) → zr_X11_hoursLookedAt Q 4 [some (.ref 0), some (.int l1), some (.int (l2 + (1 : Int32))), some (.int (l3 + (1 : Int32)))] [] M N))))) : zr_X11_hoursLookedAt Q 4 [some (.ref 0), some (.int l1), some (.int l2), some (.int l3)] [] M N := ab_Run_s zm_X11_hoursLookedAt (sp := [(4, [true, true, true, true])]) 29 h
theorem zL_X11_hours {Q : ab_R} {M : ab_M} {N : ab_N} (h0 : zI0 M) (hW : zWalked M) (q : Nat) (hq : q < zPcs M) (kk : Q (some (.int (zHours (fun h => (zWk M h).2.2.2 q) (zHrs M)))) M N) :
    ∀ (n h : Nat), h + n = zHrs M → zr_X11_hoursLookedAt Q 4 [some (.ref 0), some (.int (nI q)), some (.int (zHours (fun h => (zWk M h).2.2.2 q) h)), some (.int (nI h))] [] M N := by
  obtain ⟨hP, hP8⟩ := zP_eq h0
  obtain ⟨hHe, hH12⟩ := zH_eq h0
  intro n
  induction n with
  | zero =>
    intro h hh
    have eh : h = zHrs M := by omega
    subst eh
    refine zv_X11_hoursLookedAt_4 _ _ _ ⟨ab_vpk (by decide), ?_⟩
    rw [hHe]
    exact ⟨fun _ => kk, fun c => absurd (nI_le (by omega) (by omega)) c⟩
  | succ n ih =>
    intro h hh
    refine zv_X11_hoursLookedAt_4 _ _ _ ⟨ab_vpk (by decide), ?_⟩
    rw [hHe]
    have ei : nI h * 8 + nI q = nI (h * 8 + q) := by rw [zN_mul h 8 8, nI_add]
    rw [ei, nI_clamp (show h * 8 + q < 2 ^ 31 by omega), ((hW h (by omega)).2 q hq).2, nI_1]
    refine ⟨fun c => absurd c (nI_ge (by omega) (by omega)), fun _ => ⟨nI_in_ (by omega), fun c => ?_, fun c => ?_⟩⟩
    · have := ih (h + 1) (by omega)
      unfold zHours at this
      rw [if_pos (Decidable.not_not.mp (ab_b_0.mp c))] at this
      exact this
    · have := ih (h + 1) (by omega)
      unfold zHours at this
      rw [if_neg (fun z => c (ab_b_0.mpr (fun z2 => z2 z)))] at this
      exact this
theorem zE_X11_hoursLookedAt (as : List Value) (M : ab_M) (N : ab_N) (k : ab_R) (hT : zt_X11_hoursLookedAt as M N k) : ab_cs as ≤ 4 ∧ zr_X11_hoursLookedAt k 0 (ab_en as) [] M N := by
  obtain ⟨p, rfl, ⟨h0, hW, q, hq, rfl⟩, hk⟩ := ab_m1_e hT
  have hP := zPcs_lt M
  rw [nI_clamp (show q < 2 ^ 31 by omega)] at hk
  exact ⟨Nat.le_of_ble_eq_true rfl, zv_X11_hoursLookedAt_0 _ (zL_X11_hours h0 hW q hq (hk _ _ _ ⟨rfl, rfl, rfl⟩) (zHrs M) 0 (by omega))⟩
abbrev zR_X11_hoursLookedAt : Room := { frames := 1, cells := 0, slots := 0, locals := 22 }
set_option maxRecDepth 20000 in
theorem zM_X11_hoursLookedAt (l : Launch) : ab_Met l zw_C vwCl zZ_C yX11_hoursLookedAt cX11_hoursLookedAt 4 (some .int) zR_X11_hoursLookedAt zt_X11_hoursLookedAt := ab_ofRun (G := zg_X11_hoursLookedAt) (P := zp_X11_hoursLookedAt) rfl zo_X11_hoursLookedAt (by decide +kernel) zl_cl zl_lamC zf_X11_ok zs_tabOK zc_X11_ok zs_X11_ok (List.forall_mem_cons.mpr ⟨ab_callV zZ_C_ok (zM_X10_lookedAt l) (ab_in 662 (by decide +kernel) rfl) (ab_in 707 (by decide +kernel) rfl) (ab_in 660 (by decide +kernel) rfl) (ab_in 661 (by decide +kernel) rfl) (ab_in 7 (by decide +kernel) rfl) (by unfold ab_yok; decide +kernel) ⟨rfl, rfl⟩ (by decide) zV_X10_lookedAt, List.forall_mem_nil _⟩) (List.forall_mem_nil _) zE_X11_hoursLookedAt
def zp_X11_longestNotLookedAt : ab_P := [(0, .iconst 0, 1, [], [0]),
  (1, .istore_n 2, 2, [2], []),
  (2, .iconst 0, 3, [], [0]),
  (3, .istore_n 3, 4, [3], []),
  (4, .iconst 0, 5, [], [0]),
  (5, .istore 4, 7, [], []),
  (7, .iload 4, 9, [], []),
  (9, .aload_n 0, 10, [0], []),
  (10, .getfield 10, 13, [], []),
  (13, .getfield 150, 16, [], []),
  (16, .iconst 0, 17, [], [0]),
  (17, .iaload, 18, [], []),
  (18, .if_icmp .ge 36, 21, [54], []),
  (21, .aload_n 0, 22, [0], []),
  (22, .getfield 53, 25, [], []),
  (25, .iload_n 1, 26, [1], []),
  (26, .iload 4, 28, [], []),
  (28, .invokevirtual 204, 31, [], []),
  (31, .ifCond .eq 7, 34, [38], []),
  (34, .iconst 0, 35, [], [0]),
  (35, .goto 6, 38, [41], []),
  (38, .iload_n 3, 39, [3], []),
  (39, .iconst 1, 40, [], [1]),
  (40, .iadd, 41, [], []),
  (41, .istore_n 3, 42, [3], []),
  (42, .iload_n 2, 43, [2], []),
  (43, .iload_n 3, 44, [3], []),
  (44, .invokestatic 343, 47, [], []),
  (47, .istore_n 2, 48, [2], []),
  (48, .iinc 4 1, 51, [], [1]),
  (51, .goto (-44), 54, [7], []),
  (54, .iload_n 2, 55, [2], []),
  (55, .ireturn, 56, [], [])]
theorem zo_X11_longestNotLookedAt : ab_ok cX11_longestNotLookedAt zp_X11_longestNotLookedAt = true := by decide +kernel
def zg_X11_longestNotLookedAt : ab_G := (zw_C, zs_tab, zf_X11, zc_X11, [(144, 50), (147, 51)], [(204, 3, zt_X10_lookedAt)], [(343, 2, zt_max)])
theorem zm_X11_longestNotLookedAt : ab_MG zg_X11_longestNotLookedAt := ab_MGof (List.forall_mem_cons.mpr ⟨ab_pp_mono _, List.forall_mem_nil _⟩) (List.forall_mem_cons.mpr ⟨ab_pure_mono _, List.forall_mem_nil _⟩)
abbrev zr_X11_longestNotLookedAt (Q : ab_R) : ab_K := ab_Run zg_X11_longestNotLookedAt zp_X11_longestNotLookedAt (some .int) 5 Q
set_option maxRecDepth 20000 in
theorem zv_X11_longestNotLookedAt_0 {Q : ab_R} {M : ab_M} {N : ab_N} (l1 : Int32) (h : zr_X11_longestNotLookedAt Q 7 [some (.ref 0), some (.int l1), some (.int (0 : Int32)), some (.int (0 : Int32)), some (.int (0 : Int32))] [] M N) : zr_X11_longestNotLookedAt Q 0 [some (.ref 0), some (.int l1)] [] M N := ab_Run_s zm_X11_longestNotLookedAt (sp := [(7, [true, true, true, true, true])]) 35 h
set_option maxRecDepth 20000 in
theorem zv_X11_longestNotLookedAt_7 {Q : ab_R} {M : ab_M} {N : ab_N} (l1 : Int32) (l2 : Int32) (l3 : Int32) (l4 : Int32) (h : vp_in (0 : Int32) 5 ∧ (((M 17 0) ≤ l4 → Q (some (.int l2)) M N) ∧ (¬ ((M 17 0) ≤ l4) → (vp_in (l4 * 8 + l1) 96) ∧ (((ab_b (¬ (M 38) (l4 * 8 + l1).toNatClampNeg = 0)) = 0 → zr_X11_longestNotLookedAt Q 7 [some (.ref 0), some (.int l1), some (.int (if l2 < (l3 + (1 : Int32)) then (l3 + (1 : Int32)) else l2)), some (.int (l3 + (1 : Int32))), some (.int (l4 + (1 : Int32)))] [] M N) ∧ (¬ ((ab_b (¬ (M 38) (l4 * 8 + l1).toNatClampNeg = 0)) = 0) → zr_X11_longestNotLookedAt Q 7 [some (.ref 0), some (.int l1), some (.int (if l2 < (0 : Int32) then (0 : Int32) else l2)), some (.int (0 : Int32)), some (.int (l4 + (1 : Int32)))] [] M N))))) : zr_X11_longestNotLookedAt Q 7 [some (.ref 0), some (.int l1), some (.int l2), some (.int l3), some (.int l4)] [] M N := ab_Run_s zm_X11_longestNotLookedAt (sp := [(7, [true, true, true, true, true])]) 35 h
theorem zL_X11_long {Q : ab_R} {M : ab_M} {N : ab_N} (h0 : zI0 M) (hW : zWalked M) (q : Nat) (hq : q < zPcs M) (kk : Q (some (.int (zLong (fun h => (zWk M h).2.2.2 q) (zHrs M)).1)) M N) :
    ∀ (n h : Nat), h + n = zHrs M → zr_X11_longestNotLookedAt Q 7 [some (.ref 0), some (.int (nI q)), some (.int (zLong (fun h => (zWk M h).2.2.2 q) h).1), some (.int (zLong (fun h => (zWk M h).2.2.2 q) h).2), some (.int (nI h))] [] M N := by
  obtain ⟨hP, hP8⟩ := zP_eq h0
  obtain ⟨hHe, hH12⟩ := zH_eq h0
  intro n
  induction n with
  | zero =>
    intro h hh
    have eh : h = zHrs M := by omega
    subst eh
    refine zv_X11_longestNotLookedAt_7 _ _ _ _ ⟨ab_vpk (by decide), ?_⟩
    rw [hHe]
    exact ⟨fun _ => kk, fun c => absurd (nI_le (by omega) (by omega)) c⟩
  | succ n ih =>
    intro h hh
    refine zv_X11_longestNotLookedAt_7 _ _ _ _ ⟨ab_vpk (by decide), ?_⟩
    rw [hHe]
    have ei : nI h * 8 + nI q = nI (h * 8 + q) := by rw [zN_mul h 8 8, nI_add]
    rw [ei, nI_clamp (show h * 8 + q < 2 ^ 31 by omega), ((hW h (by omega)).2 q hq).2, nI_1]
    refine ⟨fun c => absurd c (nI_ge (by omega) (by omega)), fun _ => ⟨nI_in_ (by omega), fun c => ?_, fun c => ?_⟩⟩
    · have := ih (h + 1) (by omega)
      unfold zLong at this
      simp only [if_pos (Decidable.not_not.mp (ab_b_0.mp c))] at this
      exact this
    · have := ih (h + 1) (by omega)
      unfold zLong at this
      simp only [if_neg (show ¬ (zWk M h).2.2.2 q = 0 from fun z => c (ab_b_0.mpr (fun z2 => z2 z)))] at this
      exact this
theorem zE_X11_longestNotLookedAt (as : List Value) (M : ab_M) (N : ab_N) (k : ab_R) (hT : zt_X11_longestNotLookedAt as M N k) : ab_cs as ≤ 5 ∧ zr_X11_longestNotLookedAt k 0 (ab_en as) [] M N := by
  obtain ⟨p, rfl, ⟨h0, hW, q, hq, rfl⟩, hk⟩ := ab_m1_e hT
  have hP := zPcs_lt M
  rw [nI_clamp (show q < 2 ^ 31 by omega)] at hk
  exact ⟨Nat.le_of_ble_eq_true rfl, zv_X11_longestNotLookedAt_0 _ (zL_X11_long h0 hW q hq (hk _ _ _ ⟨rfl, rfl, rfl⟩) (zHrs M) 0 (by omega))⟩
abbrev zR_X11_longestNotLookedAt : Room := { frames := 1, cells := 0, slots := 0, locals := 22 }
set_option maxRecDepth 20000 in
theorem zM_X11_longestNotLookedAt (l : Launch) : ab_Met l zw_C vwCl zZ_C yX11_longestNotLookedAt cX11_longestNotLookedAt 5 (some .int) zR_X11_longestNotLookedAt zt_X11_longestNotLookedAt := ab_ofRun (G := zg_X11_longestNotLookedAt) (P := zp_X11_longestNotLookedAt) rfl zo_X11_longestNotLookedAt (by decide +kernel) zl_cl zl_lamC zf_X11_ok zs_tabOK zc_X11_ok zs_X11_ok (List.forall_mem_cons.mpr ⟨ab_callV zZ_C_ok (zM_X10_lookedAt l) (ab_in 662 (by decide +kernel) rfl) (ab_in 707 (by decide +kernel) rfl) (ab_in 660 (by decide +kernel) rfl) (ab_in 661 (by decide +kernel) rfl) (ab_in 7 (by decide +kernel) rfl) (by unfold ab_yok; decide +kernel) ⟨rfl, rfl⟩ (by decide) zV_X10_lookedAt, List.forall_mem_nil _⟩) (List.forall_mem_cons.mpr ⟨ab_callMax (ab_in 720 (by decide +kernel) rfl) (ab_in 593 (by decide +kernel) rfl) (ab_in 18 (by decide +kernel) rfl) (ab_in 594 (by decide +kernel) rfl) (by decide) (by decide), List.forall_mem_nil _⟩) zE_X11_longestNotLookedAt
def zp_X11_rowRefused : ab_P := [(0, .aload_n 0, 1, [0], []),
  (1, .getfield 76, 4, [], []),
  (4, .iload_n 1, 5, [1], []),
  (5, .invokevirtual 278, 8, [], []),
  (8, .ifCond .ne 6, 11, [14], []),
  (11, .bipush (-2), 13, [], [(-2)]),
  (13, .ireturn, 14, [], []),
  (14, .aload_n 0, 15, [0], []),
  (15, .getfield 76, 18, [], []),
  (18, .getfield 279, 21, [], []),
  (21, .iload_n 1, 22, [1], []),
  (22, .iaload, 23, [], []),
  (23, .iconst (-1), 24, [], [(-1)]),
  (24, .if_icmp .ne 6, 27, [30], []),
  (27, .bipush (-11), 29, [], [(-11)]),
  (29, .ireturn, 30, [], []),
  (30, .aload_n 0, 31, [0], []),
  (31, .getfield 76, 34, [], []),
  (34, .getfield 282, 37, [], []),
  (37, .iload_n 1, 38, [1], []),
  (38, .iaload, 39, [], []),
  (39, .iload_n 2, 40, [2], []),
  (40, .if_icmp .eq 6, 43, [46], []),
  (43, .bipush (-2), 45, [], [(-2)]),
  (45, .ireturn, 46, [], []),
  (46, .iconst 0, 47, [], [0]),
  (47, .istore 4, 49, [], []),
  (49, .iload 4, 51, [], []),
  (51, .iload_n 2, 52, [2], []),
  (52, .if_icmp .ge 30, 55, [82], []),
  (55, .aload_n 0, 56, [0], []),
  (56, .getfield 76, 59, [], []),
  (59, .iload_n 1, 60, [1], []),
  (60, .iload 4, 62, [], []),
  (62, .invokevirtual 176, 65, [], []),
  (65, .iconst 0, 66, [], [0]),
  (66, .iload_n 3, 67, [3], []),
  (67, .invokestatic 117, 70, [], []),
  (70, .ifCond .ne 6, 73, [76], []),
  (73, .bipush (-2), 75, [], [(-2)]),
  (75, .ireturn, 76, [], []),
  (76, .iinc 4 1, 79, [], [1]),
  (79, .goto (-30), 82, [49], []),
  (82, .iconst 0, 83, [], [0]),
  (83, .ireturn, 84, [], [])]
theorem zo_X11_rowRefused : ab_ok cX11_rowRefused zp_X11_rowRefused = true := by decide +kernel
def zg_X11_rowRefused : ab_G := (zw_C, zs_tab, zf_X11, zc_X11, [(144, 50), (147, 51)], [(176, 3, zt_X7_at), (278, 2, zt_X7_has)], [(117, 3, zt_X11_within)])
theorem zm_X11_rowRefused : ab_MG zg_X11_rowRefused := ab_MGof (List.forall_mem_cons.mpr ⟨ab_pp_mono _, List.forall_mem_cons.mpr ⟨ab_pure_mono _, List.forall_mem_nil _⟩⟩) (List.forall_mem_cons.mpr ⟨ab_pure_mono _, List.forall_mem_nil _⟩)
abbrev zr_X11_rowRefused (Q : ab_R) : ab_K := ab_Run zg_X11_rowRefused zp_X11_rowRefused (some .int) 5 Q
set_option maxRecDepth 20000 in
theorem zv_X11_rowRefused_0 {Q : ab_R} {M : ab_M} {N : ab_N} (l1 : Int32) (l2 : Int32) (l3 : Int32) (h : ((ab_b (0 ≤ l1 ∧ l1 < 4)) = 0 → Q (some (.int (-2 : Int32))) M N) ∧ (¬ ((ab_b (0 ≤ l1 ∧ l1 < 4)) = 0) → vp_in l1 4 ∧ (((M 43 l1.toNatClampNeg) = (-1 : Int32) → Q (some (.int (-11 : Int32))) M N) ∧ (¬ ((M 43 l1.toNatClampNeg) = (-1 : Int32)) → vp_in l1 4 ∧ (((M 44 l1.toNatClampNeg) = l2 → zr_X11_rowRefused Q 49 [some (.ref 0), some (.int l1), some (.int l2), some (.int l3), some (.int (0 : Int32))] [] M N) ∧ (¬ ((M 44 l1.toNatClampNeg) = l2) → Q (some (.int (-2 : Int32))) M N)))))) : zr_X11_rowRefused Q 0 [some (.ref 0), some (.int l1), some (.int l2), some (.int l3)] [] M N := ab_Run_s zm_X11_rowRefused (sp := [(49, [true, true, true, true, true])]) 47 h
set_option maxRecDepth 20000 in
theorem zv_X11_rowRefused_49 {Q : ab_R} {M : ab_M} {N : ab_N} (l1 : Int32) (l2 : Int32) (l3 : Int32) (l4 : Int32) (h : (l2 ≤ l4 → Q (some (.int (0 : Int32))) M N) ∧ (¬ (l2 ≤ l4) → ((0 ≤ l1 ∧ l1 < 4 → (M 44) l1.toNatClampNeg ≤ 40)) ∧ (((ab_b ((0 : Int32) ≤ (if 0 ≤ l1 ∧ l1 < 4 ∧ 0 ≤ l4 ∧ l4 < (M 44) l1.toNatClampNeg then (M 45) (l1 * 40 + l4).toNatClampNeg else 0) ∧ (if 0 ≤ l1 ∧ l1 < 4 ∧ 0 ≤ l4 ∧ l4 < (M 44) l1.toNatClampNeg then (M 45) (l1 * 40 + l4).toNatClampNeg else 0) ≤ l3)) = 0 → Q (some (.int (-2 : Int32))) M N) ∧ (¬ ((ab_b ((0 : Int32) ≤ (if 0 ≤ l1 ∧ l1 < 4 ∧ 0 ≤ l4 ∧ l4 < (M 44) l1.toNatClampNeg then (M 45) (l1 * 40 + l4).toNatClampNeg else 0) ∧ (if 0 ≤ l1 ∧ l1 < 4 ∧ 0 ≤ l4 ∧ l4 < (M 44) l1.toNatClampNeg then (M 45) (l1 * 40 + l4).toNatClampNeg else 0) ≤ l3)) = 0) → zr_X11_rowRefused Q 49 [some (.ref 0), some (.int l1), some (.int l2), some (.int l3), some (.int (l4 + (1 : Int32)))] [] M N)))) : zr_X11_rowRefused Q 49 [some (.ref 0), some (.int l1), some (.int l2), some (.int l3), some (.int l4)] [] M N := ab_Run_s zm_X11_rowRefused (sp := [(49, [true, true, true, true, true])]) 47 h
theorem zL_X11_rowRefused {Q : ab_R} {M : ab_M} {N : ab_N} (q n : Nat) (mx r : Int32) (hq : q < 4) (hn : n ≤ 40) (h44 : M 44 q = nI n) (kk : Q (some (.int r)) M N) :
    ∀ (m i : Nat), i + m = n → (r = if zAllS (fun i => M 45 (q * 40 + i)) mx i m = true then 0 else -2) → zr_X11_rowRefused Q 49 [some (.ref 0), some (.int (nI q)), some (.int (nI n)), some (.int mx), some (.int (nI i))] [] M N := by
  intro m
  induction m with
  | zero =>
    intro i hi hr
    have ei : i = n := by omega
    subst ei
    have hr2 : r = 0 := hr.trans (if_pos rfl)
    subst hr2
    exact zv_X11_rowRefused_49 _ _ _ _ ⟨fun _ => kk, fun c => absurd (nI_le (by omega) (by omega)) c⟩
  | succ m ih =>
    intro i hi hr
    have e45 : (if 0 ≤ nI q ∧ nI q < 4 ∧ 0 ≤ nI i ∧ nI i < (M 44) (nI q).toNatClampNeg then (M 45) (nI q * 40 + nI i).toNatClampNeg else 0) = M 45 (q * 40 + i) := by
      rw [nI_clamp (show q < 2 ^ 31 by omega), h44, if_pos ⟨nI_pos' (by omega), nI_lt (a := q) (b := 4) hq (by omega), nI_pos' (by omega), nI_lt (by omega) (by omega)⟩, zN_mul q 40 40, nI_add, nI_clamp (by omega)]
    unfold zAllS at hr
    refine zv_X11_rowRefused_49 _ _ _ _ ⟨fun c => absurd c (nI_ge (by omega) (by omega)), fun _ => ⟨fun _ => ?_, ?_⟩⟩
    · rw [nI_clamp (show q < 2 ^ 31 by omega), h44]
      exact nI_le (a := n) (b := 40) hn (by omega)
    · rw [e45, nI_1]
      refine ⟨fun c => ?_, fun c => ?_⟩
      · have c2 := ab_b_0.mp c
        rw [decide_eq_false c2, if_neg (by simp)] at hr
        subst hr
        exact kk
      · have c2 := Decidable.not_not.mp (fun z => c (ab_b_0.mpr z))
        refine ih (i + 1) (by omega) ?_
        rw [decide_eq_true c2, Bool.true_and] at hr
        exact hr
theorem zE_X11_rowRefused (as : List Value) (M : ab_M) (N : ab_N) (k : ab_R) (hT : zt_X11_rowRefused as M N k) : ab_cs as ≤ 5 ∧ zr_X11_rowRefused k 0 (ab_en as) [] M N := by
  obtain ⟨s, n, mx, rfl, hS, hk⟩ := ab_m3_e hT
  have hk2 := hk _ _ _ ⟨rfl, rfl, rfl⟩
  unfold zRefused at hk2
  refine ⟨Nat.le_of_ble_eq_true rfl, zv_X11_rowRefused_0 _ _ _ ⟨fun c => ?_, fun c => ?_⟩⟩
  · rw [if_pos (ab_b_0.mp c)] at hk2
    exact hk2
  · have c2 := Decidable.not_not.mp (fun z => c (ab_b_0.mpr z))
    rw [if_neg (fun z => z c2)] at hk2
    obtain ⟨q, hq, rfl⟩ := nI_of (Int32.not_lt.mpr c2.1)
    have hq4 : q < 4 := (nI_ltI hq (by omega)).mp (show nI q < nI 4 from c2.2)
    obtain ⟨sz, hs1, hs2⟩ := hS q hq4
    rw [nI_clamp hq, hs2] at hk2
    refine ⟨nI_in_ (by omega), ?_⟩
    rw [nI_clamp hq, hs2]
    refine ⟨fun c3 => ?_, fun c3 => ⟨nI_in_ (by omega), fun c4 => ?_, fun c4 => ?_⟩⟩
    · rw [if_pos c3] at hk2
      exact hk2
    · rw [if_neg c3, if_neg (fun z => z c4)] at hk2
      subst c4
      rw [nI_clamp (by omega)] at hk2
      exact zL_X11_rowRefused q sz mx _ hq4 hs1 hs2 hk2 sz 0 (by omega) rfl
    · rw [if_neg c3, if_pos c4] at hk2
      exact hk2
abbrev zR_X11_rowRefused : Room := { frames := 3, cells := 0, slots := 0, locals := 65 }
set_option maxRecDepth 20000 in
theorem zM_X11_rowRefused (l : Launch) : ab_Met l zw_C vwCl zZ_C yX11_rowRefused cX11_rowRefused 5 (some .int) zR_X11_rowRefused zt_X11_rowRefused := ab_ofRun (G := zg_X11_rowRefused) (P := zp_X11_rowRefused) rfl zo_X11_rowRefused (by decide +kernel) zl_cl zl_lamC zf_X11_ok zs_tabOK zc_X11_ok zs_X11_ok (List.forall_mem_cons.mpr ⟨ab_callV zZ_C_ok (zM_X7_at l) (ab_in 625 (by decide +kernel) rfl) (ab_in 622 (by decide +kernel) rfl) (ab_in 623 (by decide +kernel) rfl) (ab_in 624 (by decide +kernel) rfl) (ab_in 10 (by decide +kernel) rfl) (by unfold ab_yok; decide +kernel) ⟨rfl, rfl⟩ (by decide) zV_X7_at, List.forall_mem_cons.mpr ⟨ab_callV zZ_C_ok (zM_X7_has l) (ab_in 621 (by decide +kernel) rfl) (ab_in 618 (by decide +kernel) rfl) (ab_in 619 (by decide +kernel) rfl) (ab_in 620 (by decide +kernel) rfl) (ab_in 10 (by decide +kernel) rfl) (by unfold ab_yok; decide +kernel) ⟨rfl, rfl⟩ (by decide) zV_X7_has, List.forall_mem_nil _⟩⟩) (List.forall_mem_cons.mpr ⟨ab_callS zZ_C_ok (zM_X11_within l) (ab_in 538 (by decide +kernel) rfl) (ab_in 536 (by decide +kernel) rfl) (ab_in 537 (by decide +kernel) rfl) (ab_in 1 (by decide +kernel) rfl) (by unfold ab_yok; decide +kernel) ⟨rfl, rfl⟩ (by decide), List.forall_mem_nil _⟩) zE_X11_rowRefused
def zp_X11_holedOften : ab_P := [(0, .iconst 0, 1, [], [0]),
  (1, .istore_n 2, 2, [2], []),
  (2, .iconst 0, 3, [], [0]),
  (3, .istore_n 3, 4, [3], []),
  (4, .iload_n 3, 5, [3], []),
  (5, .aload_n 0, 6, [0], []),
  (6, .getfield 10, 9, [], []),
  (9, .getfield 121, 12, [], []),
  (12, .if_icmp .ge 21, 15, [33], []),
  (15, .iload_n 2, 16, [2], []),
  (16, .aload_n 0, 17, [0], []),
  (17, .getfield 76, 20, [], []),
  (20, .iload_n 1, 21, [1], []),
  (21, .iload_n 3, 22, [3], []),
  (22, .invokevirtual 176, 25, [], []),
  (25, .iadd, 26, [], []),
  (26, .istore_n 2, 27, [2], []),
  (27, .iinc 3 1, 30, [], [1]),
  (30, .goto (-26), 33, [4], []),
  (33, .iconst 0, 34, [], [0]),
  (34, .istore_n 3, 35, [3], []),
  (35, .iconst 0, 36, [], [0]),
  (36, .istore 4, 38, [], []),
  (38, .iload 4, 40, [], []),
  (40, .aload_n 0, 41, [0], []),
  (41, .getfield 10, 44, [], []),
  (44, .getfield 121, 47, [], []),
  (47, .if_icmp .ge 44, 50, [91], []),
  (50, .iload_n 3, 51, [3], []),
  (51, .aload_n 0, 52, [0], []),
  (52, .getfield 76, 55, [], []),
  (55, .iload_n 1, 56, [1], []),
  (56, .iload 4, 58, [], []),
  (58, .invokevirtual 176, 61, [], []),
  (61, .aload_n 0, 62, [0], []),
  (62, .getfield 10, 65, [], []),
  (65, .getfield 121, 68, [], []),
  (68, .imul, 69, [], []),
  (69, .iconst 2, 70, [], [2]),
  (70, .iload_n 2, 71, [2], []),
  (71, .imul, 72, [], []),
  (72, .if_icmp .le 10, 75, [82], []),
  (75, .iconst 1, 76, [], [1]),
  (76, .iload 4, 78, [], []),
  (78, .ishl, 79, [], []),
  (79, .goto 4, 82, [83], []),
  (82, .iconst 0, 83, [], [0]),
  (83, .ior, 84, [], []),
  (84, .istore_n 3, 85, [3], []),
  (85, .iinc 4 1, 88, [], [1]),
  (88, .goto (-50), 91, [38], []),
  (91, .iload_n 3, 92, [3], []),
  (92, .ireturn, 93, [], [])]
theorem zo_X11_holedOften : ab_ok cX11_holedOften zp_X11_holedOften = true := by decide +kernel
def zg_X11_holedOften : ab_G := (zw_C, zs_tab, zf_X11, zc_X11, [(144, 50), (147, 51)], [(176, 3, zt_X7_at)], [])
theorem zm_X11_holedOften : ab_MG zg_X11_holedOften := ab_MGof (List.forall_mem_cons.mpr ⟨ab_pp_mono _, List.forall_mem_nil _⟩) (List.forall_mem_nil _)
abbrev zr_X11_holedOften (Q : ab_R) : ab_K := ab_Run zg_X11_holedOften zp_X11_holedOften (some .int) 5 Q
set_option maxRecDepth 20000 in
theorem zv_X11_holedOften_0 {Q : ab_R} {M : ab_M} {N : ab_N} (l1 : Int32) (h : zr_X11_holedOften Q 4 [some (.ref 0), some (.int l1), some (.int (0 : Int32)), some (.int (0 : Int32)), none] [] M N) : zr_X11_holedOften Q 0 [some (.ref 0), some (.int l1)] [] M N := ab_Run_s zm_X11_holedOften (sp := [(4, [true, true, true, true, false]), (38, [true, true, true, true, true])]) 55 h
set_option maxRecDepth 20000 in
theorem zv_X11_holedOften_4 {Q : ab_R} {M : ab_M} {N : ab_N} (l1 : Int32) (l2 : Int32) (l3 : Int32) (h : ((M 1 4) ≤ l3 → zr_X11_holedOften Q 38 [some (.ref 0), some (.int l1), some (.int l2), some (.int (0 : Int32)), some (.int (0 : Int32))] [] M N) ∧ (¬ ((M 1 4) ≤ l3) → ((0 ≤ l1 ∧ l1 < 4 → (M 44) l1.toNatClampNeg ≤ 40)) ∧ (zr_X11_holedOften Q 4 [some (.ref 0), some (.int l1), some (.int (l2 + (if 0 ≤ l1 ∧ l1 < 4 ∧ 0 ≤ l3 ∧ l3 < (M 44) l1.toNatClampNeg then (M 45) (l1 * 40 + l3).toNatClampNeg else 0))), some (.int (l3 + (1 : Int32))), none] [] M N))) : zr_X11_holedOften Q 4 [some (.ref 0), some (.int l1), some (.int l2), some (.int l3), none] [] M N := ab_Run_s zm_X11_holedOften (sp := [(4, [true, true, true, true, false]), (38, [true, true, true, true, true])]) 55 h
set_option maxRecDepth 20000 in
theorem zv_X11_holedOften_38 {Q : ab_R} {M : ab_M} {N : ab_N} (l1 : Int32) (l2 : Int32) (l3 : Int32) (l4 : Int32) (h : ((M 1 4) ≤ l4 → Q (some (.int l3)) M N) ∧ (¬ ((M 1 4) ≤ l4) → ((0 ≤ l1 ∧ l1 < 4 → (M 44) l1.toNatClampNeg ≤ 40)) ∧ ((((if 0 ≤ l1 ∧ l1 < 4 ∧ 0 ≤ l4 ∧ l4 < (M 44) l1.toNatClampNeg then (M 45) (l1 * 40 + l4).toNatClampNeg else 0) * (M 1 4)) ≤ ((2 : Int32) * l2) → zr_X11_holedOften Q 38 [some (.ref 0), some (.int l1), some (.int l2), some (.int (l3 ||| (0 : Int32))), some (.int (l4 + (1 : Int32)))] [] M N) ∧ (¬ (((if 0 ≤ l1 ∧ l1 < 4 ∧ 0 ≤ l4 ∧ l4 < (M 44) l1.toNatClampNeg then (M 45) (l1 * 40 + l4).toNatClampNeg else 0) * (M 1 4)) ≤ ((2 : Int32) * l2)) → zr_X11_holedOften Q 38 [some (.ref 0), some (.int l1), some (.int l2), some (.int (l3 ||| ((1 : Int32) <<< (l4 &&& 31)))), some (.int (l4 + (1 : Int32)))] [] M N)))) : zr_X11_holedOften Q 38 [some (.ref 0), some (.int l1), some (.int l2), some (.int l3), some (.int l4)] [] M N := ab_Run_s zm_X11_holedOften (sp := [(4, [true, true, true, true, false]), (38, [true, true, true, true, true])]) 55 h
theorem zE_X11_holedOften (as : List Value) (M : ab_M) (N : ab_N) (k : ab_R) (hT : zt_X11_holedOften as M N k) : ab_cs as ≤ 5 ∧ zr_X11_holedOften k 0 (ab_en as) [] M N := by
  obtain ⟨s, rfl, ⟨h0, q, hq, rfl, h44⟩, hk⟩ := ab_m1_e hT
  obtain ⟨hP, hP8⟩ := zP_eq h0
  have hk2 := hk _ _ _ ⟨rfl, rfl, rfl⟩
  rw [nI_clamp (show q < 2 ^ 31 by omega)] at hk2
  have e45 : ∀ i, i < zPcs M → (if 0 ≤ nI q ∧ nI q < 4 ∧ 0 ≤ nI i ∧ nI i < (M 44) (nI q).toNatClampNeg then (M 45) (nI q * 40 + nI i).toNatClampNeg else 0) = M 45 (q * 40 + i) := by
    intro i hi
    rw [nI_clamp (show q < 2 ^ 31 by omega), h44, hP, if_pos ⟨nI_pos' (by omega), nI_lt (a := q) (b := 4) hq (by omega), nI_pos' (by omega), nI_lt (by omega) (by omega)⟩, zN_mul q 40 40, nI_add, nI_clamp (by omega)]
  have hs : (0 ≤ nI q ∧ nI q < 4 → (M 44) (nI q).toNatClampNeg ≤ 40) := fun _ => by
    rw [nI_clamp (show q < 2 ^ 31 by omega), h44, hP]
    exact nI_le (a := zPcs M) (b := 40) (by omega) (by omega)
  refine ⟨Nat.le_of_ble_eq_true rfl, zv_X11_holedOften_0 _ ?_⟩
  have l2 : ∀ (n i : Nat), i + n = zPcs M → zr_X11_holedOften k 38 [some (.ref 0), some (.int (nI q)), some (.int (zSumS M q (zPcs M))), some (.int (zHoled M q i)), some (.int (nI i))] [] M N := by
    intro n
    induction n with
    | zero =>
      intro i hi
      have ei : i = zPcs M := by omega
      subst ei
      refine zv_X11_holedOften_38 _ _ _ _ ⟨fun _ => hk2, fun c => absurd ?_ c⟩
      rw [hP]
      exact nI_le (by omega) (by omega)
    | succ n ih =>
      intro i hi
      have h1 := ih (i + 1) (by omega)
      unfold zHoled at h1
      refine zv_X11_holedOften_38 _ _ _ _ ⟨fun c => ?_, fun _ => ⟨hs, ?_⟩⟩
      · rw [hP] at c
        exact absurd c (nI_ge (by omega) (by omega))
      · rw [e45 i (by omega), nI_1]
        refine ⟨fun c => ?_, fun c => ?_⟩
        · rw [if_pos c] at h1
          exact h1
        · rw [if_neg c] at h1
          exact h1
  have l1 : ∀ (n i : Nat), i + n = zPcs M → zr_X11_holedOften k 4 [some (.ref 0), some (.int (nI q)), some (.int (zSumS M q i)), some (.int (nI i)), none] [] M N := by
    intro n
    induction n with
    | zero =>
      intro i hi
      have ei : i = zPcs M := by omega
      subst ei
      refine zv_X11_holedOften_4 _ _ _ ⟨fun _ => l2 (zPcs M) 0 (by omega), fun c => absurd ?_ c⟩
      rw [hP]
      exact nI_le (by omega) (by omega)
    | succ n ih =>
      intro i hi
      refine zv_X11_holedOften_4 _ _ _ ⟨fun c => ?_, fun _ => ⟨hs, ?_⟩⟩
      · rw [hP] at c
        exact absurd c (nI_ge (by omega) (by omega))
      · rw [e45 i (by omega), nI_1]
        exact ih (i + 1) (by omega)
  exact l1 (zPcs M) 0 (by omega)
abbrev zR_X11_holedOften : Room := { frames := 3, cells := 0, slots := 0, locals := 65 }
set_option maxRecDepth 20000 in
theorem zM_X11_holedOften (l : Launch) : ab_Met l zw_C vwCl zZ_C yX11_holedOften cX11_holedOften 5 (some .int) zR_X11_holedOften zt_X11_holedOften := ab_ofRun (G := zg_X11_holedOften) (P := zp_X11_holedOften) rfl zo_X11_holedOften (by decide +kernel) zl_cl zl_lamC zf_X11_ok zs_tabOK zc_X11_ok zs_X11_ok (List.forall_mem_cons.mpr ⟨ab_callV zZ_C_ok (zM_X7_at l) (ab_in 625 (by decide +kernel) rfl) (ab_in 622 (by decide +kernel) rfl) (ab_in 623 (by decide +kernel) rfl) (ab_in 624 (by decide +kernel) rfl) (ab_in 10 (by decide +kernel) rfl) (by unfold ab_yok; decide +kernel) ⟨rfl, rfl⟩ (by decide) zV_X7_at, List.forall_mem_nil _⟩) (List.forall_mem_nil _) zE_X11_holedOften
end
section
/-! Drawing *)
-/
/-- cells that the night doesn't see -/
abbrev zGx : List Nat := [4, 8, 9, 10, 11, 12, 19, 20, 21, 22, 23, 24, 33, 34, 35, 36, 37, 38, 39, 40, 41, 42, 43, 44, 45, 46]
abbrev zGy : List Nat := [4, 8, 9, 10, 11, 12, 19, 20, 21, 22, 23, 24, 33, 34, 35, 37, 38, 39, 40, 41, 42, 43, 44, 45, 46]
theorem zNight_gx {M M2 : ab_M} (hN : zNight M) (hA : zAsks M2) (hF : zFr zGx M M2) : zNight M2 := by
  obtain ⟨-, h0, h1⟩ := hN
  refine ⟨hA, ?_, ?_⟩
  · unfold zI0 at h0 ⊢
    rw [hF 17 (by decide), hF 1 (by decide), hF 2 (by decide)]
    exact h0
  · unfold zI1 zMen at h1 ⊢
    rw [hF 2 (by decide), hF 25 (by decide), hF 26 (by decide), hF 27 (by decide), hF 28 (by decide), hF 29 (by decide), hF 1 (by decide), hF 6 (by decide)]
    exact h1
theorem zAsk_gx {M M2 : ab_M} (h : zFr zGx M M2) : zAsk M2 = zAsk M := by
  funext th p h2 st pc
  unfold zAsk zIs
  rw [zAskN_fr (h 3 (by decide)) (h 13 (by decide)) (h 14 (by decide)) (h 17 (by decide)) (h 18 (by decide)) (h 31 (by decide)) (h 32 (by decide)), h 15 (by decide)]
theorem zAsks_gy {M M2 : ab_M} (h : zAsks M) (hF : zFr zGy M M2) : zAsks M2 := by
  obtain ⟨h1, h2, h3⟩ := h
  refine ⟨?_, zCache_fr h2 (hF 3 (by decide)) (by rw [hF 5 (by decide)]) (hF 13 (by decide)) (hF 14 (by decide)) (hF 17 (by decide)) (hF 18 (by decide)) (hF 31 (by decide)) (hF 32 (by decide)) (hF 36 (by decide)), ?_⟩
  · unfold zLawOK at h1 ⊢
    rw [hF 3 (by decide), hF 32 (by decide)]
    exact h1
  · rw [hF 15 (by decide)]
    exact h3
theorem zEqv_gx {M M2 : ab_M} (hF : zFr zGx M M2) : zEqv M M2 := ⟨zAsk_gx hF, hF 1 (by decide), hF 2 (by decide), zEqT_rf (hF 6 (by decide)), hF 16 (by decide), hF 17 (by decide), hF 25 (by decide), hF 26 (by decide), hF 27 (by decide), hF 28 (by decide), hF 29 (by decide), hF 30 (by decide)⟩
/-- holes, the lot, harm, how many broke, how many were found -/
abbrev zDs : Type := (Nat → Nat) × Int64 × Int64 × Int32 × Int32
def zUp (f : Nat → Nat) (k v : Nat) : Nat → Nat := fun j => if j = k then v else f j
def zLot (l : Int64) : Int64 := l * 48271 - l * 48271 / 2147483647 * 2147483647
def zDGrow (d : ab_M) (p h sc : Nat) (s : zDs) : zDs :=
  if s.1 p = 0 then (zUp s.1 p (if zLot s.2.1 - zLot s.2.1 / 1000 * 1000 < lN (zAsk d 0 p h sc 0) then 1 else 0), zLot s.2.1, s.2.2)
  else if s.1 p + 1 = zBrk d then (zUp s.1 p (s.1 p + 1), s.2.1, s.2.2.1 + lN (zAsk d 2 p h (s.1 p + 1) 0), s.2.2.2.1 + 1, s.2.2.2.2)
  else (zUp s.1 p (s.1 p + 1), s.2)
def zDLook1 (d : ab_M) (p h pc : Nat) (s : zDs) : zDs :=
  if s.1 p = 0 ∨ s.1 p = zBrk d then s
  else if zLot s.2.1 - zLot s.2.1 / 100 * 100 < lN (zAsk d 1 p h (s.1 p) pc) then (zUp s.1 p 0, zLot s.2.1, s.2.2.1 + lN (zAsk d 2 p h (s.1 p) 0), s.2.2.2.1, s.2.2.2.2 + 1)
  else (s.1, zLot s.2.1, s.2.2)
def zDLooks (d : ab_M) (p h : Nat) (lk : Int32) : Nat → zDs → zDs
  | 0, s => s
  | w + 1, s => if zBit lk w then zDLook1 d p h (zPace d w) (zDLooks d p h lk w s) else zDLooks d p h lk w s
def zDP (d : ab_M) (h p : Nat) (s : zDs) : zDs := if s.1 p < zBrk d then zDLooks d p h ((zWk d h).2.2.2 p) 8 (zDGrow d p h (zSc d h p) s) else s
def zDHour (d : ab_M) (h : Nat) : Nat → zDs → zDs
  | 0, s => s
  | p + 1, s => zDP d h p (zDHour d h p s)
def zDAll (d : ab_M) (s : zDs) : Nat → zDs
  | 0 => s
  | h + 1 => zDHour d h (zPcs d) (zDAll d s h)
def zDs0 (seed : Int32) : zDs := (fun _ => 0, seed.toInt64 + 1, 0, 0, 0)
/-- the drawing's rows hold a state -/
def zHd (b : Nat) (M : ab_M) (N : ab_N) (s : zDs) : Prop := (∀ p, p < 8 → M 42 p = nI (s.1 p) ∧ s.1 p ≤ b) ∧ N 8 4 = s.2.1 ∧ N 8 5 = s.2.2.1 ∧ M 8 6 = s.2.2.2.1 ∧ M 8 7 = s.2.2.2.2
def zt_X3_look : ab_T := ab_m3 8 (fun p h w M N => zNight M ∧ zWalked M ∧ ∃ q g u : Nat, q < zPcs M ∧ g < zHrs M ∧ u < 8 ∧ p = nI q ∧ h = nI g ∧ w = nI u ∧ ∃ s, zHd (zBrk M) M N s)
  (fun p h w M N o M2 N2 => o = none ∧ zFr [8, 33, 35, 36, 42] M M2 ∧ zAsks M2 ∧ zNfr [8] N N2 ∧ ∀ s, zHd (zBrk M) M N s → zHd (zBrk M) M2 N2 (if zBit ((zWk M h.toNatClampNeg).2.2.2 p.toNatClampNeg) w.toNatClampNeg then zDLook1 M p.toNatClampNeg h.toNatClampNeg (zPace M w.toNatClampNeg) s else s))
theorem zt_X3_look_mono : ab_mono zt_X3_look := ab_m3_mono _ _ _
theorem zV_X3_look : ab_recv zw_C vwCl RX3 zt_X3_look := ab_m3_v rfl rfl
def zt_X3_grow : ab_T := ab_m2 8 (fun p h M N => zNight M ∧ zWalked M ∧ ∃ q g : Nat, q < zPcs M ∧ g < zHrs M ∧ p = nI q ∧ h = nI g ∧ ∃ s, zHd (zBrk M) M N s ∧ s.1 q < zBrk M)
  (fun p h M N o M2 N2 => o = none ∧ zFr [8, 33, 35, 36, 42] M M2 ∧ zAsks M2 ∧ zNfr [8] N N2 ∧ ∀ s, zHd (zBrk M) M N s → zHd (zBrk M) M2 N2 (zDGrow M p.toNatClampNeg h.toNatClampNeg (zSc M h.toNatClampNeg p.toNatClampNeg) s))
theorem zt_X3_grow_mono : ab_mono zt_X3_grow := ab_m2_mono _ _ _
theorem zV_X3_grow : ab_recv zw_C vwCl RX3 zt_X3_grow := ab_m2_v rfl rfl
def zt_X3_go : ab_T := ab_m1 8 (fun _ M _ => zNight M ∧ zWalked M)
  (fun x M N o M2 N2 => o = none ∧ zFr [8, 33, 35, 36, 42] M M2 ∧ zAsks M2 ∧ zNfr [8] N N2 ∧ zHd (zBrk M) M2 N2 (zDAll M (zDs0 x) (zHrs M)))
theorem zt_X3_go_mono : ab_mono zt_X3_go := ab_m1_mono _ _ _
theorem zV_X3_go : ab_recv zw_C vwCl RX3 zt_X3_go := ab_m1_v rfl rfl
theorem zHd_mk {b : Nat} {M : ab_M} {N : ab_N} {f : Nat → Nat} {l ha : Int64} {br fo : Int32} (h1 : ∀ p, p < 8 → M 42 p = nI (f p) ∧ f p ≤ b) (h2 : N 8 4 = l) (h3 : N 8 5 = ha) (h4 : M 8 6 = br) (h5 : M 8 7 = fo) : zHd b M N (f, l, ha, br, fo) := ⟨h1, h2, h3, h4, h5⟩
theorem zHd_eq {b : Nat} {M : ab_M} {N : ab_N} {f f2 : Nat → Nat} {l ha : Int64} {br fo : Int32} {t : Int64 × Int64 × Int32 × Int32} (h : zHd b M N (f, l, ha, br, fo)) (h2 : zHd b M N (f2, t)) (hb : b ≤ 6) : (∀ p, p < 8 → f2 p = f p) ∧ t = (l, ha, br, fo) := by
  obtain ⟨a1, a2, a3, a4, a5⟩ := h
  obtain ⟨l2, ha2, br2, fo2⟩ := t
  obtain ⟨c1, c2, c3, c4, c5⟩ := h2
  dsimp only at a1 a2 a3 a4 a5 c1 c2 c3 c4 c5
  refine ⟨fun p hp => ?_, ?_⟩
  · have e1 := (a1 p hp).2
    have e2 := (c1 p hp).2
    exact (nI_eq (by omega) (by omega)).mp ((c1 p hp).1.symm.trans (a1 p hp).1)
  · rw [← a2, ← a3, ← a4, ← a5, ← c2, ← c3, ← c4, ← c5]
theorem zDLook1_0 {d : ab_M} {p h pc : Nat} {f : Nat → Nat} {l ha : Int64} {br fo : Int32} (c : f p = 0 ∨ f p = zBrk d) : zDLook1 d p h pc (f, l, ha, br, fo) = (f, l, ha, br, fo) := by
  unfold zDLook1
  rw [if_pos c]
theorem zDLook1_1 {d : ab_M} {p h pc : Nat} {f : Nat → Nat} {l L ha : Int64} {br fo : Int32} (c : ¬ (f p = 0 ∨ f p = zBrk d)) (e : zLot l = L) (c2 : ¬ (L - L / 100 * 100 < lN (zAsk d 1 p h (f p) pc))) : zDLook1 d p h pc (f, l, ha, br, fo) = (f, L, ha, br, fo) := by
  unfold zDLook1
  dsimp only
  rw [if_neg c, e, if_neg c2]
theorem zDLook1_2 {d : ab_M} {p h pc : Nat} {f : Nat → Nat} {l L ha : Int64} {br fo : Int32} (c : ¬ (f p = 0 ∨ f p = zBrk d)) (e : zLot l = L) (c2 : L - L / 100 * 100 < lN (zAsk d 1 p h (f p) pc)) : zDLook1 d p h pc (f, l, ha, br, fo) = (zUp f p 0, L, ha + lN (zAsk d 2 p h (f p) 0), br, fo + 1) := by
  unfold zDLook1
  dsimp only
  rw [if_neg c, e, if_pos c2]
theorem zPace_ep {M : ab_M} (h0 : zI0 M) (h1 : zI1 M) {w : Nat} (hw : w < 8) : (if 0 ≤ nI w ∧ nI w < (M 2) 6 ∧ nI w < 5 then (M 28) (nI w).toNatClampNeg else if nI w = 7 then 1 else 0) = nI (zPace M w) := by
  obtain ⟨hMe, hM5⟩ := zM_eq h0
  rw [nI_clamp (show w < 2 ^ 31 by omega), hMe]
  unfold zPace
  by_cases c4 : w < zMen M
  · rw [if_pos ⟨nI_pos' (by omega), nI_lt c4 (by omega), nI_lt (a := w) (b := 5) (by omega) (by omega)⟩, if_pos c4]
    obtain ⟨-, -, -, g4, -⟩ := h1 w c4
    exact (zNat 3 3 (by grind) g4.2).1
  · rw [if_neg (fun z => c4 ((nI_ltI (by omega) (by omega)).mp z.2.1)), if_neg c4]
    by_cases c5 : w = 7
    · rw [c5]; rfl
    · have c6 : ¬ nI w = 7 := fun z => c5 ((nI_eq (by omega) (by omega)).mp (show nI w = nI 7 from z))
      simp only [c5, c6, if_false]; rfl
def zp_X3_look : ab_P := [(0, .aload_n 0, 1, [0], []),
  (1, .getfield 19, 4, [], []),
  (4, .iload_n 3, 5, [3], []),
  (5, .iload_n 1, 6, [1], []),
  (6, .iload_n 2, 7, [2], []),
  (7, .invokevirtual 81, 10, [], []),
  (10, .ifCond .eq 30, 13, [40], []),
  (13, .aload_n 0, 14, [0], []),
  (14, .getfield 9, 17, [], []),
  (17, .iload_n 1, 18, [1], []),
  (18, .iaload, 19, [], []),
  (19, .ifCond .eq 21, 22, [40], []),
  (22, .aload_n 0, 23, [0], []),
  (23, .getfield 9, 26, [], []),
  (26, .iload_n 1, 27, [1], []),
  (27, .iaload, 28, [], []),
  (28, .aload_n 0, 29, [0], []),
  (29, .getfield 15, 32, [], []),
  (32, .getfield 47, 35, [], []),
  (35, .iconst 1, 36, [], [1]),
  (36, .iaload, 37, [], []),
  (37, .if_icmp .ne 4, 40, [41], []),
  (40, .return_, 41, [], []),
  (41, .aload_n 0, 42, [0], []),
  (42, .invokevirtual 63, 45, [], []),
  (45, .ldc2_w 85, 48, [], []),
  (48, .lrem, 49, [], []),
  (49, .aload_n 0, 50, [0], []),
  (50, .getfield 23, 53, [], []),
  (53, .iconst 1, 54, [], [1]),
  (54, .iload_n 1, 55, [1], []),
  (55, .iload_n 2, 56, [2], []),
  (56, .aload_n 0, 57, [0], []),
  (57, .getfield 9, 60, [], []),
  (60, .iload_n 1, 61, [1], []),
  (61, .iaload, 62, [], []),
  (62, .aload_n 0, 63, [0], []),
  (63, .getfield 19, 66, [], []),
  (66, .iload_n 3, 67, [3], []),
  (67, .invokevirtual 87, 70, [], []),
  (70, .invokevirtual 75, 73, [], []),
  (73, .i2l, 74, [], []),
  (74, .lcmp, 75, [], []),
  (75, .ifCond .ge 47, 78, [122], []),
  (78, .aload_n 0, 79, [0], []),
  (79, .dup, 80, [], []),
  (80, .getfield 44, 83, [], []),
  (83, .iconst 1, 84, [], [1]),
  (84, .iadd, 85, [], []),
  (85, .putfield 44, 88, [], []),
  (88, .aload_n 0, 89, [0], []),
  (89, .dup, 90, [], []),
  (90, .getfield 37, 93, [], []),
  (93, .aload_n 0, 94, [0], []),
  (94, .getfield 23, 97, [], []),
  (97, .iconst 2, 98, [], [2]),
  (98, .iload_n 1, 99, [1], []),
  (99, .iload_n 2, 100, [2], []),
  (100, .aload_n 0, 101, [0], []),
  (101, .getfield 9, 104, [], []),
  (104, .iload_n 1, 105, [1], []),
  (105, .iaload, 106, [], []),
  (106, .iconst 0, 107, [], [0]),
  (107, .invokevirtual 75, 110, [], []),
  (110, .i2l, 111, [], []),
  (111, .ladd, 112, [], []),
  (112, .putfield 37, 115, [], []),
  (115, .aload_n 0, 116, [0], []),
  (116, .getfield 9, 119, [], []),
  (119, .iload_n 1, 120, [1], []),
  (120, .iconst 0, 121, [], [0]),
  (121, .iastore, 122, [], []),
  (122, .return_, 123, [], [])]
theorem zo_X3_look : ab_ok cX3_look zp_X3_look = true := by decide +kernel
def zg_X3_look : ab_G := (zw_C, zs_tab, zf_X3, zc_X3, [], [(63, 1, zt_X3_nextLot), (75, 6, zt_X1_ask), (81, 4, zt_X10_looksAt), (87, 2, zt_X10_paceOf)], [])
theorem zm_X3_look : ab_MG zg_X3_look := ab_MGof (List.forall_mem_cons.mpr ⟨zt_X3_nextLot_mono, List.forall_mem_cons.mpr ⟨zt_X1_ask_mono, List.forall_mem_cons.mpr ⟨ab_pp_mono _, List.forall_mem_cons.mpr ⟨ab_pure_mono _, List.forall_mem_nil _⟩⟩⟩⟩) (List.forall_mem_nil _)
abbrev zr_X3_look (Q : ab_R) : ab_K := ab_Run zg_X3_look zp_X3_look none 4 Q
set_option maxRecDepth 20000 in
theorem zv_X3_look_0 {Q : ab_R} {M : ab_M} {N : ab_N} (l1 : Int32) (l2 : Int32) (l3 : Int32) (h : (vp_in (l2 * 8 + l1) 96) ∧ (((ab_b (¬ ((M 38) (l2 * 8 + l1).toNatClampNeg >>> (l3 &&& 31)) &&& 1 = 0)) = 0 → Q none M N) ∧ (¬ ((ab_b (¬ ((M 38) (l2 * 8 + l1).toNatClampNeg >>> (l3 &&& 31)) &&& 1 = 0)) = 0) → vp_in l1 8 ∧ (((M 42 l1.toNatClampNeg) = 0 → Q none M N) ∧ (¬ ((M 42 l1.toNatClampNeg) = 0) → vp_in l1 8 ∧ (vp_in (1 : Int32) 5 ∧ (((M 42 l1.toNatClampNeg) = (M 17 1) → Q none M N) ∧ (¬ ((M 42 l1.toNatClampNeg) = (M 17 1)) → zt_X3_nextLot [.ref 8] M N (fun r M2 N2 => zr_X3_look Q 45 [some (.ref 8), some (.int l1), some (.int l2), some (.int l3)] (ab_ol r []) M2 N2))))))))) : zr_X3_look Q 0 [some (.ref 8), some (.int l1), some (.int l2), some (.int l3)] [] M N := ab_Run_s zm_X3_look (sp := [(45, [true, true, true, true]), (73, [true, true, true, false]), (110, [true, true, false, false])]) 75 h
set_option maxRecDepth 20000 in
theorem zv_X3_look_45 {Q : ab_R} {M : ab_M} {N : ab_N} (l1 : Int32) (l2 : Int32) (l3 : Int32) (s0 : Int64) (h : ¬ (100 : Int64) = 0 ∧ (vp_in l1 8 ∧ (zt_X1_ask [.ref 5, .int (1 : Int32), .int l1, .int l2, .int (M 42 l1.toNatClampNeg), .int (if 0 ≤ l3 ∧ l3 < (M 2) 6 ∧ l3 < 5 then (M 28) l3.toNatClampNeg else if l3 = 7 then 1 else 0)] M N (fun r M2 N2 => zr_X3_look Q 73 [some (.ref 8), some (.int l1), some (.int l2), none] (ab_ol r [.long (s0 - s0 / (100 : Int64) * (100 : Int64))]) M2 N2)))) : zr_X3_look Q 45 [some (.ref 8), some (.int l1), some (.int l2), some (.int l3)] [.long s0] M N := ab_Run_s zm_X3_look (sp := [(45, [true, true, true, true]), (73, [true, true, true, false]), (110, [true, true, false, false])]) 75 h
set_option maxRecDepth 20000 in
theorem zv_X3_look_73 {Q : ab_R} {M : ab_M} {N : ab_N} (l1 : Int32) (l2 : Int32) (s0 : Int64) (s1 : Int32) (h : (0 ≤ (lg_cmp s0 (s1.toInt64)) → Q none M N) ∧ (¬ (0 ≤ (lg_cmp s0 (s1.toInt64))) → let z1 : Nat → Int32 := upd (M 8) 7 ((M 8 7) + (1 : Int32)); vp_in l1 8 ∧ (zt_X1_ask [.ref 5, .int (2 : Int32), .int l1, .int l2, .int (M 42 l1.toNatClampNeg), .int (0 : Int32)] (ab_u M 8 z1) N (fun r M2 N2 => zr_X3_look Q 110 [some (.ref 8), some (.int l1), none, none] (ab_ol r [.long (N 8 5), .ref 8]) M2 N2)))) : zr_X3_look Q 73 [some (.ref 8), some (.int l1), some (.int l2), none] [.int s1, .long s0] M N := ab_Run_s zm_X3_look (sp := [(45, [true, true, true, true]), (73, [true, true, true, false]), (110, [true, true, false, false])]) 75 h
set_option maxRecDepth 20000 in
theorem zv_X3_look_110 {Q : ab_R} {M : ab_M} {N : ab_N} (l1 : Int32) (s1 : Int64) (s2 : Int32) (h : let y1 : Nat → Int64 := vp_updL (N 8) 5 (s1 + (s2.toInt64)); vp_in l1 8 ∧ (let z2 : Nat → Int32 := upd (M 42) l1.toNatClampNeg (0 : Int32); Q none (ab_u M 42 z2) (ab_u N 8 y1))) : zr_X3_look Q 110 [some (.ref 8), some (.int l1), none, none] [.int s2, .long s1, .ref 8] M N := ab_Run_s zm_X3_look (sp := [(45, [true, true, true, true]), (73, [true, true, true, false]), (110, [true, true, false, false])]) 75 h
theorem zE_X3_look (as : List Value) (M : ab_M) (N : ab_N) (k : ab_R) (hT : zt_X3_look as M N k) : ab_cs as ≤ 4 ∧ zr_X3_look k 0 (ab_en as) [] M N := by
  obtain ⟨p, h, w, rfl, ⟨hN, hW, q, g, u, hq, hg, hu, rfl, rfl, rfl, ⟨f, l, ha, br, fo⟩, hs⟩, hk⟩ := ab_m3_e hT
  obtain ⟨hA, h0, h1⟩ := id hN
  obtain ⟨hB, hB6, hB2⟩ := zB_eq h0
  obtain ⟨hP, hP8⟩ := zP_eq h0
  obtain ⟨hHe, hH12⟩ := zH_eq h0
  rw [nI_clamp (show q < 2 ^ 31 by omega), nI_clamp (show g < 2 ^ 31 by omega), nI_clamp (show u < 2 ^ 31 by omega)] at hk
  have s1 : ∀ p, p < 8 → M 42 p = nI (f p) ∧ f p ≤ zBrk M := hs.1
  have s2 : N 8 4 = l := hs.2.1
  have s3 : N 8 5 = ha := hs.2.2.1
  have s4 : M 8 6 = br := hs.2.2.2.1
  have s5 : M 8 7 = fo := hs.2.2.2.2
  obtain ⟨s1q, s1b⟩ := s1 q (by omega)
  have same : ∀ tf t2, zHd (zBrk M) M N (tf, t2) → tf q = f q ∧ t2 = (l, ha, br, fo) := fun tf t2 ht => ⟨(zHd_eq hs ht hB6).1 q (by omega), (zHd_eq hs ht hB6).2⟩
  have ei : nI g * 8 + nI q = nI (g * 8 + q) := by rw [zN_mul g 8 8, nI_add]
  refine ⟨Nat.le_of_ble_eq_true rfl, zv_X3_look_0 _ _ _ ?_⟩
  rw [ei, nI_clamp (show g * 8 + q < 2 ^ 31 by omega), nI_clamp (show q < 2 ^ 31 by omega), ((hW g hg).2 q hq).2, s1q, hB]
  refine ⟨nI_in_ (by omega), fun c => ?_, fun c => ⟨nI_in_ (by omega), fun c2 => ?_, fun c2 => ⟨nI_in_ (by omega), ab_vpk (by decide), fun c3 => ?_, fun c3 => ?_⟩⟩⟩
  · have c1 : ¬ zBit ((zWk M g).2.2.2 q) u := ab_b_0.mp c
    exact hk _ _ _ ⟨rfl, zFr_rf _ _, hA, zNfr_rf _ _, fun t ht => by rw [if_neg c1]; exact ht⟩
  · refine hk _ _ _ ⟨rfl, zFr_rf _ _, hA, zNfr_rf _ _, fun ⟨tf, t2⟩ ht => ?_⟩
    have c4 : f q = 0 := (nI_eq (by omega) (by omega)).mp (show nI (f q) = nI 0 from c2)
    obtain ⟨t1, rfl⟩ := same tf t2 ht
    rw [zDLook1_0 (Or.inl (by rw [t1, c4]))]
    split <;> exact ht
  · refine hk _ _ _ ⟨rfl, zFr_rf _ _, hA, zNfr_rf _ _, fun ⟨tf, t2⟩ ht => ?_⟩
    have c4 : f q = zBrk M := (nI_eq (by omega) (by omega)).mp c3
    obtain ⟨t1, rfl⟩ := same tf t2 ht
    rw [zDLook1_0 (Or.inr (by rw [t1, c4]))]
    split <;> exact ht
  · have c1 : zBit ((zWk M g).2.2.2 q) u := Decidable.not_not.mp (fun z => c (ab_b_0.mpr z))
    have c4 : ¬ (f q = 0 ∨ f q = zBrk M) := fun z => z.elim (fun z => c2 (by rw [z]; rfl)) (fun z => c3 (by rw [z]))
    have hp3 := zPace_le h1 u
    refine ab_m0_i trivial ?_
    rintro o M2 N2 ⟨ho, rfl, hN2⟩
    have hl : N2 8 4 = zLot l := by rw [hN2, ab_u_eq, updL_eq, s2, zLot]
    generalize hz : zLot l = L at hl
    rw [hl] at ho
    subst ho
    refine zv_X3_look_45 _ _ _ _ ⟨by decide, nI_in_ (by omega), ?_⟩
    rw [nI_clamp (show q < 2 ^ 31 by omega), s1q, zPace_ep h0 h1 hu]
    refine ab_m5_i ⟨hA, 1, q, g, f q, zPace M2 u, zPcs M2, by omega, hq, hP8, by omega, by omega, hp3, rfl, rfl, rfl, rfl, rfl, hP⟩ ?_
    rintro o M3 N3 ⟨hNe3, hF3, hA3, rfl⟩
    have hle1 := zAsk_le M2 (th := 1) (by omega) q g (f q) (zPace M2 u)
    rw [show (1 : Int32).toNatClampNeg = 1 from rfl, nI_clamp (show q < 2 ^ 31 by omega), nI_clamp (show g < 2 ^ 31 by omega), nI_clamp (show f q < 2 ^ 31 by omega), nI_clamp (show zPace M2 u < 2 ^ 31 by omega)]
    refine zv_X3_look_73 _ _ _ _ ?_
    rw [nI_l (by omega)]
    have hNf3 : zNfr [8] N N3 := by rw [hNe3, hN2]; exact zNfr_u (zNfr_rf _ _) (by decide) _
    have h84 : N3 8 4 = L := by rw [hNe3]; exact hl
    have h85 : N3 8 5 = ha := by rw [hNe3, hN2, ab_u_eq, updL_ne _ _ (by decide)]; exact s3
    refine ⟨fun c5 => ?_, fun c5 => ?_⟩
    · have c6 := (lg_cmp_ge _ _).mp c5
      refine hk _ _ _ ⟨rfl, zFr_mono hF3 (by decide), hA3, hNf3, fun ⟨tf, t2⟩ ht => ?_⟩
      obtain ⟨t1, rfl⟩ := same tf t2 ht
      rw [if_pos c1, zDLook1_1 (by rw [t1]; exact c4) hz (by rw [t1]; exact Int64.not_lt.mpr c6)]
      refine zHd_mk (fun p hp => ?_) h84 h85 ?_ ?_
      · rw [hF3 42 (by decide)]
        exact ht.1 p hp
      · rw [hF3 8 (by decide)]; exact s4
      · rw [hF3 8 (by decide)]; exact s5
    · have c6 := Int64.not_le.mp (fun z => c5 ((lg_cmp_ge _ _).mpr z))
      intro z1
      have hz1 : z1 = upd (M3 8) 7 (M3 8 7 + 1) := rfl
      clear_value z1
      refine ⟨nI_in_ (by omega), ?_⟩
      have e42 : ab_u M3 8 z1 42 (nI q).toNatClampNeg = nI (f q) := by rw [ab_u_ne _ _ (by decide), nI_clamp (by omega), hF3 42 (by decide), s1q]
      have hF4 : zFr [8, 33, 35, 36, 42] M2 (ab_u M3 8 z1) := zFr_u (zFr_mono hF3 (by decide)) (by decide) _
      show zt_X1_ask [.ref 5, .int 2, .int (nI q), .int (nI g), .int (ab_u M3 8 z1 42 (nI q).toNatClampNeg), .int 0] _ _ _
      rw [e42]
      refine ab_m5_i ⟨zAsks_gy hA3 (zFr_u (zFr_rf _ _) (by decide) _), 2, q, g, f q, 0, zPcs M2, by omega, hq, hP8, by omega, by omega, by omega, rfl, rfl, rfl, rfl, rfl, by rw [hF4 1 (by decide), hP]⟩ ?_
      rintro o M5 N5 ⟨hNe5, hF5, hA5, rfl⟩
      have hle2 := zAsk_le M2 (th := 2) (by omega) q g (f q) 0
      rw [zAsk_gx (zFr_mono hF4 (by decide)), show (2 : Int32).toNatClampNeg = 2 from rfl, show (0 : Int32).toNatClampNeg = 0 from rfl, nI_clamp (show q < 2 ^ 31 by omega), nI_clamp (show g < 2 ^ 31 by omega), nI_clamp (show f q < 2 ^ 31 by omega)]
      refine zv_X3_look_110 _ _ _ ?_
      rw [nI_l (by omega), h85]
      intro y1
      have hy1 : y1 = vp_updL (N3 8) 5 (ha + lN (zAsk M2 2 q g (f q) 0)) := by rw [← hNe5]
      clear_value y1
      refine ⟨nI_in_ (by omega), ?_⟩
      intro z2
      have hz2 : z2 = upd (M3 42) q 0 := by
        show upd (M5 42) _ _ = _
        rw [nI_clamp (by omega), hF5 42 (by decide), ab_u_ne _ _ (by decide)]
      clear_value z2
      have hF6 : zFr [8, 33, 35, 36, 42] M2 (ab_u M5 42 z2) := zFr_u (zFr_tr hF4 (zFr_mono hF5 (by decide))) (by decide) _
      refine hk _ _ _ ⟨rfl, hF6, zAsks_gy hA5 (zFr_u (zFr_rf _ _) (by decide) _), zNfr_u (by rw [hNe5]; exact hNf3) (by decide) _, fun ⟨tf, t2⟩ ht => ?_⟩
      obtain ⟨t1, rfl⟩ := same tf t2 ht
      rw [if_pos c1, zDLook1_2 (by rw [t1]; exact c4) hz (by rw [t1]; exact c6), t1]
      refine zHd_mk (fun p hp => ?_) ?_ ?_ ?_ ?_
      · rw [ab_u_eq, hz2]
        unfold zUp
        by_cases e : p = q
        · rw [e, upd_eq, if_pos rfl]; exact ⟨rfl, by omega⟩
        · rw [upd_ne _ _ e, if_neg e, hF3 42 (by decide)]; exact ht.1 p hp
      · rw [ab_u_eq, hy1, updL_ne _ _ (by decide)]; exact h84
      · rw [ab_u_eq, hy1, updL_eq]
      · rw [ab_u_ne _ _ (by decide), hF5 8 (by decide), ab_u_eq, hz1, upd_ne _ _ (by decide), hF3 8 (by decide), s4]
      · rw [ab_u_ne _ _ (by decide), hF5 8 (by decide), ab_u_eq, hz1, upd_eq, hF3 8 (by decide), s5]
abbrev zR_X3_look : Room := { frames := 3, cells := 0, slots := 0, locals := 80 }
set_option maxRecDepth 20000 in
theorem zM_X3_look (l : Launch) : ab_Met l zw_C vwCl zZ_C yX3_look cX3_look 4 none zR_X3_look zt_X3_look := ab_ofRun (G := zg_X3_look) (P := zp_X3_look) rfl zo_X3_look (by decide +kernel) zl_cl zl_lamC zf_X3_ok zs_tabOK zc_X3_ok ab_Sta_nil (List.forall_mem_cons.mpr ⟨ab_callV zZ_C_ok (zM_X3_nextLot l) (ab_in 891 (by decide +kernel) rfl) (ab_in 888 (by decide +kernel) rfl) (ab_in 890 (by decide +kernel) rfl) (ab_inS (List.mem_of_getElem? (i := 24) (by decide +kernel)) rfl) (ab_in 9 (by decide +kernel) rfl) (by unfold ab_yok; decide +kernel) ⟨rfl, rfl⟩ (by decide) zV_X3_nextLot, List.forall_mem_cons.mpr ⟨ab_callV zZ_C_ok (zM_X1_ask l) (ab_in 590 (by decide +kernel) rfl) (ab_in 896 (by decide +kernel) rfl) (ab_in 588 (by decide +kernel) rfl) (ab_in 589 (by decide +kernel) rfl) (ab_in 6 (by decide +kernel) rfl) (by unfold ab_yok; decide +kernel) ⟨rfl, rfl⟩ (by decide) zV_X1_ask, List.forall_mem_cons.mpr ⟨ab_callV zZ_C_ok (zM_X10_looksAt l) (ab_in 753 (by decide +kernel) rfl) (ab_in 901 (by decide +kernel) rfl) (ab_in 751 (by decide +kernel) rfl) (ab_in 752 (by decide +kernel) rfl) (ab_in 7 (by decide +kernel) rfl) (by unfold ab_yok; decide +kernel) ⟨rfl, rfl⟩ (by decide) zV_X10_looksAt, List.forall_mem_cons.mpr ⟨ab_callV zZ_C_ok (zM_X10_paceOf l) (ab_in 757 (by decide +kernel) rfl) (ab_in 903 (by decide +kernel) rfl) (ab_in 755 (by decide +kernel) rfl) (ab_in 756 (by decide +kernel) rfl) (ab_in 7 (by decide +kernel) rfl) (by unfold ab_yok; decide +kernel) ⟨rfl, rfl⟩ (by decide) zV_X10_paceOf, List.forall_mem_nil _⟩⟩⟩⟩) (List.forall_mem_nil _) zE_X3_look
end
section
/-! Drawing.grow, go *)
-/
theorem zDGrow_0 {d : ab_M} {p h sc : Nat} {f : Nat → Nat} {l L ha : Int64} {br fo : Int32} (c : f p = 0) (e : zLot l = L) : zDGrow d p h sc (f, l, ha, br, fo) = (zUp f p (if L - L / 1000 * 1000 < lN (zAsk d 0 p h sc 0) then 1 else 0), L, ha, br, fo) := by
  unfold zDGrow
  dsimp only
  rw [if_pos c, e]
theorem zDGrow_1 {d : ab_M} {p h sc : Nat} {f : Nat → Nat} {l ha : Int64} {br fo : Int32} (c : ¬ f p = 0) (c2 : f p + 1 = zBrk d) : zDGrow d p h sc (f, l, ha, br, fo) = (zUp f p (f p + 1), l, ha + lN (zAsk d 2 p h (f p + 1) 0), br + 1, fo) := by
  unfold zDGrow
  dsimp only
  rw [if_neg c, if_pos c2]
theorem zDGrow_2 {d : ab_M} {p h sc : Nat} {f : Nat → Nat} {l ha : Int64} {br fo : Int32} (c : ¬ f p = 0) (c2 : ¬ f p + 1 = zBrk d) : zDGrow d p h sc (f, l, ha, br, fo) = (zUp f p (f p + 1), l, ha, br, fo) := by
  unfold zDGrow
  dsimp only
  rw [if_neg c, if_neg c2]
theorem zUp_hd {b : Nat} {R R2 : Nat → Int32} {f tf : Nat → Nat} {q v : Nat} (hv : v ≤ b) (hq : R2 = upd R q (nI v)) (h : ∀ p, p < 8 → R p = nI (tf p) ∧ tf p ≤ b) : ∀ p, p < 8 → R2 p = nI (zUp tf q v p) ∧ zUp tf q v p ≤ b := by
  intro p hp
  rw [hq]
  unfold zUp
  by_cases e : p = q
  · rw [e, upd_eq, if_pos rfl]; exact ⟨rfl, hv⟩
  · rw [upd_ne _ _ e, if_neg e]; exact h p hp
def zp_X3_grow : ab_P := [(0, .aload_n 0, 1, [0], []),
  (1, .getfield 9, 4, [], []),
  (4, .iload_n 1, 5, [1], []),
  (5, .iaload, 6, [], []),
  (6, .ifCond .ne 48, 9, [54], []),
  (9, .aload_n 0, 10, [0], []),
  (10, .getfield 9, 13, [], []),
  (13, .iload_n 1, 14, [1], []),
  (14, .aload_n 0, 15, [0], []),
  (15, .invokevirtual 63, 18, [], []),
  (18, .ldc2_w 67, 21, [], []),
  (21, .lrem, 22, [], []),
  (22, .aload_n 0, 23, [0], []),
  (23, .getfield 23, 26, [], []),
  (26, .iconst 0, 27, [], [0]),
  (27, .iload_n 1, 28, [1], []),
  (28, .iload_n 2, 29, [2], []),
  (29, .aload_n 0, 30, [0], []),
  (30, .getfield 19, 33, [], []),
  (33, .iload_n 1, 34, [1], []),
  (34, .iload_n 2, 35, [2], []),
  (35, .invokevirtual 69, 38, [], []),
  (38, .iconst 0, 39, [], [0]),
  (39, .invokevirtual 75, 42, [], []),
  (42, .i2l, 43, [], []),
  (43, .lcmp, 44, [], []),
  (44, .ifCond .ge 7, 47, [51], []),
  (47, .iconst 1, 48, [], [1]),
  (48, .goto 4, 51, [52], []),
  (51, .iconst 0, 52, [], [0]),
  (52, .iastore, 53, [], []),
  (53, .return_, 54, [], []),
  (54, .aload_n 0, 55, [0], []),
  (55, .getfield 9, 58, [], []),
  (58, .iload_n 1, 59, [1], []),
  (59, .dup2, 60, [], []),
  (60, .iaload, 61, [], []),
  (61, .iconst 1, 62, [], [1]),
  (62, .iadd, 63, [], []),
  (63, .iastore, 64, [], []),
  (64, .aload_n 0, 65, [0], []),
  (65, .getfield 9, 68, [], []),
  (68, .iload_n 1, 69, [1], []),
  (69, .iaload, 70, [], []),
  (70, .aload_n 0, 71, [0], []),
  (71, .getfield 15, 74, [], []),
  (74, .getfield 47, 77, [], []),
  (77, .iconst 1, 78, [], [1]),
  (78, .iaload, 79, [], []),
  (79, .if_icmp .ne 40, 82, [119], []),
  (82, .aload_n 0, 83, [0], []),
  (83, .dup, 84, [], []),
  (84, .getfield 40, 87, [], []),
  (87, .iconst 1, 88, [], [1]),
  (88, .iadd, 89, [], []),
  (89, .putfield 40, 92, [], []),
  (92, .aload_n 0, 93, [0], []),
  (93, .dup, 94, [], []),
  (94, .getfield 37, 97, [], []),
  (97, .aload_n 0, 98, [0], []),
  (98, .getfield 23, 101, [], []),
  (101, .iconst 2, 102, [], [2]),
  (102, .iload_n 1, 103, [1], []),
  (103, .iload_n 2, 104, [2], []),
  (104, .aload_n 0, 105, [0], []),
  (105, .getfield 9, 108, [], []),
  (108, .iload_n 1, 109, [1], []),
  (109, .iaload, 110, [], []),
  (110, .iconst 0, 111, [], [0]),
  (111, .invokevirtual 75, 114, [], []),
  (114, .i2l, 115, [], []),
  (115, .ladd, 116, [], []),
  (116, .putfield 37, 119, [], []),
  (119, .return_, 120, [], [])]
theorem zo_X3_grow : ab_ok cX3_grow zp_X3_grow = true := by decide +kernel
def zg_X3_grow : ab_G := (zw_C, zs_tab, zf_X3, zc_X3, [], [(63, 1, zt_X3_nextLot), (69, 3, zt_X10_sinceOf), (75, 6, zt_X1_ask)], [])
theorem zm_X3_grow : ab_MG zg_X3_grow := ab_MGof (List.forall_mem_cons.mpr ⟨zt_X3_nextLot_mono, List.forall_mem_cons.mpr ⟨ab_pp_mono _, List.forall_mem_cons.mpr ⟨zt_X1_ask_mono, List.forall_mem_nil _⟩⟩⟩) (List.forall_mem_nil _)
abbrev zr_X3_grow (Q : ab_R) : ab_K := ab_Run zg_X3_grow zp_X3_grow none 3 Q
set_option maxRecDepth 20000 in
theorem zv_X3_grow_0 {Q : ab_R} {M : ab_M} {N : ab_N} (l1 : Int32) (l2 : Int32) (h : vp_in l1 8 ∧ (((M 42 l1.toNatClampNeg) = 0 → zt_X3_nextLot [.ref 8] M N (fun r M2 N2 => zr_X3_grow Q 18 [some (.ref 8), some (.int l1), some (.int l2)] (ab_ol r [.int l1, .ref 42]) M2 N2)) ∧ (¬ ((M 42 l1.toNatClampNeg) = 0) → vp_in l1 8 ∧ (vp_in l1 8 ∧ (let z1 : Nat → Int32 := upd (M 42) l1.toNatClampNeg ((M 42 l1.toNatClampNeg) + (1 : Int32)); vp_in l1 8 ∧ (vp_in (1 : Int32) 5 ∧ (((z1 l1.toNatClampNeg) = (M 17 1) → let z2 : Nat → Int32 := upd (M 8) 6 ((M 8 6) + (1 : Int32)); vp_in l1 8 ∧ (zt_X1_ask [.ref 5, .int (2 : Int32), .int l1, .int l2, .int (z1 l1.toNatClampNeg), .int (0 : Int32)] (ab_u (ab_u M 42 z1) 8 z2) N (fun r M2 N2 => zr_X3_grow Q 114 [none, none, none] (ab_ol r [.long (N 8 5), .ref 8]) M2 N2))) ∧ (¬ ((z1 l1.toNatClampNeg) = (M 17 1)) → Q none (ab_u M 42 z1) N)))))))) : zr_X3_grow Q 0 [some (.ref 8), some (.int l1), some (.int l2)] [] M N := ab_Run_s zm_X3_grow (sp := [(18, [true, true, true]), (42, [false, false, false]), (114, [false, false, false])]) 76 h
set_option maxRecDepth 20000 in
theorem zv_X3_grow_18 {Q : ab_R} {M : ab_M} {N : ab_N} (l1 : Int32) (l2 : Int32) (s1 : Int32) (s2 : Int64) (h : ¬ (1000 : Int64) = 0 ∧ ((vp_in (l2 * 8 + l1) 96) ∧ (zt_X1_ask [.ref 5, .int (0 : Int32), .int l1, .int l2, .int ((M 39) (l2 * 8 + l1).toNatClampNeg), .int (0 : Int32)] M N (fun r M2 N2 => zr_X3_grow Q 42 [none, none, none] (ab_ol r [.long (s2 - s2 / (1000 : Int64) * (1000 : Int64)), .int s1, .ref 42]) M2 N2)))) : zr_X3_grow Q 18 [some (.ref 8), some (.int l1), some (.int l2)] [.long s2, .int s1, .ref 42] M N := ab_Run_s zm_X3_grow (sp := [(18, [true, true, true]), (42, [false, false, false]), (114, [false, false, false])]) 76 h
set_option maxRecDepth 20000 in
theorem zv_X3_grow_42 {Q : ab_R} {M : ab_M} {N : ab_N} (s1 : Int32) (s2 : Int64) (s3 : Int32) (h : (0 ≤ (lg_cmp s2 (s3.toInt64)) → vp_in s1 8 ∧ (let z1 : Nat → Int32 := upd (M 42) s1.toNatClampNeg (0 : Int32); Q none (ab_u M 42 z1) N)) ∧ (¬ (0 ≤ (lg_cmp s2 (s3.toInt64))) → vp_in s1 8 ∧ (let z2 : Nat → Int32 := upd (M 42) s1.toNatClampNeg (1 : Int32); Q none (ab_u M 42 z2) N))) : zr_X3_grow Q 42 [none, none, none] [.int s3, .long s2, .int s1, .ref 42] M N := ab_Run_s zm_X3_grow (sp := [(18, [true, true, true]), (42, [false, false, false]), (114, [false, false, false])]) 76 h
set_option maxRecDepth 20000 in
theorem zv_X3_grow_114 {Q : ab_R} {M : ab_M} {N : ab_N} (s1 : Int64) (s2 : Int32) (h : let y1 : Nat → Int64 := vp_updL (N 8) 5 (s1 + (s2.toInt64)); Q none M (ab_u N 8 y1)) : zr_X3_grow Q 114 [none, none, none] [.int s2, .long s1, .ref 8] M N := ab_Run_s zm_X3_grow (sp := [(18, [true, true, true]), (42, [false, false, false]), (114, [false, false, false])]) 76 h
theorem zE_X3_grow (as : List Value) (M : ab_M) (N : ab_N) (k : ab_R) (hT : zt_X3_grow as M N k) : ab_cs as ≤ 3 ∧ zr_X3_grow k 0 (ab_en as) [] M N := by
  obtain ⟨p, h, rfl, ⟨hN, hW, q, g, hq, hg, rfl, rfl, ⟨f, l, ha, br, fo⟩, hs, hb⟩, hk⟩ := ab_m2_e hT
  obtain ⟨hA, h0, h1⟩ := id hN
  obtain ⟨hB, hB6, hB2⟩ := zB_eq h0
  obtain ⟨hP, hP8⟩ := zP_eq h0
  obtain ⟨hHe, hH12⟩ := zH_eq h0
  rw [nI_clamp (show q < 2 ^ 31 by omega), nI_clamp (show g < 2 ^ 31 by omega)] at hk
  have s1 : ∀ p, p < 8 → M 42 p = nI (f p) ∧ f p ≤ zBrk M := hs.1
  have s2 : N 8 4 = l := hs.2.1
  have s3 : N 8 5 = ha := hs.2.2.1
  have s4 : M 8 6 = br := hs.2.2.2.1
  have s5 : M 8 7 = fo := hs.2.2.2.2
  have hbq : f q < zBrk M := hb
  obtain ⟨s1q, s1b⟩ := s1 q (by omega)
  have same : ∀ tf t2, zHd (zBrk M) M N (tf, t2) → tf q = f q ∧ t2 = (l, ha, br, fo) := fun tf t2 ht => ⟨(zHd_eq hs ht hB6).1 q (by omega), (zHd_eq hs ht hB6).2⟩
  have ei : nI g * 8 + nI q = nI (g * 8 + q) := by rw [zN_mul g 8 8, nI_add]
  have hsc := zSc_le M q g
  refine ⟨Nat.le_of_ble_eq_true rfl, zv_X3_grow_0 _ _ ?_⟩
  rw [nI_clamp (show q < 2 ^ 31 by omega), s1q, hB]
  refine ⟨nI_in_ (by omega), fun c => ?_, fun c => ⟨nI_in_ (by omega), nI_in_ (by omega), ?_⟩⟩
  · have c4 : f q = 0 := (nI_eq (by omega) (by omega)).mp (show nI (f q) = nI 0 from c)
    refine ab_m0_i trivial ?_
    rintro o M2 N2 ⟨ho, rfl, hN2⟩
    have hl : N2 8 4 = zLot l := by rw [hN2, ab_u_eq, updL_eq, s2, zLot]
    generalize hz : zLot l = L at hl
    rw [hl] at ho
    subst ho
    refine zv_X3_grow_18 _ _ _ _ ⟨by decide, ?_⟩
    rw [ei, nI_clamp (show g * 8 + q < 2 ^ 31 by omega), ((hW g hg).2 q hq).1]
    refine ⟨nI_in_ (by omega), ab_m5_i ⟨hA, 0, q, g, zSc M2 g q, 0, zPcs M2, by omega, hq, hP8, by omega, by omega, by omega, rfl, rfl, rfl, rfl, rfl, hP⟩ ?_⟩
    rintro o M3 N3 ⟨hNe3, hF3, hA3, rfl⟩
    have hle1 := zAsk_le M2 (th := 0) (by omega) q g (zSc M2 g q) 0
    rw [show (0 : Int32).toNatClampNeg = 0 from rfl, nI_clamp (show q < 2 ^ 31 by omega), nI_clamp (show g < 2 ^ 31 by omega), nI_clamp (show zSc M2 g q < 2 ^ 31 by omega)]
    refine zv_X3_grow_42 _ _ _ ?_
    rw [nI_l (by omega), nI_clamp (show q < 2 ^ 31 by omega)]
    have hNf3 : zNfr [8] N N3 := by rw [hNe3, hN2]; exact zNfr_u (zNfr_rf _ _) (by decide) _
    have h84 : N3 8 4 = L := by rw [hNe3]; exact hl
    have h85 : N3 8 5 = ha := by rw [hNe3, hN2, ab_u_eq, updL_ne _ _ (by decide)]; exact s3
    have e42 : M3 42 = M2 42 := hF3 42 (by decide)
    have fin : ∀ v : Nat, v ≤ 1 → v = (if L - L / 1000 * 1000 < lN (zAsk M2 0 q g (zSc M2 g q) 0) then 1 else 0) → k none (ab_u M3 42 (upd (M3 42) q (nI v))) N3 := by
      intro v hv1 hv
      have hF4 : zFr [8, 33, 35, 36, 42] M2 (ab_u M3 42 (upd (M3 42) q (nI v))) := zFr_u (zFr_mono hF3 (by decide)) (by decide) _
      refine hk _ _ _ ⟨rfl, hF4, zAsks_gy hA3 (zFr_u (zFr_rf _ _) (by decide) _), hNf3, fun ⟨tf, t2⟩ ht => ?_⟩
      obtain ⟨t1, rfl⟩ := same tf t2 ht
      rw [zDGrow_0 (by rw [t1, c4]) hz, ← hv]
      refine zHd_mk (zUp_hd (f := f) (by omega) (by rw [ab_u_eq, e42]) ht.1) h84 h85 ?_ ?_
      · rw [ab_u_ne _ _ (by decide), hF3 8 (by decide)]; exact s4
      · rw [ab_u_ne _ _ (by decide), hF3 8 (by decide)]; exact s5
    refine ⟨fun c5 => ⟨nI_in_ (by omega), fin 0 (by omega) ?_⟩, fun c5 => ⟨nI_in_ (by omega), fin 1 (by omega) ?_⟩⟩
    · rw [if_neg (Int64.not_lt.mpr ((lg_cmp_ge _ _).mp c5))]
    · rw [if_pos (Int64.not_le.mp (fun z => c5 ((lg_cmp_ge _ _).mpr z)))]
  · have c4 : ¬ f q = 0 := fun z => c (by rw [z]; rfl)
    intro z1
    have hz1 : z1 = upd (M 42) q (nI (f q + 1)) := by
      show upd (M 42) q (nI (f q) + 1) = _
      rw [nI_1]
    clear_value z1
    have e1 : z1 q = nI (f q + 1) := by rw [hz1, upd_eq]
    rw [e1]
    refine ⟨nI_in_ (by omega), ab_vpk (by decide), fun c5 => ?_, fun c5 => ?_⟩
    · have c6 : f q + 1 = zBrk M := (nI_eq (by omega) (by omega)).mp c5
      intro z2
      have hz2 : z2 = upd (M 8) 6 (M 8 6 + 1) := rfl
      clear_value z2
      have hF2 : zFr [8, 33, 35, 36, 42] M (ab_u (ab_u M 42 z1) 8 z2) := zFr_u (zFr_u (zFr_rf _ _) (by decide) _) (by decide) _
      have hA2 : zAsks (ab_u (ab_u M 42 z1) 8 z2) := zAsks_gy hA (zFr_u (zFr_u (zFr_rf _ _) (by decide) _) (by decide) _)
      refine ⟨nI_in_ (by omega), ab_m5_i ⟨hA2, 2, q, g, f q + 1, 0, zPcs M, by omega, hq, hP8, by omega, by omega, by omega, rfl, rfl, rfl, rfl, rfl, by rw [hF2 1 (by decide), hP]⟩ ?_⟩
      rintro o M3 N3 ⟨hNe3, hF3, hA3, rfl⟩
      have hle2 := zAsk_le M (th := 2) (by omega) q g (f q + 1) 0
      rw [zAsk_gx (zFr_mono hF2 (by decide)), show (2 : Int32).toNatClampNeg = 2 from rfl, show (0 : Int32).toNatClampNeg = 0 from rfl, nI_clamp (show q < 2 ^ 31 by omega), nI_clamp (show g < 2 ^ 31 by omega), nI_clamp (show f q + 1 < 2 ^ 31 by omega), s3]
      refine zv_X3_grow_114 _ _ ?_
      rw [nI_l (by omega)]
      intro y1
      have hy1 : y1 = vp_updL (N 8) 5 (ha + lN (zAsk M 2 q g (f q + 1) 0)) := by rw [← hNe3]
      clear_value y1
      refine hk _ _ _ ⟨rfl, zFr_tr hF2 (zFr_mono hF3 (by decide)), hA3, zNfr_u (by rw [hNe3]; exact zNfr_rf _ _) (by decide) _, fun ⟨tf, t2⟩ ht => ?_⟩
      obtain ⟨t1, rfl⟩ := same tf t2 ht
      rw [zDGrow_1 (by rw [t1]; exact c4) (by rw [t1]; exact c6), t1]
      refine zHd_mk (zUp_hd (f := f) (by omega) (by rw [hF3 42 (by decide), ab_u_ne _ _ (by decide), ab_u_eq]; exact hz1) ht.1) ?_ ?_ ?_ ?_
      · rw [ab_u_eq, hy1, updL_ne _ _ (by decide)]; exact s2
      · rw [ab_u_eq, hy1, updL_eq]
      · rw [hF3 8 (by decide), ab_u_eq, hz2, upd_eq, s4]
      · rw [hF3 8 (by decide), ab_u_eq, hz2, upd_ne _ _ (by decide)]; exact s5
    · have c6 : ¬ f q + 1 = zBrk M := fun z => c5 (by rw [z])
      refine hk _ _ _ ⟨rfl, zFr_u (zFr_rf _ _) (by decide) _, zAsks_gy hA (zFr_u (zFr_rf _ _) (by decide) _), zNfr_rf _ _, fun ⟨tf, t2⟩ ht => ?_⟩
      obtain ⟨t1, rfl⟩ := same tf t2 ht
      rw [zDGrow_2 (by rw [t1]; exact c4) (by rw [t1]; exact c6), t1]
      refine zHd_mk (zUp_hd (f := f) (by omega) (by rw [ab_u_eq]; exact hz1) ht.1) s2 s3 ?_ ?_
      · rw [ab_u_ne _ _ (by decide)]; exact s4
      · rw [ab_u_ne _ _ (by decide)]; exact s5
abbrev zR_X3_grow : Room := { frames := 3, cells := 0, slots := 0, locals := 80 }
set_option maxRecDepth 20000 in
theorem zM_X3_grow (l : Launch) : ab_Met l zw_C vwCl zZ_C yX3_grow cX3_grow 3 none zR_X3_grow zt_X3_grow := ab_ofRun (G := zg_X3_grow) (P := zp_X3_grow) rfl zo_X3_grow (by decide +kernel) zl_cl zl_lamC zf_X3_ok zs_tabOK zc_X3_ok ab_Sta_nil (List.forall_mem_cons.mpr ⟨ab_callV zZ_C_ok (zM_X3_nextLot l) (ab_in 891 (by decide +kernel) rfl) (ab_in 888 (by decide +kernel) rfl) (ab_in 890 (by decide +kernel) rfl) (ab_inS (List.mem_of_getElem? (i := 24) (by decide +kernel)) rfl) (ab_in 9 (by decide +kernel) rfl) (by unfold ab_yok; decide +kernel) ⟨rfl, rfl⟩ (by decide) zV_X3_nextLot, List.forall_mem_cons.mpr ⟨ab_callV zZ_C_ok (zM_X10_sinceOf l) (ab_in 699 (by decide +kernel) rfl) (ab_in 895 (by decide +kernel) rfl) (ab_in 697 (by decide +kernel) rfl) (ab_in 698 (by decide +kernel) rfl) (ab_in 7 (by decide +kernel) rfl) (by unfold ab_yok; decide +kernel) ⟨rfl, rfl⟩ (by decide) zV_X10_sinceOf, List.forall_mem_cons.mpr ⟨ab_callV zZ_C_ok (zM_X1_ask l) (ab_in 590 (by decide +kernel) rfl) (ab_in 896 (by decide +kernel) rfl) (ab_in 588 (by decide +kernel) rfl) (ab_in 589 (by decide +kernel) rfl) (ab_in 6 (by decide +kernel) rfl) (by unfold ab_yok; decide +kernel) ⟨rfl, rfl⟩ (by decide) zV_X1_ask, List.forall_mem_nil _⟩⟩⟩) (List.forall_mem_nil _) zE_X3_grow
end
section
/-! Drawing.go *)
-/
section DEqv
variable {d d2 : ab_M}
theorem zDGrow_eqv (E : zEqv d d2) : zDGrow d2 = zDGrow d := by
  funext p h sc s
  unfold zDGrow
  rw [E.1, zEqv_brk E]
theorem zDLook1_eqv (E : zEqv d d2) : zDLook1 d2 = zDLook1 d := by
  funext p h sc s
  unfold zDLook1
  rw [E.1, zEqv_brk E]
theorem zDLooks_eqv (E : zEqv d d2) (p h : Nat) (lk : Int32) (s : zDs) : ∀ n, zDLooks d2 p h lk n s = zDLooks d p h lk n s
  | 0 => rfl
  | n + 1 => by
    unfold zDLooks
    rw [zDLooks_eqv E p h lk s n, zDLook1_eqv E, zPace_eqv E]
theorem zDP_eqv (E : zEqv d d2) (h : Nat) {p : Nat} (hp : p < 2 ^ 31) (s : zDs) : zDP d2 h p s = zDP d h p s := by
  unfold zDP
  rw [zEqv_brk E, zDGrow_eqv E, zSc_eqv E h hp, ((zWk_eqv E h).2 p hp).2, zDLooks_eqv E]
theorem zDHour_eqv (E : zEqv d d2) (h : Nat) (s : zDs) : ∀ n, n < 2 ^ 31 → zDHour d2 h n s = zDHour d h n s
  | 0, _ => rfl
  | n + 1, hn => by
    unfold zDHour
    rw [zDHour_eqv E h s n (by omega), zDP_eqv E h (by omega)]
theorem zDAll_eqv (E : zEqv d d2) (s : zDs) : ∀ h, zDAll d2 s h = zDAll d s h
  | 0 => rfl
  | h + 1 => by
    unfold zDAll
    rw [zDAll_eqv E s h, zEqv_pcs E, zDHour_eqv E h _ _ (zPcs_lt d)]
end DEqv
def zp_X3_go : ab_P := [(0, .aload_n 0, 1, [0], []),
  (1, .getfield 9, 4, [], []),
  (4, .iconst 0, 5, [], [0]),
  (5, .invokestatic 27, 8, [], []),
  (8, .aload_n 0, 9, [0], []),
  (9, .iload_n 1, 10, [1], []),
  (10, .i2l, 11, [], []),
  (11, .lconst 1, 12, [1], []),
  (12, .ladd, 13, [], []),
  (13, .putfield 33, 16, [], []),
  (16, .aload_n 0, 17, [0], []),
  (17, .lconst 0, 18, [0], []),
  (18, .putfield 37, 21, [], []),
  (21, .aload_n 0, 22, [0], []),
  (22, .iconst 0, 23, [], [0]),
  (23, .putfield 40, 26, [], []),
  (26, .aload_n 0, 27, [0], []),
  (27, .iconst 0, 28, [], [0]),
  (28, .putfield 44, 31, [], []),
  (31, .iconst 0, 32, [], [0]),
  (32, .istore_n 2, 33, [2], []),
  (33, .iload_n 2, 34, [2], []),
  (34, .aload_n 0, 35, [0], []),
  (35, .getfield 15, 38, [], []),
  (38, .getfield 47, 41, [], []),
  (41, .iconst 0, 42, [], [0]),
  (42, .iaload, 43, [], []),
  (43, .if_icmp .ge 76, 46, [119], []),
  (46, .iconst 0, 47, [], [0]),
  (47, .istore_n 3, 48, [3], []),
  (48, .iload_n 3, 49, [3], []),
  (49, .aload_n 0, 50, [0], []),
  (50, .getfield 15, 53, [], []),
  (53, .getfield 52, 56, [], []),
  (56, .if_icmp .ge 57, 59, [113], []),
  (59, .aload_n 0, 60, [0], []),
  (60, .getfield 9, 63, [], []),
  (63, .iload_n 3, 64, [3], []),
  (64, .iaload, 65, [], []),
  (65, .aload_n 0, 66, [0], []),
  (66, .getfield 15, 69, [], []),
  (69, .getfield 47, 72, [], []),
  (72, .iconst 1, 73, [], [1]),
  (73, .iaload, 74, [], []),
  (74, .if_icmp .ge 33, 77, [107], []),
  (77, .aload_n 0, 78, [0], []),
  (78, .iload_n 3, 79, [3], []),
  (79, .iload_n 2, 80, [2], []),
  (80, .invokevirtual 55, 83, [], []),
  (83, .iconst 0, 84, [], [0]),
  (84, .istore 4, 86, [], []),
  (86, .iload 4, 88, [], []),
  (88, .bipush 8, 90, [], [8]),
  (90, .if_icmp .ge 17, 93, [107], []),
  (93, .aload_n 0, 94, [0], []),
  (94, .iload_n 3, 95, [3], []),
  (95, .iload_n 2, 96, [2], []),
  (96, .iload 4, 98, [], []),
  (98, .invokevirtual 59, 101, [], []),
  (101, .iinc 4 1, 104, [], [1]),
  (104, .goto (-18), 107, [86], []),
  (107, .iinc 3 1, 110, [], [1]),
  (110, .goto (-62), 113, [48], []),
  (113, .iinc 2 1, 116, [], [1]),
  (116, .goto (-83), 119, [33], []),
  (119, .return_, 120, [], [])]
theorem zo_X3_go : ab_ok cX3_go zp_X3_go = true := by decide +kernel
def zg_X3_go : ab_G := (zw_C, zs_tab, zf_X3, zc_X3, [], [(55, 3, zt_X3_grow), (59, 4, zt_X3_look)], [(27, 2, zt_J7_fill_53178)])
theorem zm_X3_go : ab_MG zg_X3_go := ab_MGof (List.forall_mem_cons.mpr ⟨zt_X3_grow_mono, List.forall_mem_cons.mpr ⟨zt_X3_look_mono, List.forall_mem_nil _⟩⟩) (List.forall_mem_cons.mpr ⟨zt_J7_fill_53178_mono, List.forall_mem_nil _⟩)
abbrev zr_X3_go (Q : ab_R) : ab_K := ab_Run zg_X3_go zp_X3_go none 5 Q
set_option maxRecDepth 20000 in
theorem zv_X3_go_0 {Q : ab_R} {M : ab_M} {N : ab_N} (l1 : Int32) (h : zt_J7_fill_53178 [.ref 42, .int (0 : Int32)] M N (fun r M2 N2 => zr_X3_go Q 8 [some (.ref 8), some (.int l1), none, none, none] (ab_ol r []) M2 N2)) : zr_X3_go Q 0 [some (.ref 8), some (.int l1)] [] M N := ab_Run_s zm_X3_go (sp := [(8, [true, true, false, false, false]), (33, [true, false, true, false, false]), (48, [true, false, true, true, false]), (83, [true, false, true, true, false]), (86, [true, false, true, true, true]), (101, [true, false, true, true, true])]) 68 h
set_option maxRecDepth 20000 in
theorem zv_X3_go_8 {Q : ab_R} {M : ab_M} {N : ab_N} (l1 : Int32) (h : let y1 : Nat → Int64 := vp_updL (N 8) 4 ((l1.toInt64) + (1 : Int64)); let y2 : Nat → Int64 := vp_updL (y1) 5 (0 : Int64); let z3 : Nat → Int32 := upd (M 8) 6 (0 : Int32); let z4 : Nat → Int32 := upd (z3) 7 (0 : Int32); zr_X3_go Q 33 [some (.ref 8), none, some (.int (0 : Int32)), none, none] [] (ab_u (ab_u M 8 z3) 8 z4) (ab_u (ab_u N 8 y1) 8 y2)) : zr_X3_go Q 8 [some (.ref 8), some (.int l1), none, none, none] [] M N := ab_Run_s zm_X3_go (sp := [(8, [true, true, false, false, false]), (33, [true, false, true, false, false]), (48, [true, false, true, true, false]), (83, [true, false, true, true, false]), (86, [true, false, true, true, true]), (101, [true, false, true, true, true])]) 68 h
set_option maxRecDepth 20000 in
theorem zv_X3_go_33 {Q : ab_R} {M : ab_M} {N : ab_N} (l2 : Int32) (h : vp_in (0 : Int32) 5 ∧ (((M 17 0) ≤ l2 → Q none M N) ∧ (¬ ((M 17 0) ≤ l2) → zr_X3_go Q 48 [some (.ref 8), none, some (.int l2), some (.int (0 : Int32)), none] [] M N))) : zr_X3_go Q 33 [some (.ref 8), none, some (.int l2), none, none] [] M N := ab_Run_s zm_X3_go (sp := [(8, [true, true, false, false, false]), (33, [true, false, true, false, false]), (48, [true, false, true, true, false]), (83, [true, false, true, true, false]), (86, [true, false, true, true, true]), (101, [true, false, true, true, true])]) 68 h
set_option maxRecDepth 20000 in
theorem zv_X3_go_48 {Q : ab_R} {M : ab_M} {N : ab_N} (l2 : Int32) (l3 : Int32) (h : ((M 1 4) ≤ l3 → zr_X3_go Q 33 [some (.ref 8), none, some (.int (l2 + (1 : Int32))), none, none] [] M N) ∧ (¬ ((M 1 4) ≤ l3) → vp_in l3 8 ∧ (vp_in (1 : Int32) 5 ∧ (((M 17 1) ≤ (M 42 l3.toNatClampNeg) → zr_X3_go Q 48 [some (.ref 8), none, some (.int l2), some (.int (l3 + (1 : Int32))), none] [] M N) ∧ (¬ ((M 17 1) ≤ (M 42 l3.toNatClampNeg)) → zt_X3_grow [.ref 8, .int l3, .int l2] M N (fun r M2 N2 => zr_X3_go Q 83 [some (.ref 8), none, some (.int l2), some (.int l3), none] (ab_ol r []) M2 N2)))))) : zr_X3_go Q 48 [some (.ref 8), none, some (.int l2), some (.int l3), none] [] M N := ab_Run_s zm_X3_go (sp := [(8, [true, true, false, false, false]), (33, [true, false, true, false, false]), (48, [true, false, true, true, false]), (83, [true, false, true, true, false]), (86, [true, false, true, true, true]), (101, [true, false, true, true, true])]) 68 h
set_option maxRecDepth 20000 in
theorem zv_X3_go_83 {Q : ab_R} {M : ab_M} {N : ab_N} (l2 : Int32) (l3 : Int32) (h : zr_X3_go Q 86 [some (.ref 8), none, some (.int l2), some (.int l3), some (.int (0 : Int32))] [] M N) : zr_X3_go Q 83 [some (.ref 8), none, some (.int l2), some (.int l3), none] [] M N := ab_Run_s zm_X3_go (sp := [(8, [true, true, false, false, false]), (33, [true, false, true, false, false]), (48, [true, false, true, true, false]), (83, [true, false, true, true, false]), (86, [true, false, true, true, true]), (101, [true, false, true, true, true])]) 68 h
set_option maxRecDepth 20000 in
theorem zv_X3_go_86 {Q : ab_R} {M : ab_M} {N : ab_N} (l2 : Int32) (l3 : Int32) (l4 : Int32) (h : ((8 : Int32) ≤ l4 → zr_X3_go Q 48 [some (.ref 8), none, some (.int l2), some (.int (l3 + (1 : Int32))), none] [] M N) ∧ (¬ ((8 : Int32) ≤ l4) → zt_X3_look [.ref 8, .int l3, .int l2, .int l4] M N (fun r M2 N2 => zr_X3_go Q 101 [some (.ref 8), none, some (.int l2), some (.int l3), some (.int l4)] (ab_ol r []) M2 N2))) : zr_X3_go Q 86 [some (.ref 8), none, some (.int l2), some (.int l3), some (.int l4)] [] M N := ab_Run_s zm_X3_go (sp := [(8, [true, true, false, false, false]), (33, [true, false, true, false, false]), (48, [true, false, true, true, false]), (83, [true, false, true, true, false]), (86, [true, false, true, true, true]), (101, [true, false, true, true, true])]) 68 h
set_option maxRecDepth 20000 in
theorem zv_X3_go_101 {Q : ab_R} {M : ab_M} {N : ab_N} (l2 : Int32) (l3 : Int32) (l4 : Int32) (h : zr_X3_go Q 86 [some (.ref 8), none, some (.int l2), some (.int l3), some (.int (l4 + (1 : Int32)))] [] M N) : zr_X3_go Q 101 [some (.ref 8), none, some (.int l2), some (.int l3), some (.int l4)] [] M N := ab_Run_s zm_X3_go (sp := [(8, [true, true, false, false, false]), (33, [true, false, true, false, false]), (48, [true, false, true, true, false]), (83, [true, false, true, true, false]), (86, [true, false, true, true, true]), (101, [true, false, true, true, true])]) 68 h
section ZDr
variable {Q : ab_R} {M0 : ab_M} {N0 : ab_N}
theorem zL_X3_go_w (hN : zNight M0) (hW : zWalked M0) (q g : Nat) (s0 : zDs) (hq : q < zPcs M0) (hg : g < zHrs M0) (kk : ∀ M N, zFr [8, 33, 35, 36, 42] M0 M → zAsks M → zNfr [8] N0 N → zHd (zBrk M0) M N (zDLooks M0 q g ((zWk M0 g).2.2.2 q) 8 s0) → zr_X3_go Q 48 [some (.ref 8), none, some (.int (nI g)), some (.int (nI (q + 1))), none] [] M N) :
    ∀ (n w : Nat) (M : ab_M) (N : ab_N), w + n = 8 → zFr [8, 33, 35, 36, 42] M0 M → zAsks M → zNfr [8] N0 N → zHd (zBrk M0) M N (zDLooks M0 q g ((zWk M0 g).2.2.2 q) w s0) → zr_X3_go Q 86 [some (.ref 8), none, some (.int (nI g)), some (.int (nI q)), some (.int (nI w))] [] M N := by
  obtain ⟨hA0, h0, h1⟩ := id hN
  obtain ⟨hP, hP8⟩ := zP_eq h0
  obtain ⟨hHe, hH12⟩ := zH_eq h0
  intro n
  induction n with
  | zero =>
    intro w M N hw hF hA hNf hH
    have ew : w = 8 := by omega
    subst ew
    refine zv_X3_go_86 _ _ _ ⟨fun _ => ?_, fun c => absurd (show nI 8 ≤ nI 8 from nI_le (by omega) (by omega)) c⟩
    rw [nI_1]
    exact kk M N hF hA hNf hH
  | succ n ih =>
    intro w M N hw hF hA hNf hH
    have E := zEqv_gx (zFr_mono hF (by decide : ∀ c ∈ [8, 33, 35, 36, 42], c ∈ zGx))
    refine zv_X3_go_86 _ _ _ ⟨fun c => absurd c (show ¬ nI 8 ≤ nI w from nI_ge (by omega) (by omega)), fun _ => ?_⟩
    refine ab_m3_i ⟨zNight_gx hN hA (zFr_mono hF (by decide)), zWalked_eqv h0 E (hF 37 (by decide)) (hF 38 (by decide)) (hF 39 (by decide)) hW, q, g, w, by rw [zEqv_pcs E]; exact hq, by rw [zEqv_hrs E]; exact hg, by omega, rfl, rfl, rfl, _, by rw [zEqv_brk E]; exact hH⟩ ?_
    rintro o M2 N2 ⟨rfl, hF2, hA2, hNf2, hS2⟩
    have hS3 := hS2 _ (by rw [zEqv_brk E]; exact hH)
    rw [zEqv_brk E, zDLook1_eqv E, zPace_eqv E, nI_clamp (show q < 2 ^ 31 by omega), nI_clamp (show g < 2 ^ 31 by omega), nI_clamp (show w < 2 ^ 31 by omega), ((zWk_eqv E g).2 q (by omega)).2] at hS3
    refine zv_X3_go_101 _ _ _ ?_
    rw [nI_1]
    exact ih (w + 1) M2 N2 (by omega) (zFr_tr hF hF2) hA2 (zNfr_tr hNf hNf2) hS3
theorem zL_X3_go_p (hN : zNight M0) (hW : zWalked M0) (g : Nat) (s0 : zDs) (hg : g < zHrs M0) (kk : ∀ M N, zFr [8, 33, 35, 36, 42] M0 M → zAsks M → zNfr [8] N0 N → zHd (zBrk M0) M N (zDHour M0 g (zPcs M0) s0) → zr_X3_go Q 33 [some (.ref 8), none, some (.int (nI (g + 1))), none, none] [] M N) :
    ∀ (n q : Nat) (M : ab_M) (N : ab_N), q + n = zPcs M0 → zFr [8, 33, 35, 36, 42] M0 M → zAsks M → zNfr [8] N0 N → zHd (zBrk M0) M N (zDHour M0 g q s0) → zr_X3_go Q 48 [some (.ref 8), none, some (.int (nI g)), some (.int (nI q)), none] [] M N := by
  obtain ⟨hA0, h0, h1⟩ := id hN
  obtain ⟨hP, hP8⟩ := zP_eq h0
  obtain ⟨hHe, hH12⟩ := zH_eq h0
  obtain ⟨hB, hB6, hB2⟩ := zB_eq h0
  intro n
  induction n with
  | zero =>
    intro q M N hw hF hA hNf hH
    have ew : q = zPcs M0 := by omega
    subst ew
    refine zv_X3_go_48 _ _ ⟨fun _ => ?_, fun c => absurd ?_ c⟩
    · rw [nI_1]
      exact kk M N hF hA hNf hH
    · rw [hF 1 (by decide), hP]
      exact nI_le (by omega) (by omega)
  | succ n ih =>
    intro q M N hw hF hA hNf hH
    have E := zEqv_gx (zFr_mono hF (by decide : ∀ c ∈ [8, 33, 35, 36, 42], c ∈ zGx))
    generalize hs : zDHour M0 g q s0 = s at hH
    have hH1 := (hH.1 q (by omega))
    have hP1 : zDHour M0 g (q + 1) s0 = zDP M0 g q s := by rw [← hs]; rfl
    refine zv_X3_go_48 _ _ ⟨fun c => ?_, fun _ => ⟨nI_in_ (by omega), ab_vpk (by decide), ?_⟩⟩
    · rw [hF 1 (by decide), hP] at c
      exact absurd c (nI_ge (by omega) (by omega))
    · rw [nI_clamp (show q < 2 ^ 31 by omega), hH1.1, hF 17 (by decide), hB, nI_1]
      refine ⟨fun c => ?_, fun c => ?_⟩
      · have c2 : ¬ s.1 q < zBrk M0 := fun z => nI_ge z (by omega) c
        refine ih (q + 1) M N (by omega) hF hA hNf ?_
        rw [hP1]
        unfold zDP
        rw [if_neg c2]
        exact hH
      · have c2 : s.1 q < zBrk M0 := Nat.not_le.mp (fun z => c (nI_le z (by omega)))
        refine ab_m2_i ⟨zNight_gx hN hA (zFr_mono hF (by decide)), zWalked_eqv h0 E (hF 37 (by decide)) (hF 38 (by decide)) (hF 39 (by decide)) hW, q, g, by rw [zEqv_pcs E]; omega, by rw [zEqv_hrs E]; exact hg, rfl, rfl, s, by rw [zEqv_brk E]; exact hH, by rw [zEqv_brk E]; exact c2⟩ ?_
        rintro o M2 N2 ⟨rfl, hF2, hA2, hNf2, hS2⟩
        have hS3 := hS2 _ (by rw [zEqv_brk E]; exact hH)
        rw [zEqv_brk E, zDGrow_eqv E, nI_clamp (show q < 2 ^ 31 by omega), nI_clamp (show g < 2 ^ 31 by omega), zSc_eqv E g (by omega)] at hS3
        refine zv_X3_go_83 _ _ ?_
        refine zL_X3_go_w hN hW q g _ (by omega) hg (fun M3 N3 hF3 hA3 hNf3 hH3 => ih (q + 1) M3 N3 (by omega) hF3 hA3 hNf3 ?_) 8 0 M2 N2 (by omega) (zFr_tr hF hF2) hA2 (zNfr_tr hNf hNf2) hS3
        rw [hP1]
        unfold zDP
        rw [if_pos c2]
        exact hH3
theorem zL_X3_go_h (hN : zNight M0) (hW : zWalked M0) (s0 : zDs) (kk : ∀ M N, zFr [8, 33, 35, 36, 42] M0 M → zAsks M → zNfr [8] N0 N → zHd (zBrk M0) M N (zDAll M0 s0 (zHrs M0)) → Q none M N) :
    ∀ (n g : Nat) (M : ab_M) (N : ab_N), g + n = zHrs M0 → zFr [8, 33, 35, 36, 42] M0 M → zAsks M → zNfr [8] N0 N → zHd (zBrk M0) M N (zDAll M0 s0 g) → zr_X3_go Q 33 [some (.ref 8), none, some (.int (nI g)), none, none] [] M N := by
  obtain ⟨hA0, h0, h1⟩ := id hN
  obtain ⟨hHe, hH12⟩ := zH_eq h0
  intro n
  induction n with
  | zero =>
    intro g M N hg hF hA hNf hH
    have eg : g = zHrs M0 := by omega
    subst eg
    refine zv_X3_go_33 _ ⟨ab_vpk (by decide), fun _ => kk M N hF hA hNf hH, fun c => absurd ?_ c⟩
    rw [hF 17 (by decide), hHe]
    exact nI_le (by omega) (by omega)
  | succ n ih =>
    intro g M N hg hF hA hNf hH
    refine zv_X3_go_33 _ ⟨ab_vpk (by decide), fun c => ?_, fun _ => ?_⟩
    · rw [hF 17 (by decide), hHe] at c
      exact absurd c (nI_ge (by omega) (by omega))
    · exact zL_X3_go_p hN hW g _ (by omega) (fun M3 N3 hF3 hA3 hNf3 hH3 => ih (g + 1) M3 N3 (by omega) hF3 hA3 hNf3 hH3) (zPcs M0) 0 M N (by omega) hF hA hNf hH
end ZDr
theorem zE_X3_go (as : List Value) (M : ab_M) (N : ab_N) (k : ab_R) (hT : zt_X3_go as M N k) : ab_cs as ≤ 5 ∧ zr_X3_go k 0 (ab_en as) [] M N := by
  obtain ⟨x, rfl, ⟨hN, hW⟩, hk⟩ := ab_m1_e hT
  refine ⟨Nat.le_of_ble_eq_true rfl, zv_X3_go_0 _ ⟨rfl, fun f hf => zv_X3_go_8 _ ?_⟩⟩
  intro y1 y2 z3 z4
  have hy2 : y2 = vp_updL (vp_updL (N 8) 4 (x.toInt64 + 1)) 5 0 := rfl
  have hz3 : z3 = upd (M 8) 6 0 := rfl
  have hz4 : z4 = upd z3 7 0 := rfl
  clear_value y2 z3 z4
  refine zL_X3_go_h hN hW (zDs0 x) (fun M2 N2 hF hA hNf hS => hk none M2 N2 ⟨rfl, hF, hA, hNf, hS⟩) (zHrs M) 0 _ _ (by omega) (zFr_u (zFr_u (zFr_u (zFr_rf _ _) (by decide) _) (by decide) _) (by decide) _) (zAsks_gy hN.1 (zFr_u (zFr_u (zFr_u (zFr_rf _ _) (by decide) _) (by decide) _) (by decide) _)) (zNfr_u (zNfr_u (zNfr_rf _ _) (by decide) _) (by decide) _) ?_
  show zHd (zBrk M) _ _ (fun _ => 0, x.toInt64 + 1, 0, 0, 0)
  refine zHd_mk (fun p hp => ⟨?_, by omega⟩) ?_ ?_ ?_ ?_
  · rw [ab_u_ne _ _ (by decide), ab_u_ne _ _ (by decide), ab_u_eq, hf p hp]; rfl
  · rw [ab_u_eq, hy2, updL_ne _ _ (by decide), updL_eq]
  · rw [ab_u_eq, hy2, updL_eq]
  · rw [ab_u_eq, hz4, upd_ne _ _ (by decide), hz3, upd_eq]
  · rw [ab_u_eq, hz4, upd_eq]
abbrev zR_X3_go : Room := { frames := 4, cells := 0, slots := 0, locals := 103 }
set_option maxRecDepth 20000 in
theorem zM_X3_go (l : Launch) : ab_Met l zw_C vwCl zZ_C yX3_go cX3_go 5 none zR_X3_go zt_X3_go := ab_ofRun (G := zg_X3_go) (P := zp_X3_go) rfl zo_X3_go (by decide +kernel) zl_cl zl_lamC zf_X3_ok zs_tabOK zc_X3_ok ab_Sta_nil (List.forall_mem_cons.mpr ⟨ab_callV zZ_C_ok (zM_X3_grow l) (ab_in 887 (by decide +kernel) rfl) (ab_in 884 (by decide +kernel) rfl) (ab_in 886 (by decide +kernel) rfl) (ab_inS (List.mem_of_getElem? (i := 23) (by decide +kernel)) rfl) (ab_in 9 (by decide +kernel) rfl) (by unfold ab_yok; decide +kernel) ⟨rfl, rfl⟩ (by decide) zV_X3_grow, List.forall_mem_cons.mpr ⟨ab_callV zZ_C_ok (zM_X3_look l) (ab_in 900 (by decide +kernel) rfl) (ab_in 897 (by decide +kernel) rfl) (ab_in 899 (by decide +kernel) rfl) (ab_inS (List.mem_of_getElem? (i := 25) (by decide +kernel)) rfl) (ab_in 9 (by decide +kernel) rfl) (by unfold ab_yok; decide +kernel) ⟨rfl, rfl⟩ (by decide) zV_X3_look, List.forall_mem_nil _⟩⟩) (List.forall_mem_cons.mpr ⟨ab_callS zZ_C_ok (zM_J7_fill_53178 l) (ab_in 883 (by decide +kernel) rfl) (ab_in 881 (by decide +kernel) rfl) (ab_in 882 (by decide +kernel) rfl) (ab_in 19 (by decide +kernel) rfl) (by unfold ab_yok; decide +kernel) ⟨rfl, rfl⟩ (by decide), List.forall_mem_nil _⟩) zE_X3_go
end
section
/-! Tape: bytes *)
-/
def zt_X8_at : ab_T := ab_pure (fun as M N => match as with
  | [.ref r1, .int i] => (match Nat.beq r1 4 with | true => some (.int (if 0 ≤ i ∧ i < (M 4) 2 ∧ i < 160 then (M 34) i.toNatClampNeg else -1)) | false => none)
  | _ => none)
theorem zI_X8_at {as : List Value} {M : ab_M} {N : ab_N} {k : ab_R} (hk : zt_X8_at as M N k) : ∃ (i : Int32), as = [.ref 4, .int i] ∧ k (some (.int (if 0 ≤ i ∧ i < (M 4) 2 ∧ i < 160 then (M 34) i.toNatClampNeg else -1))) M N := by
  unfold zt_X8_at ab_pure at hk
  dsimp only at hk
  split at hk
  · rename_i v hv
    split at hv
    · split at hv
      · rename_i hb0
        cases hv
        rw [Nat.eq_of_beq_eq_true hb0]
        exact ⟨_, rfl, hk⟩
      · cases hv
    · cases hv
  · exact hk.elim
def zp_X8_at : ab_P := [(0, .iload_n 1, 1, [1], []),
  (1, .ifCond .lt 27, 4, [28], []),
  (4, .iload_n 1, 5, [1], []),
  (5, .aload_n 0, 6, [0], []),
  (6, .getfield 15, 9, [], []),
  (9, .if_icmp .ge 19, 12, [28], []),
  (12, .iload_n 1, 13, [1], []),
  (13, .sipush 160, 16, [], [160]),
  (16, .if_icmp .ge 12, 19, [28], []),
  (19, .aload_n 0, 20, [0], []),
  (20, .getfield 9, 23, [], []),
  (23, .iload_n 1, 24, [1], []),
  (24, .iaload, 25, [], []),
  (25, .goto 4, 28, [29], []),
  (28, .iconst (-1), 29, [], [(-1)]),
  (29, .ireturn, 30, [], [])]
theorem zo_X8_at : ab_ok cX8_at zp_X8_at = true := by decide +kernel
def zg_X8_at : ab_G := (zw_C, zs_tab, zf_X8, zc_X8, [], [], [])
theorem zm_X8_at : ab_MG zg_X8_at := ab_MGof (List.forall_mem_nil _) (List.forall_mem_nil _)
abbrev zr_X8_at (Q : ab_R) : ab_K := ab_Run zg_X8_at zp_X8_at (some .int) 2 Q
set_option maxRecDepth 20000 in
theorem zv_X8_at_0 {Q : ab_R} {M : ab_M} {N : ab_N} (l1 : Int32) (h : (l1 < 0 → Q (some (.int (-1 : Int32))) M N) ∧ (¬ (l1 < 0) → ((M 4 2) ≤ l1 → Q (some (.int (-1 : Int32))) M N) ∧ (¬ ((M 4 2) ≤ l1) → ((160 : Int32) ≤ l1 → Q (some (.int (-1 : Int32))) M N) ∧ (¬ ((160 : Int32) ≤ l1) → vp_in l1 160 ∧ (Q (some (.int (M 34 l1.toNatClampNeg))) M N))))) : zr_X8_at Q 0 [some (.ref 4), some (.int l1)] [] M N := ab_Run_s zm_X8_at (sp := []) 18 h
theorem zH_X8_at (i : Int32) {M : ab_M} {N : ab_N} {k : ab_R} (hk : k (some (.int (if 0 ≤ i ∧ i < (M 4) 2 ∧ i < 160 then (M 34) i.toNatClampNeg else -1))) M N) : zr_X8_at k 0 [some (.ref 4), some (.int i)] [] M N := by
  refine zv_X8_at_0 _ ?_
  refine ⟨fun c => ab_qi hk ?_, fun c => ⟨fun c2 => ab_qi hk ?_, fun c2 => ⟨fun c3 => ab_qi hk ?_, fun c3 => ⟨ab_vp 160 rfl ?_ ?_, ab_qi hk ?_⟩⟩⟩⟩ <;> (try unfold ab_b at *) <;> grind
abbrev zR_X8_at : Room := { frames := 0, cells := 0, slots := 0, locals := 0 }
theorem zV_X8_at : ab_recv zw_C vwCl RX8 zt_X8_at := fun as M N k h => by
  obtain ⟨_, rfl, -⟩ := zI_X8_at h
  exact ⟨_, _, _, _, _, _, rfl, rfl, rfl⟩
theorem zE_X8_at (as : List Value) (M : ab_M) (N : ab_N) (k : ab_R) (hk : zt_X8_at as M N k) : ab_cs as ≤ 2 ∧ zr_X8_at k 0 (ab_en as) [] M N := by
  obtain ⟨i, rfl, hk2⟩ := zI_X8_at hk
  exact ⟨Nat.le_of_ble_eq_true rfl, zH_X8_at i hk2⟩
set_option maxRecDepth 20000 in
theorem zM_X8_at (l : Launch) : ab_Met l zw_C vwCl zZ_C yX8_at cX8_at 2 (some .int) zR_X8_at zt_X8_at := ab_ofRun (G := zg_X8_at) (P := zp_X8_at) rfl zo_X8_at (by decide +kernel) zl_cl zl_lamC zf_X8_ok zs_tabOK zc_X8_ok ab_Sta_nil (List.forall_mem_nil _) (List.forall_mem_nil _) zE_X8_at
def zt_X8_isLetter : ab_T := ab_pure (fun as M N => match as with
  | [.int b] => some (.int (ab_b (97 ≤ b ∧ b ≤ 122)))
  | _ => none)
theorem zI_X8_isLetter {as : List Value} {M : ab_M} {N : ab_N} {k : ab_R} (hk : zt_X8_isLetter as M N k) : ∃ (b : Int32), as = [.int b] ∧ k (some (.int (ab_b (97 ≤ b ∧ b ≤ 122)))) M N := by
  unfold zt_X8_isLetter ab_pure at hk
  dsimp only at hk
  split at hk
  · rename_i v hv
    split at hv
    · cases hv
      exact ⟨_, rfl, hk⟩
    · cases hv
  · exact hk.elim
def zp_X8_isLetter : ab_P := [(0, .iload_n 0, 1, [0], []),
  (1, .bipush 97, 3, [], [97]),
  (3, .if_icmp .lt 13, 6, [16], []),
  (6, .iload_n 0, 7, [0], []),
  (7, .bipush 122, 9, [], [122]),
  (9, .if_icmp .gt 7, 12, [16], []),
  (12, .iconst 1, 13, [], [1]),
  (13, .goto 4, 16, [17], []),
  (16, .iconst 0, 17, [], [0]),
  (17, .ireturn, 18, [], [])]
theorem zo_X8_isLetter : ab_ok cX8_isLetter zp_X8_isLetter = true := by decide +kernel
def zg_X8_isLetter : ab_G := (zw_C, zs_tab, zf_X8, zc_X8, [], [], [])
theorem zm_X8_isLetter : ab_MG zg_X8_isLetter := ab_MGof (List.forall_mem_nil _) (List.forall_mem_nil _)
abbrev zr_X8_isLetter (Q : ab_R) : ab_K := ab_Run zg_X8_isLetter zp_X8_isLetter (some .boolean) 1 Q
set_option maxRecDepth 20000 in
theorem zv_X8_isLetter_0 {Q : ab_R} {M : ab_M} {N : ab_N} (l0 : Int32) (h : (l0 < (97 : Int32) → narrow .boolean (.int (0 : Int32)) = .int (0 : Int32) ∧ Q (some (.int (0 : Int32))) M N) ∧ (¬ (l0 < (97 : Int32)) → ((122 : Int32) < l0 → narrow .boolean (.int (0 : Int32)) = .int (0 : Int32) ∧ Q (some (.int (0 : Int32))) M N) ∧ (¬ ((122 : Int32) < l0) → narrow .boolean (.int (1 : Int32)) = .int (1 : Int32) ∧ Q (some (.int (1 : Int32))) M N))) : zr_X8_isLetter Q 0 [some (.int l0)] [] M N := ab_Run_s zm_X8_isLetter (sp := []) 12 h
theorem zH_X8_isLetter (b : Int32) {M : ab_M} {N : ab_N} {k : ab_R} (hk : k (some (.int (ab_b (97 ≤ b ∧ b ≤ 122)))) M N) : zr_X8_isLetter k 0 [some (.int b)] [] M N := by
  refine zv_X8_isLetter_0 _ ?_
  (repeat' first | exact ab_vpk (by decide) | exact hp | refine And.intro ?_ ?_ | intro _)
  all_goals first | rfl | exact ab_b_n | (refine ab_qi hk ?_; (try unfold ab_b at *); grind) | grind
abbrev zR_X8_isLetter : Room := { frames := 0, cells := 0, slots := 0, locals := 0 }
theorem zE_X8_isLetter (as : List Value) (M : ab_M) (N : ab_N) (k : ab_R) (hk : zt_X8_isLetter as M N k) : ab_cs as ≤ 1 ∧ zr_X8_isLetter k 0 (ab_en as) [] M N := by
  obtain ⟨b, rfl, hk2⟩ := zI_X8_isLetter hk
  exact ⟨Nat.le_of_ble_eq_true rfl, zH_X8_isLetter b hk2⟩
set_option maxRecDepth 20000 in
theorem zM_X8_isLetter (l : Launch) : ab_Met l zw_C vwCl zZ_C yX8_isLetter cX8_isLetter 1 (some .boolean) zR_X8_isLetter zt_X8_isLetter := ab_ofRun (G := zg_X8_isLetter) (P := zp_X8_isLetter) rfl zo_X8_isLetter (by decide +kernel) zl_cl zl_lamC zf_X8_ok zs_tabOK zc_X8_ok ab_Sta_nil (List.forall_mem_nil _) (List.forall_mem_nil _) zE_X8_isLetter
def zt_X8_isDigit : ab_T := ab_pure (fun as M N => match as with
  | [.int b] => some (.int (ab_b (48 ≤ b ∧ b ≤ 57)))
  | _ => none)
theorem zI_X8_isDigit {as : List Value} {M : ab_M} {N : ab_N} {k : ab_R} (hk : zt_X8_isDigit as M N k) : ∃ (b : Int32), as = [.int b] ∧ k (some (.int (ab_b (48 ≤ b ∧ b ≤ 57)))) M N := by
  unfold zt_X8_isDigit ab_pure at hk
  dsimp only at hk
  split at hk
  · rename_i v hv
    split at hv
    · cases hv
      exact ⟨_, rfl, hk⟩
    · cases hv
  · exact hk.elim
def zp_X8_isDigit : ab_P := [(0, .iload_n 0, 1, [0], []),
  (1, .bipush 48, 3, [], [48]),
  (3, .if_icmp .lt 13, 6, [16], []),
  (6, .iload_n 0, 7, [0], []),
  (7, .bipush 57, 9, [], [57]),
  (9, .if_icmp .gt 7, 12, [16], []),
  (12, .iconst 1, 13, [], [1]),
  (13, .goto 4, 16, [17], []),
  (16, .iconst 0, 17, [], [0]),
  (17, .ireturn, 18, [], [])]
theorem zo_X8_isDigit : ab_ok cX8_isDigit zp_X8_isDigit = true := by decide +kernel
def zg_X8_isDigit : ab_G := (zw_C, zs_tab, zf_X8, zc_X8, [], [], [])
theorem zm_X8_isDigit : ab_MG zg_X8_isDigit := ab_MGof (List.forall_mem_nil _) (List.forall_mem_nil _)
abbrev zr_X8_isDigit (Q : ab_R) : ab_K := ab_Run zg_X8_isDigit zp_X8_isDigit (some .boolean) 1 Q
set_option maxRecDepth 20000 in
theorem zv_X8_isDigit_0 {Q : ab_R} {M : ab_M} {N : ab_N} (l0 : Int32) (h : (l0 < (48 : Int32) → narrow .boolean (.int (0 : Int32)) = .int (0 : Int32) ∧ Q (some (.int (0 : Int32))) M N) ∧ (¬ (l0 < (48 : Int32)) → ((57 : Int32) < l0 → narrow .boolean (.int (0 : Int32)) = .int (0 : Int32) ∧ Q (some (.int (0 : Int32))) M N) ∧ (¬ ((57 : Int32) < l0) → narrow .boolean (.int (1 : Int32)) = .int (1 : Int32) ∧ Q (some (.int (1 : Int32))) M N))) : zr_X8_isDigit Q 0 [some (.int l0)] [] M N := ab_Run_s zm_X8_isDigit (sp := []) 12 h
theorem zH_X8_isDigit (b : Int32) {M : ab_M} {N : ab_N} {k : ab_R} (hk : k (some (.int (ab_b (48 ≤ b ∧ b ≤ 57)))) M N) : zr_X8_isDigit k 0 [some (.int b)] [] M N := by
  refine zv_X8_isDigit_0 _ ?_
  (repeat' first | exact ab_vpk (by decide) | exact hp | refine And.intro ?_ ?_ | intro _)
  all_goals first | rfl | exact ab_b_n | (refine ab_qi hk ?_; (try unfold ab_b at *); grind) | grind
abbrev zR_X8_isDigit : Room := { frames := 0, cells := 0, slots := 0, locals := 0 }
theorem zE_X8_isDigit (as : List Value) (M : ab_M) (N : ab_N) (k : ab_R) (hk : zt_X8_isDigit as M N k) : ab_cs as ≤ 1 ∧ zr_X8_isDigit k 0 (ab_en as) [] M N := by
  obtain ⟨b, rfl, hk2⟩ := zI_X8_isDigit hk
  exact ⟨Nat.le_of_ble_eq_true rfl, zH_X8_isDigit b hk2⟩
set_option maxRecDepth 20000 in
theorem zM_X8_isDigit (l : Launch) : ab_Met l zw_C vwCl zZ_C yX8_isDigit cX8_isDigit 1 (some .boolean) zR_X8_isDigit zt_X8_isDigit := ab_ofRun (G := zg_X8_isDigit) (P := zp_X8_isDigit) rfl zo_X8_isDigit (by decide +kernel) zl_cl zl_lamC zf_X8_ok zs_tabOK zc_X8_ok ab_Sta_nil (List.forall_mem_nil _) (List.forall_mem_nil _) zE_X8_isDigit
abbrev zSign (b : Int32) : Prop := b = 40 ∨ b = 41 ∨ b = 59 ∨ b = 43 ∨ b = 45 ∨ b = 42 ∨ b = 60 ∨ b = 61
def zt_X8_isSign : ab_T := ab_pure (fun as M N => match as with
  | [.int b] => some (.int (ab_b (zSign b)))
  | _ => none)
theorem zI_X8_isSign {as : List Value} {M : ab_M} {N : ab_N} {k : ab_R} (hk : zt_X8_isSign as M N k) : ∃ (b : Int32), as = [.int b] ∧ k (some (.int (ab_b (zSign b)))) M N := by
  unfold zt_X8_isSign ab_pure at hk
  dsimp only at hk
  split at hk
  · rename_i v hv
    split at hv
    · cases hv
      exact ⟨_, rfl, hk⟩
    · cases hv
  · exact hk.elim
def zp_X8_isSign : ab_P := [(0, .iload_n 0, 1, [0], []),
  (1, .bipush 40, 3, [], [40]),
  (3, .if_icmp .eq 45, 6, [48], []),
  (6, .iload_n 0, 7, [0], []),
  (7, .bipush 41, 9, [], [41]),
  (9, .if_icmp .eq 39, 12, [48], []),
  (12, .iload_n 0, 13, [0], []),
  (13, .bipush 59, 15, [], [59]),
  (15, .if_icmp .eq 33, 18, [48], []),
  (18, .iload_n 0, 19, [0], []),
  (19, .bipush 43, 21, [], [43]),
  (21, .if_icmp .eq 27, 24, [48], []),
  (24, .iload_n 0, 25, [0], []),
  (25, .bipush 45, 27, [], [45]),
  (27, .if_icmp .eq 21, 30, [48], []),
  (30, .iload_n 0, 31, [0], []),
  (31, .bipush 42, 33, [], [42]),
  (33, .if_icmp .eq 15, 36, [48], []),
  (36, .iload_n 0, 37, [0], []),
  (37, .bipush 60, 39, [], [60]),
  (39, .if_icmp .eq 9, 42, [48], []),
  (42, .iload_n 0, 43, [0], []),
  (43, .bipush 61, 45, [], [61]),
  (45, .if_icmp .ne 7, 48, [52], []),
  (48, .iconst 1, 49, [], [1]),
  (49, .goto 4, 52, [53], []),
  (52, .iconst 0, 53, [], [0]),
  (53, .ireturn, 54, [], [])]
theorem zo_X8_isSign : ab_ok cX8_isSign zp_X8_isSign = true := by decide +kernel
def zg_X8_isSign : ab_G := (zw_C, zs_tab, zf_X8, zc_X8, [], [], [])
theorem zm_X8_isSign : ab_MG zg_X8_isSign := ab_MGof (List.forall_mem_nil _) (List.forall_mem_nil _)
abbrev zr_X8_isSign (Q : ab_R) : ab_K := ab_Run zg_X8_isSign zp_X8_isSign (some .boolean) 1 Q
set_option maxRecDepth 20000 in
theorem zv_X8_isSign_0 {Q : ab_R} {M : ab_M} {N : ab_N} (l0 : Int32) (h : (l0 = (40 : Int32) → narrow .boolean (.int (1 : Int32)) = .int (1 : Int32) ∧ Q (some (.int (1 : Int32))) M N) ∧ (¬ (l0 = (40 : Int32)) → (l0 = (41 : Int32) → narrow .boolean (.int (1 : Int32)) = .int (1 : Int32) ∧ Q (some (.int (1 : Int32))) M N) ∧ (¬ (l0 = (41 : Int32)) → (l0 = (59 : Int32) → narrow .boolean (.int (1 : Int32)) = .int (1 : Int32) ∧ Q (some (.int (1 : Int32))) M N) ∧ (¬ (l0 = (59 : Int32)) → (l0 = (43 : Int32) → narrow .boolean (.int (1 : Int32)) = .int (1 : Int32) ∧ Q (some (.int (1 : Int32))) M N) ∧ (¬ (l0 = (43 : Int32)) → (l0 = (45 : Int32) → narrow .boolean (.int (1 : Int32)) = .int (1 : Int32) ∧ Q (some (.int (1 : Int32))) M N) ∧ (¬ (l0 = (45 : Int32)) → (l0 = (42 : Int32) → narrow .boolean (.int (1 : Int32)) = .int (1 : Int32) ∧ Q (some (.int (1 : Int32))) M N) ∧ (¬ (l0 = (42 : Int32)) → (l0 = (60 : Int32) → narrow .boolean (.int (1 : Int32)) = .int (1 : Int32) ∧ Q (some (.int (1 : Int32))) M N) ∧ (¬ (l0 = (60 : Int32)) → (l0 = (61 : Int32) → narrow .boolean (.int (1 : Int32)) = .int (1 : Int32) ∧ Q (some (.int (1 : Int32))) M N) ∧ (¬ (l0 = (61 : Int32)) → narrow .boolean (.int (0 : Int32)) = .int (0 : Int32) ∧ Q (some (.int (0 : Int32))) M N))))))))) : zr_X8_isSign Q 0 [some (.int l0)] [] M N := ab_Run_s zm_X8_isSign (sp := []) 30 h
theorem zH_X8_isSign (b : Int32) {M : ab_M} {N : ab_N} {k : ab_R} (hk : k (some (.int (ab_b (zSign b)))) M N) : zr_X8_isSign k 0 [some (.int b)] [] M N := by
  have y : zSign b → k (some (.int 1)) M N := fun z => by rw [ab_b_1.mpr z] at hk; exact hk
  have n : ¬ zSign b → k (some (.int 0)) M N := fun z => by rw [ab_b_0.mpr z] at hk; exact hk
  unfold zSign at y n
  exact zv_X8_isSign_0 _ ⟨fun c0 => ⟨ab_n1, y (by simp [c0])⟩, fun d0 => ⟨fun c1 => ⟨ab_n1, y (by simp [c1])⟩, fun d1 => ⟨fun c2 => ⟨ab_n1, y (by simp [c2])⟩, fun d2 => ⟨fun c3 => ⟨ab_n1, y (by simp [c3])⟩, fun d3 => ⟨fun c4 => ⟨ab_n1, y (by simp [c4])⟩, fun d4 => ⟨fun c5 => ⟨ab_n1, y (by simp [c5])⟩, fun d5 => ⟨fun c6 => ⟨ab_n1, y (by simp [c6])⟩, fun d6 => ⟨fun c7 => ⟨ab_n1, y (by simp [c7])⟩, fun d7 => ⟨ab_n0, n (fun z => by simp_all)⟩⟩⟩⟩⟩⟩⟩⟩⟩
abbrev zR_X8_isSign : Room := { frames := 0, cells := 0, slots := 0, locals := 0 }
theorem zE_X8_isSign (as : List Value) (M : ab_M) (N : ab_N) (k : ab_R) (hk : zt_X8_isSign as M N k) : ab_cs as ≤ 1 ∧ zr_X8_isSign k 0 (ab_en as) [] M N := by
  obtain ⟨b, rfl, hk2⟩ := zI_X8_isSign hk
  exact ⟨Nat.le_of_ble_eq_true rfl, zH_X8_isSign b hk2⟩
set_option maxRecDepth 20000 in
theorem zM_X8_isSign (l : Launch) : ab_Met l zw_C vwCl zZ_C yX8_isSign cX8_isSign 1 (some .boolean) zR_X8_isSign zt_X8_isSign := ab_ofRun (G := zg_X8_isSign) (P := zp_X8_isSign) rfl zo_X8_isSign (by decide +kernel) zl_cl zl_lamC zf_X8_ok zs_tabOK zc_X8_ok ab_Sta_nil (List.forall_mem_nil _) (List.forall_mem_nil _) zE_X8_isSign
def zt_X8_add : ab_T := ab_m1 4 (fun _ M _ => ∃ n : Nat, n < 160 ∧ M 4 2 = nI n) (fun b M N o M2 N2 => o = none ∧ M2 = ab_u (ab_u M 34 (upd (M 34) (M 4 2).toNatClampNeg b)) 4 (upd (M 4) 2 (M 4 2 + 1)) ∧ N2 = N)
theorem zt_X8_add_mono : ab_mono zt_X8_add := ab_m1_mono _ _ _
theorem zV_X8_add : ab_recv zw_C vwCl RX8 zt_X8_add := ab_m1_v rfl rfl
def zp_X8_add : ab_P := [(0, .aload_n 0, 1, [0], []),
  (1, .getfield 15, 4, [], []),
  (4, .sipush 160, 7, [], [160]),
  (7, .if_icmp .ge 23, 10, [30], []),
  (10, .aload_n 0, 11, [0], []),
  (11, .getfield 9, 14, [], []),
  (14, .aload_n 0, 15, [0], []),
  (15, .getfield 15, 18, [], []),
  (18, .iload_n 1, 19, [1], []),
  (19, .iastore, 20, [], []),
  (20, .aload_n 0, 21, [0], []),
  (21, .dup, 22, [], []),
  (22, .getfield 15, 25, [], []),
  (25, .iconst 1, 26, [], [1]),
  (26, .iadd, 27, [], []),
  (27, .putfield 15, 30, [], []),
  (30, .return_, 31, [], [])]
theorem zo_X8_add : ab_ok cX8_add zp_X8_add = true := by decide +kernel
def zg_X8_add : ab_G := (zw_C, zs_tab, zf_X8, zc_X8, [], [], [])
theorem zm_X8_add : ab_MG zg_X8_add := ab_MGof (List.forall_mem_nil _) (List.forall_mem_nil _)
abbrev zr_X8_add (Q : ab_R) : ab_K := ab_Run zg_X8_add zp_X8_add none 2 Q
set_option maxRecDepth 20000 in
theorem zv_X8_add_0 {Q : ab_R} {M : ab_M} {N : ab_N} (l1 : Int32) (h : ((160 : Int32) ≤ (M 4 2) → Q none M N) ∧ (¬ ((160 : Int32) ≤ (M 4 2)) → vp_in (M 4 2) 160 ∧ (let z1 : Nat → Int32 := upd (M 34) (M 4 2).toNatClampNeg l1; let z2 : Nat → Int32 := upd (M 4) 2 ((M 4 2) + (1 : Int32)); Q none (ab_u (ab_u M 34 z1) 4 z2) N))) : zr_X8_add Q 0 [some (.ref 4), some (.int l1)] [] M N := ab_Run_s zm_X8_add (sp := []) 19 h
theorem zE_X8_add (as : List Value) (M : ab_M) (N : ab_N) (k : ab_R) (hT : zt_X8_add as M N k) : ab_cs as ≤ 2 ∧ zr_X8_add k 0 (ab_en as) [] M N := by
  obtain ⟨b, rfl, ⟨n, hn, e⟩, hk⟩ := ab_m1_e hT
  refine ⟨Nat.le_of_ble_eq_true rfl, zv_X8_add_0 _ ⟨fun c => ?_, fun _ => ⟨?_, hk _ _ _ ⟨rfl, rfl, rfl⟩⟩⟩⟩
  · rw [e] at c
    exact absurd c (nI_ge (b := 160) hn (by omega))
  · rw [e]
    exact nI_in_ hn
abbrev zR_X8_add : Room := { frames := 0, cells := 0, slots := 0, locals := 0 }
set_option maxRecDepth 20000 in
theorem zM_X8_add (l : Launch) : ab_Met l zw_C vwCl zZ_C yX8_add cX8_add 2 none zR_X8_add zt_X8_add := ab_ofRun (G := zg_X8_add) (P := zp_X8_add) rfl zo_X8_add (by decide +kernel) zl_cl zl_lamC zf_X8_ok zs_tabOK zc_X8_ok ab_Sta_nil (List.forall_mem_nil _) (List.forall_mem_nil _) zE_X8_add
def zt_X8_put : ab_T := ab_m1 4 (fun _ M _ => ∃ w n : Nat, w < 6 ∧ M 3 2 = nI w ∧ n < (w + 1) * 160 ∧ M 4 7 = nI n) (fun c M N o M2 N2 => o = none ∧ M2 = ab_u (ab_u M 31 (upd (M 31) (M 4 7).toNatClampNeg c)) 4 (upd (M 4) 7 (M 4 7 + 1)) ∧ N2 = N)
theorem zt_X8_put_mono : ab_mono zt_X8_put := ab_m1_mono _ _ _
theorem zV_X8_put : ab_recv zw_C vwCl RX8 zt_X8_put := ab_m1_v rfl rfl
def zp_X8_put : ab_P := [(0, .aload_n 0, 1, [0], []),
  (1, .getfield 31, 4, [], []),
  (4, .ifCond .lt 61, 7, [65], []),
  (7, .aload_n 0, 8, [0], []),
  (8, .getfield 31, 11, [], []),
  (11, .aload_n 0, 12, [0], []),
  (12, .getfield 19, 15, [], []),
  (15, .getfield 75, 18, [], []),
  (18, .arraylength, 19, [], []),
  (19, .if_icmp .ge 46, 22, [65], []),
  (22, .aload_n 0, 23, [0], []),
  (23, .getfield 31, 26, [], []),
  (26, .aload_n 0, 27, [0], []),
  (27, .getfield 19, 30, [], []),
  (30, .getfield 23, 33, [], []),
  (33, .iconst 1, 34, [], [1]),
  (34, .iadd, 35, [], []),
  (35, .sipush 160, 38, [], [160]),
  (38, .imul, 39, [], []),
  (39, .if_icmp .ge 26, 42, [65], []),
  (42, .aload_n 0, 43, [0], []),
  (43, .getfield 19, 46, [], []),
  (46, .getfield 75, 49, [], []),
  (49, .aload_n 0, 50, [0], []),
  (50, .getfield 31, 53, [], []),
  (53, .iload_n 1, 54, [1], []),
  (54, .iastore, 55, [], []),
  (55, .aload_n 0, 56, [0], []),
  (56, .dup, 57, [], []),
  (57, .getfield 31, 60, [], []),
  (60, .iconst 1, 61, [], [1]),
  (61, .iadd, 62, [], []),
  (62, .putfield 31, 65, [], []),
  (65, .return_, 66, [], [])]
theorem zo_X8_put : ab_ok cX8_put zp_X8_put = true := by decide +kernel
def zg_X8_put : ab_G := (zw_C, zs_tab, zf_X8, zc_X8, [], [], [])
theorem zm_X8_put : ab_MG zg_X8_put := ab_MGof (List.forall_mem_nil _) (List.forall_mem_nil _)
abbrev zr_X8_put (Q : ab_R) : ab_K := ab_Run zg_X8_put zp_X8_put none 2 Q
set_option maxRecDepth 20000 in
theorem zv_X8_put_0 {Q : ab_R} {M : ab_M} {N : ab_N} (l1 : Int32) (h : ((M 4 7) < 0 → Q none M N) ∧ (¬ ((M 4 7) < 0) → ((Int32.ofNat 960) ≤ (M 4 7) → Q none M N) ∧ (¬ ((Int32.ofNat 960) ≤ (M 4 7)) → ((((M 3 2) + (1 : Int32)) * (160 : Int32)) ≤ (M 4 7) → Q none M N) ∧ (¬ ((((M 3 2) + (1 : Int32)) * (160 : Int32)) ≤ (M 4 7)) → vp_in (M 4 7) 960 ∧ (let z1 : Nat → Int32 := upd (M 31) (M 4 7).toNatClampNeg l1; let z2 : Nat → Int32 := upd (M 4) 7 ((M 4 7) + (1 : Int32)); Q none (ab_u (ab_u M 31 z1) 4 z2) N))))) : zr_X8_put Q 0 [some (.ref 4), some (.int l1)] [] M N := ab_Run_s zm_X8_put (sp := []) 36 h
theorem zE_X8_put (as : List Value) (M : ab_M) (N : ab_N) (k : ab_R) (hT : zt_X8_put as M N k) : ab_cs as ≤ 2 ∧ zr_X8_put k 0 (ab_en as) [] M N := by
  obtain ⟨b, rfl, ⟨w, n, hw, e, hn, e2⟩, hk⟩ := ab_m1_e hT
  refine ⟨Nat.le_of_ble_eq_true rfl, zv_X8_put_0 _ ⟨fun c => ?_, fun _ => ⟨fun c => ?_, fun _ => ⟨fun c => ?_, fun _ => ⟨?_, hk _ _ _ ⟨rfl, rfl, rfl⟩⟩⟩⟩⟩⟩
  · rw [e2] at c
    exact absurd c (nI_pos (by omega))
  · rw [e2] at c
    exact absurd c (nI_ge (a := n) (b := 960) (by omega) (by omega))
  · rw [e2, e, nI_1, zN_mul _ 160 160] at c
    exact absurd c (nI_ge hn (by omega))
  · rw [e2]
    exact nI_in_ (by omega)
abbrev zR_X8_put : Room := { frames := 0, cells := 0, slots := 0, locals := 0 }
set_option maxRecDepth 20000 in
theorem zM_X8_put (l : Launch) : ab_Met l zw_C vwCl zZ_C yX8_put cX8_put 2 none zR_X8_put zt_X8_put := ab_ofRun (G := zg_X8_put) (P := zp_X8_put) rfl zo_X8_put (by decide +kernel) zl_cl zl_lamC zf_X8_ok zs_tabOK zc_X8_ok ab_Sta_nil (List.forall_mem_nil _) (List.forall_mem_nil _) zE_X8_put
end
section
/-! the two texts: their length, their letters *)
-/
set_option maxHeartbeats 4000000 in
/-- a contract of the abstract machine out of a walk of the kit's -/
theorem ab_ofW {l : Launch} {Λ : List ab_L} {cl : List vw_C} {Z : ab_Zt} {y : MethodName} {bytes : ByteArray} {nL : Nat} {ret : Option FieldType} {rm : Room} {T : ab_T} (hy : plainName y.cls = true)
    (h : ∀ (p : Program) (e : Env) (s : State) (m : MethodId) (args : Array Value) (below : List Frame) (meth : Method) (c : Code) (D : va_G) (cy : FieldType → ClassId) (ad : Nat → Nat) (as : List Value) (M : ab_M) (N : ab_N) (k : ab_R), T as M N k → ab_cs as ≤ nL ∧ ∀ (lsC : Array Slot), ab_Env p s m args meth c bytes y.cls nL ret cl Λ D cy ad (ab_A Λ ad s.heap.size) → Z ad (ab_A Λ ad s.heap.size) s s.heap → lv_has lsC nL (lv_args 0 (as.map (ab_c ad))) → va_P D cl (ab_w Λ ad cy M N) s.heap →
      W p l e rm s m args below meth c s.heap [] 0 0 (MQ below (ab_Fin cl Λ D cy ad (ab_A Λ ad s.heap.size) k) args s 0 0 (ab_A Λ ad s.heap.size)) (F0 m 0 lsC [])) : ab_Met l Λ cl Z y bytes nL ret rm T := by
  intro D cy ad sz as M N k hinj hT
  refine Met.ofW (cc := bytes) (maxL := nL) (ret := ret) hy rfl ?_
  intro p e s m args below meth c s₁ B hml hv
  obtain ⟨rfl, hsz, hP, hK, hZ⟩ := hv
  have hts := atoms_spec (ws := Cond.code y bytes nL ret :: ab_B) B.pre
  have hown : s.vm.findClass y.cls = some m.cls := findClass_of_methodNamed B.named
  have hlocks := B.notSynchronized
  subst hsz
  obtain ⟨hcs, hR⟩ := h p e s m (as.map (ab_c ad)).toArray below meth c D cy ad as M N k hT
  have htsB : ∀ w ∈ ab_B, w.before (as.map (ab_c ad)).toArray s = true := fun w hw => hts w (List.mem_cons_of_mem _ hw)
  have hE : ab_Env p s m (as.map (ab_c ad)).toArray meth c bytes y.cls nL ret cl Λ D cy ad (ab_A Λ ad s.heap.size) := ⟨⟨B.exec, B.bytes, hml, hown, htsB⟩, B.returns, hlocks, hK, hinj, fun j hj => Or.inl ⟨j, hj, rfl⟩, fun q h => Or.inr h⟩
  have hl := lv_entry (as.map (ab_c ad)) (n := nL) (by rw [ab_ls_cs]; exact hcs)
  rw [lg_entry_eq]
  exact hR _ hE hZ hl hP
/-- a receiver that is a text -/
def ab_recT (T : ab_T) : Prop := ∀ (as : List Value) (M : ab_M) (N : ab_N) (k : ab_R), T as M N k → ∃ (j : Nat) (as2 : List Value), j < 2 ∧ as = .ref (60 + j) :: as2
set_option maxHeartbeats 4000000 in
theorem ab_callT {l : Launch} {own : String} {rm rmC : Room} {Λ : List ab_L} {cl : List vw_C} {i n : Nat} {T : ab_T} {y : MethodName} {bytes : ByteArray} {nLC : Nat} {retC : Option FieldType} (hM : ab_Met l Λ cl zZ_C y bytes nLC retC rmC T) (hC : y.cls = "java/lang/String") (hcode : Cond.code y bytes nLC retC ∈ ab_B) (hlink : Cond.methodLink own i y ∈ ab_B) (hins : Cond.instanceMethod y ∈ ab_B) (hsel : Cond.selects y.cls y y ∈ ab_B) (hini : Cond.initialized y.cls ∈ ab_B) (hy : ab_yok y n) (hr0 : rmC.cells = 0 ∧ rmC.slots = 0) (hroom : rmC.frames + 1 ≤ rm.frames ∧ 8 + (nLC + 11) + rmC.locals ≤ rm.locals) (hrecv : ab_recT T) : ab_Call l own rm Λ cl zZ_C .invokevirtual i (n + 1) T := by
  intro p e s m args below meth c cc nL ret D cy ad Qm hE hZs pc H locs lsC as rest M N k hdec hlen hcat hsz hP hS hT kk
  obtain ⟨⟨hx, hb, hml, hown, hts⟩, hr, hlocks, hK, hinj, hAad, hA⟩ := hE
  obtain ⟨j, as2, hj, rfl⟩ := hrecv as M N k hT
  have hst : ((Value.ref (60 + j) :: as2).map (ab_c ad)).reverse ++ rest = (as2.map (ab_c ad)).reverse ++ Value.ref (ad (60 + j)) :: rest := by simp [ab_c]
  rw [hst]
  have cw : CallW rm s args own y.cls i y bytes nLC retC (Cond.code y bytes nLC retC :: ab_B) rmC 0 0 n := ⟨callB_of n hts (ab_goodC hcode) rfl hr0.1 hr0.2 (hts _ hini) (hts _ hlink) hy hroom, hts _ hins, hts _ hsel⟩
  have hrun := va_runV (p := p) (e := e) (R := rm) (m := m) (args := args) (below := below) (meth := meth) (c := c) (locs := locs) (cells := 0) (slots := 0) (As := as2.map (ab_c ad)) (rest := rest) (g := F0 m pc lsC ((as2.map (ab_c ad)).reverse ++ Value.ref (ad (60 + j)) :: rest)) (b := ad (60 + j)) ⟨hx, hb, hml, hown, hts⟩ (hM D cy ad H.size (Value.ref (60 + j) :: as2) M N k hinj hT) cw
    ⟨ab_blind zZ_C_ok, by rw [hC]; exact vk_recv (adK := fun i => ad (60 + i)) hZs.2.2.2.1 hj hS, fun U hU hW => ⟨by simp [ab_c], by rw [hU], by rw [hU]; exact hP, va_K.moved hW.alike hK, by rw [hU]; exact ab_Z_at zZ_C_ok hZs hS hW⟩⟩ rfl (by simpa using hlen) hsz rfl (lv_room (m := m) (pc := pc) (ls := lsC) (rest := (as2.map (ab_c ad)).reverse ++ Value.ref (ad (60 + j)) :: rest) hcat) hdec ⟨Nat.zero_le _, Nat.zero_le _⟩
  exact ab_goes hrun hS kk
/-- the letters -/
def zs_ch (j : Nat) : Nat → Int32 := fun i => (zs_byt.getD j []).getD i 0
def zs_ln (j : Nat) : Nat := zs_len.getD j 0
/-- transformers: a text's or a row's place, j -/
def zt_tx (b : Nat) (f : Nat → List Value → Option (Prop × Option Value)) : ab_T := fun as M N k => match as with
  | .ref a :: r => match Nat.beq a b with
    | true => (match f 0 r with
      | some q => q.1 ∧ k q.2 M N
      | none => False)
    | false => match Nat.beq a (b + 1) with
      | true => (match f 1 r with
        | some q => q.1 ∧ k q.2 M N
        | none => False)
      | false => False
  | _ => False
theorem zt_tx_e {b : Nat} {f : Nat → List Value → Option (Prop × Option Value)} {as : List Value} {M : ab_M} {N : ab_N} {k : ab_R} (h : zt_tx b f as M N k) : ∃ (j : Nat) (r : List Value) (P : Prop) (v : Option Value), j < 2 ∧ as = .ref (b + j) :: r ∧ f j r = some (P, v) ∧ P ∧ k v M N := by
  unfold zt_tx at h
  split at h
  case h_2 => exact h.elim
  split at h
  · rename_i hb
    split at h
    · rename_i q hq
      rw [Nat.eq_of_beq_eq_true hb]
      exact ⟨0, _, q.1, q.2, by omega, rfl, hq, h⟩
    · exact h.elim
  · split at h
    · rename_i hb
      split at h
      · rename_i q hq
        rw [Nat.eq_of_beq_eq_true hb]
        exact ⟨1, _, q.1, q.2, by omega, rfl, hq, h⟩
      · exact h.elim
    · exact h.elim
theorem zt_tx_i {b : Nat} {f : Nat → List Value → Option (Prop × Option Value)} {j : Nat} {r : List Value} {P : Prop} {v : Option Value} {M : ab_M} {N : ab_N} {k : ab_R} (hj : j < 2) (h1 : f j r = some (P, v)) (h2 : P) (h3 : k v M N) : zt_tx b f (.ref (b + j) :: r) M N k := by
  unfold zt_tx
  dsimp only
  split
  · rename_i hb
    have e : j = 0 := by have := Nat.eq_of_beq_eq_true hb; omega
    subst e
    rw [h1]
    exact ⟨h2, h3⟩
  · rename_i hb
    have e : j = 1 := by
      have h0 : ¬ j = 0 := fun z => by rw [z, Nat.add_zero, Nat.beq_refl] at hb; cases hb
      omega
    subst e
    rw [Nat.beq_refl, h1]
    exact ⟨h2, h3⟩
theorem zt_tx_mono (b : Nat) (f : Nat → List Value → Option (Prop × Option Value)) : ab_mono (zt_tx b f) := fun as M N k k2 hk h => by
  unfold zt_tx at h ⊢
  split at h
  · split at h
    · split at h
      · exact ⟨h.1, hk _ _ _ h.2⟩
      · exact h
    · split at h
      · split at h
        · exact ⟨h.1, hk _ _ _ h.2⟩
        · exact h
      · exact h
  · exact h
theorem zt_tx_r {f : Nat → List Value → Option (Prop × Option Value)} : ab_recT (zt_tx 60 f) := fun as M N k h => by
  obtain ⟨j, r, P, v, hj, rfl, -⟩ := zt_tx_e h
  exact ⟨j, r, hj, rfl⟩
def zt_J0_coder_7d493 : ab_T := zt_tx 60 (fun _ r => match r with
  | [] => some (True, some (.int 0))
  | _ => none)
def zt_J0_isLatin1_aae02 : ab_T := zt_tx 60 (fun _ r => match r with
  | [] => some (True, some (.int 1))
  | _ => none)
def zt_J0_length_8abf5 : ab_T := zt_tx 60 (fun j r => match r with
  | [] => some (True, some (.int (Int32.ofNat (zs_ln j))))
  | _ => none)
def zt_J0_charAt_5068e : ab_T := zt_tx 60 (fun j r => match r with
  | [.int k] => some (vp_in k (zs_ln j), some (.int (zs_ch j k.toNatClampNeg)))
  | _ => none)
def zt_J1_charAt_3b067 : ab_T := zt_tx 62 (fun j r => match r with
  | [.int k] => some (vp_in k (zs_ln j), some (.int (zs_ch j k.toNatClampNeg)))
  | _ => none)
def zt_J0_checkIndex_df160 : ab_T := fun as M N k => match as with
  | [.int i, .int n] => (0 ≤ i ∧ i < n) ∧ k none M N
  | _ => False
theorem zt_J0_checkIndex_df160_mono : ab_mono zt_J0_checkIndex_df160 := fun as M N k k2 hk h => by
  unfold zt_J0_checkIndex_df160 at h ⊢
  split at h
  · exact ⟨h.1, hk _ _ _ h.2⟩
  · exact h
theorem zt_J0_length_8abf5_mono : ab_mono zt_J0_length_8abf5 := zt_tx_mono _ _
theorem zt_J0_charAt_5068e_mono : ab_mono zt_J0_charAt_5068e := zt_tx_mono _ _
theorem zV_J0_length_8abf5 : ab_recT zt_J0_length_8abf5 := zt_tx_r
theorem zV_J0_charAt_5068e : ab_recT zt_J0_charAt_5068e := zt_tx_r
abbrev zR_J0_coder_7d493 : Room := { frames := 0, cells := 0, slots := 0, locals := 0 }
theorem zJ_s {ad : Nat → Nat} {A : Nat → Prop} {s : State} {j : Nat} (hj : j < 2) (hZ : zZ_C ad A s s.heap) : va_OF "java/lang/String" "coder" "B" (.int 0) (ad (60 + j)) A s s.heap ∧ va_OF "java/lang/String" "value" "[B" (.ref (ad (62 + j))) (ad (60 + j)) A s s.heap ∧ va_T .byte (ad (62 + j)) (zs_ln j) (fun i => .int (zs_ch j i)) A s s.heap := (hZ.2.2.2.1.1 j hj).2
set_option maxHeartbeats 4000000 in
theorem zM_J0_coder_7d493 (l : Launch) : ab_Met l zw_C vwCl zZ_C yJ0_coder_7d493 cJ0_coder_7d493 1 (some .byte) zR_J0_coder_7d493 zt_J0_coder_7d493 := by
  refine ab_ofW rfl ?_
  intro p e s m args below meth c D cy ad as M N k hT
  obtain ⟨j, r, P, v, hj, rfl, e1, -, hk⟩ := zt_tx_e hT
  match r, e1 with
  | [], e1 =>
    cases e1
    refine ⟨Nat.le_of_ble_eq_true rfl, fun lsC hE hZ hl hP => ?_⟩
    obtain ⟨⟨hx, hb, hml, hown, hts⟩, hr, hlocks, -⟩ := hE
    obtain ⟨g1, g2, g3⟩ := zJ_s hj hZ
    have hS0 : va_S (ab_A zw_C ad s.heap.size) s.heap s.heap [] := va_S.rf
    refine va_gets (index := 38) hx hb hZ.2.2.2.2.2.2.1 va_S.rf hown (hts _ (ab_in 389 (by decide +kernel) rfl)) (fun _ h => h) (by decide +kernel) ?_
    refine lv_if_eq hx hb (off := 10) (tgt := 13) (by decide +kernel) rfl (fun z => absurd z (by decide)) (fun _ => ?_)
    refine lv_aload_n (k := 0) hx hb (by decide +kernel) rfl (lv_at hl 0 rfl) ?_
    refine vk_getf (index := 15) hx hb g1 va_S.rf hown (hts _ (ab_in 1542 (by decide +kernel) rfl)) (fun _ h => h) (by decide +kernel) ?_
    refine lv_goto hx hb (off := 4) (tgt := 14) (by decide +kernel) rfl ?_
    exact W.zret hx hb hr rfl (fun t ht hW => ⟨⟨some (.int 0), M, N, rfl, hk, by rw [ht]; exact hP⟩, hS0.F ht⟩) hS0.2.2 (by decide +kernel) hlocks
abbrev zR_J0_isLatin1_aae02 : Room := { frames := 0, cells := 0, slots := 0, locals := 0 }
set_option maxHeartbeats 4000000 in
theorem zM_J0_isLatin1_aae02 (l : Launch) : ab_Met l zw_C vwCl zZ_C yJ0_isLatin1_aae02 cJ0_isLatin1_aae02 1 (some .boolean) zR_J0_isLatin1_aae02 zt_J0_isLatin1_aae02 := by
  refine ab_ofW rfl ?_
  intro p e s m args below meth c D cy ad as M N k hT
  obtain ⟨j, r, P, v, hj, rfl, e1, -, hk⟩ := zt_tx_e hT
  match r, e1 with
  | [], e1 =>
    cases e1
    refine ⟨Nat.le_of_ble_eq_true rfl, fun lsC hE hZ hl hP => ?_⟩
    obtain ⟨⟨hx, hb, hml, hown, hts⟩, hr, hlocks, -⟩ := hE
    obtain ⟨g1, g2, g3⟩ := zJ_s hj hZ
    have hS0 : va_S (ab_A zw_C ad s.heap.size) s.heap s.heap [] := va_S.rf
    refine va_gets (index := 38) hx hb hZ.2.2.2.2.2.2.1 va_S.rf hown (hts _ (ab_in 389 (by decide +kernel) rfl)) (fun _ h => h) (by decide +kernel) ?_
    refine lv_if_eq hx hb (off := 14) (tgt := 17) (by decide +kernel) rfl (fun z => absurd z (by decide)) (fun _ => ?_)
    refine lv_aload_n (k := 0) hx hb (by decide +kernel) rfl (lv_at hl 0 rfl) ?_
    refine vk_getf (index := 15) hx hb g1 va_S.rf hown (hts _ (ab_in 1542 (by decide +kernel) rfl)) (fun _ h => h) (by decide +kernel) ?_
    refine lv_if_ne hx hb (off := 7) (tgt := 17) (by decide +kernel) rfl (fun z => absurd rfl z) (fun _ => ?_)
    refine lv_iconst hx hb (n := 1) (v := 1) (by decide +kernel) rfl ?_
    refine lv_goto hx hb (off := 4) (tgt := 18) (by decide +kernel) rfl ?_
    exact W.zret hx hb hr rfl (fun t ht hW => ⟨⟨some (.int 1), M, N, rfl, hk, by rw [ht]; exact hP⟩, hS0.F ht⟩) hS0.2.2 (by decide +kernel) hlocks
abbrev zR_J0_length_8abf5 : Room := { frames := 1, cells := 0, slots := 0, locals := 20 }
set_option maxHeartbeats 4000000 in
theorem zM_J0_length_8abf5 (l : Launch) : ab_Met l zw_C vwCl zZ_C yJ0_length_8abf5 cJ0_length_8abf5 1 (some .int) zR_J0_length_8abf5 zt_J0_length_8abf5 := by
  refine ab_ofW rfl ?_
  intro p e s m args below meth c D cy ad as M N k hT
  obtain ⟨j, r, P, v, hj, rfl, e1, -, hk⟩ := zt_tx_e hT
  match r, e1 with
  | [], e1 =>
    cases e1
    refine ⟨Nat.le_of_ble_eq_true rfl, fun lsC hE hZ hl hP => ?_⟩
    obtain ⟨⟨hx, hb, hml, hown, hts⟩, hr, hlocks, -⟩ := id hE
    obtain ⟨g1, g2, g3⟩ := zJ_s hj hZ
    have hS0 : va_S (ab_A zw_C ad s.heap.size) s.heap s.heap [] := va_S.rf
    refine lv_aload_n (k := 0) hx hb (by decide +kernel) rfl (lv_at hl 0 rfl) ?_
    refine vk_getf (index := 9) hx hb g2 va_S.rf hown (hts _ (ab_in 1541 (by decide +kernel) rfl)) (fun _ h => h) (by decide +kernel) ?_
    refine va_tlen hx hb g3 va_S.rf rfl (by decide +kernel) ?_
    refine lv_aload_n (k := 0) hx hb (by decide +kernel) rfl (lv_at hl 0 rfl) ?_
    have hc : ab_Call l RJ0 zR_J0_length_8abf5 zw_C vwCl zZ_C .invokevirtual 335 1 zt_J0_coder_7d493 := ab_callT (zM_J0_coder_7d493 l) rfl (ab_in 388 (by decide +kernel) rfl) (ab_in 385 (by decide +kernel) rfl) (ab_in 386 (by decide +kernel) rfl) (ab_in 387 (by decide +kernel) rfl) (ab_in 13 (by decide +kernel) rfl) (by unfold ab_yok; decide +kernel) ⟨rfl, rfl⟩ (by decide) zt_tx_r
    refine hc p e s m args below meth c _ 1 _ D cy ad _ hE hZ 6 s.heap [] lsC [.ref (60 + j)] [.int (Int32.ofNat (zs_ln j))] M N (fun r M2 N2 => r = some (.int 0) ∧ M2 = M ∧ N2 = N) (by decide +kernel) rfl (Nat.le_of_ble_eq_true rfl) hl.1 hP va_S.rf ?_ ?_
    · exact zt_tx_i hj rfl trivial ⟨rfl, rfl, rfl⟩
    · rintro r M2 N2 H2 locs2 ⟨rfl, rfl, rfl⟩ hP2 hS2
      refine lv_ishr hx hb (by decide +kernel) ?_
      have es : ∀ x : Int32, x >>> ((0 : Int32) &&& 31) = x := fun x => by rw [show ((0 : Int32) &&& 31) = 0 from by decide]; exact Int32.shiftRight_zero
      rw [es]
      exact W.iret hx hb hr (fun t ht hW => ⟨⟨some (.int _), M2, N2, rfl, hk, by rw [ht]; exact hP2⟩, hS2.F ht⟩) hS2.2.2 (by decide +kernel) hlocks
/-- an index is looked at -/
theorem zJ3 (l : Launch) {Λ : List ab_L} {cl : List vw_C} {D : va_G} {cy : FieldType → ClassId} {ad : Nat → Nat} {sz : Nat} {M : ab_M} {N : ab_N} {i n : Int32} {v : Value} (h0 : 0 ≤ i) (h1 : i < n) (hv : v = .null ∨ ∃ t, v = .ref t) : Met l yJ3_checkIndex_8e157 (Cond.code yJ3_checkIndex_8e157 cJ3_checkIndex_8e157 3 (some .int) :: ab_B) { frames := 0, cells := 0, slots := 0, locals := 0 } (va_Pc [.int i, .int n, v] (fun U => U.heap.size = sz ∧ va_P D cl (ab_w Λ ad cy M N) U.heap)) (ab_Fin cl Λ D cy ad (ab_A Λ ad sz) (fun r M2 N2 => r = some (.int i) ∧ M2 = M ∧ N2 = N)) 0 0 (ab_A Λ ad sz) := by
  refine Met.ofW (cc := cJ3_checkIndex_8e157) (maxL := 3) (ret := some .int) rfl rfl ?_
  intro p e s m args below meth c s₁ B hml hv2
  obtain ⟨rfl, hsz, hP⟩ := hv2
  have hlocks := B.notSynchronized
  subst hsz
  have hx := B.exec
  have hb := B.bytes
  have hr := B.returns
  have hS0 : va_S (ab_A Λ ad s.heap.size) s.heap s.heap [] := va_S.rf
  have hl := lv_entry [.int i, .int n, v] (n := 3) (by rcases hv with rfl | ⟨t, rfl⟩ <;> exact Nat.le_of_ble_eq_true rfl)
  rw [lg_entry_eq]
  generalize (lg_sl [Value.int i, Value.int n, v] ++ List.replicate (3 - (lg_sl [Value.int i, Value.int n, v]).length) Slot.unset).toArray = lsC at hl ⊢
  refine lv_iload_n (k := 0) hx hb (by decide +kernel) rfl (lv_at hl 0 rfl) ?_
  refine lv_if_lt hx hb (off := 8) (tgt := 9) (by decide +kernel) rfl (fun z => absurd z (Int32.not_lt.mpr h0)) (fun _ => ?_)
  refine lv_iload_n (k := 0) hx hb (by decide +kernel) rfl (lv_at hl 0 rfl) ?_
  refine lv_iload_n (k := 1) hx hb (by decide +kernel) rfl (lv_at hl 1 rfl) ?_
  refine lv_icmp_lt hx hb (off := 10) (tgt := 16) (by decide +kernel) rfl (fun _ => ?_) (fun z => absurd h1 z)
  refine lv_iload_n (k := 0) hx hb (by decide +kernel) rfl (lv_at hl 0 rfl) ?_
  exact W.iret hx hb hr (fun t ht hW => ⟨⟨some (.int _), M, N, rfl, ⟨rfl, rfl, rfl⟩, by rw [ht]; exact hP⟩, hS0.F ht⟩) hS0.2.2 (by decide +kernel) hlocks
abbrev zR_J0_checkIndex_df160 : Room := { frames := 1, cells := 0, slots := 0, locals := 22 }
set_option maxHeartbeats 4000000 in
theorem zM_J0_checkIndex_df160 (l : Launch) : ab_Met l zw_C vwCl zZ_C yJ0_checkIndex_df160 cJ0_checkIndex_df160 2 none zR_J0_checkIndex_df160 zt_J0_checkIndex_df160 := by
  refine ab_ofW rfl ?_
  intro p e s m args below meth c D cy ad as M N k hT
  unfold zt_J0_checkIndex_df160 at hT
  split at hT
  case h_2 => exact hT.elim
  rename_i i n
  obtain ⟨⟨h0, h1⟩, hk⟩ := hT
  refine ⟨Nat.le_of_ble_eq_true rfl, fun lsC hE hZ hl hP => ?_⟩
  obtain ⟨⟨hx, hb, hml, hown, hts⟩, hr, hlocks, -⟩ := id hE
  refine lv_iload_n (k := 0) hx hb (by decide +kernel) rfl (lv_at hl 0 rfl) ?_
  refine lv_iload_n (k := 1) hx hb (by decide +kernel) rfl (lv_at hl 1 rfl) ?_
  have go : ∀ v : Value, (v = .null ∨ ∃ t, v = .ref t) → W p l e zR_J0_checkIndex_df160 s m args below meth c s.heap [] 0 0 (MQ below (ab_Fin vwCl zw_C D cy ad (ab_A zw_C ad s.heap.size) k) args s 0 0 (ab_A zw_C ad s.heap.size)) (F0 m 5 lsC [v, .int n, .int i]) := by
    intro v hv
    have cw : CallB zR_J0_checkIndex_df160 s args RJ0 1059 yJ3_checkIndex_8e157 cJ3_checkIndex_8e157 3 (some .int) (Cond.code yJ3_checkIndex_8e157 cJ3_checkIndex_8e157 3 (some .int) :: ab_B) { frames := 0, cells := 0, slots := 0, locals := 0 } 0 0 3 := callB_of 3 hts (ab_goodC (ab_in 409 (by decide +kernel) rfl)) rfl rfl rfl (hts _ (ab_in 15 (by decide +kernel) rfl)) (hts _ (ab_in 407 (by decide +kernel) rfl)) (by decide +kernel) (by decide)
    have hrun := va_runS (p := p) (e := e) (R := zR_J0_checkIndex_df160) (m := m) (args := args) (below := below) (meth := meth) (c := c) (locs := []) (cells := 0) (slots := 0) (H := s.heap) (As := [.int i, .int n, v]) (rest := []) (g := F0 m 5 lsC [v, .int n, .int i]) ⟨hx, hb, hml, hown, hts⟩ (zJ3 l (Λ := zw_C) (cl := vwCl) (D := D) (cy := cy) (ad := ad) (sz := s.heap.size) (M := M) (N := N) h0 h1 hv) ⟨cw, hts _ (ab_in 408 (by decide +kernel) rfl)⟩
      ⟨fun a U g mk q => by obtain ⟨q0, q1, qP⟩ := q; exact ⟨q0, q1, qP⟩, fun U hU hW => ⟨rfl, by rw [hU], by rw [hU]; exact hP⟩⟩ rfl rfl hl.1 rfl (Nat.le_of_ble_eq_true rfl) (show decode cJ0_checkIndex_df160 5 = .ok (.invokestatic 1059, 3) by decide +kernel) ⟨Nat.zero_le _, Nat.zero_le _⟩
    refine ab_goes hrun va_S.rf ?_
    rintro r M2 N2 H2 locs2 ⟨rfl, rfl, rfl⟩ hP2 hS2
    refine lv_pop hx hb (by decide +kernel) rfl ?_
    exact W.vret hx hb hr (fun t ht hW => ⟨⟨none, M2, N2, rfl, hk, by rw [ht]; exact hP2⟩, hS2.F ht⟩) hS2.2.2 (by decide +kernel) hlocks
  rcases hZ.2.2.2.2.2.2.2.1 with z | ⟨t, z⟩
  · exact va_gets (index := 1053) hx hb z va_S.rf hown (hts _ (ab_in 405 (by decide +kernel) rfl)) (fun _ h => h) (by decide +kernel) (go _ (Or.inl rfl))
  · exact va_gets (index := 1053) hx hb z va_S.rf hown (hts _ (ab_in 405 (by decide +kernel) rfl)) (fun _ h => h) (by decide +kernel) (go _ (Or.inr ⟨t, rfl⟩))
theorem zs_lnI : ∀ j, j < 2 → (Int32.ofNat (zs_ln j)).toInt = zs_ln j := by decide +kernel
theorem zs_chok : ∀ j, j < 2 → ∀ i, i < zs_ln j → ((zs_ch j i &&& 255).toUInt32 % 65536).toInt32 = zs_ch j i ∧ (zs_ch j i).toUInt32.toUInt16.toUInt32.toInt32 = zs_ch j i := by decide +kernel
abbrev zR_J1_charAt_3b067 : Room := { frames := 2, cells := 0, slots := 0, locals := 43 }
set_option maxHeartbeats 4000000 in
theorem zM_J1_charAt_3b067 (l : Launch) : ab_Met l zw_C vwCl zZ_C yJ1_charAt_3b067 cJ1_charAt_3b067 2 (some .char) zR_J1_charAt_3b067 zt_J1_charAt_3b067 := by
  refine ab_ofW rfl ?_
  intro p e s m args below meth c D cy ad as M N k hT
  obtain ⟨j, r, P, v, hj, rfl, e1, hP0, hk⟩ := zt_tx_e hT
  match r, e1 with
  | [.int i], e1 =>
    cases e1
    refine ⟨Nat.le_of_ble_eq_true rfl, fun lsC hE hZ hl hP => ?_⟩
    obtain ⟨⟨hx, hb, hml, hown, hts⟩, hr, hlocks, -⟩ := id hE
    obtain ⟨g1, g2, g3⟩ := zJ_s hj hZ
    have hS0 : va_S (ab_A zw_C ad s.heap.size) s.heap s.heap [] := va_S.rf
    refine lv_iload_n (k := 1) hx hb (by decide +kernel) rfl (lv_at hl 1 rfl) ?_
    refine lv_aload_n (k := 0) hx hb (by decide +kernel) rfl (lv_at hl 0 rfl) ?_
    refine va_tlen hx hb g3 va_S.rf rfl (by decide +kernel) ?_
    have hc : ab_Call l RJ1 zR_J1_charAt_3b067 zw_C vwCl zZ_C .invokestatic 9 2 zt_J0_checkIndex_df160 := ab_callS zZ_C_ok (zM_J0_checkIndex_df160 l) (ab_in 404 (by decide +kernel) rfl) (ab_in 402 (by decide +kernel) rfl) (ab_in 403 (by decide +kernel) rfl) (ab_in 13 (by decide +kernel) rfl) (by unfold ab_yok; decide +kernel) ⟨rfl, rfl⟩ (by decide)
    obtain ⟨q1, q2⟩ := vp_in_iff.mp hP0
    have hln : (Int32.ofNat (zs_ln j)).toInt = zs_ln j := zs_lnI j hj
    refine hc p e s m args below meth c _ 2 _ D cy ad _ hE hZ 3 s.heap [] lsC [.int i, .int (Int32.ofNat (zs_ln j))] [] M N (fun r M2 N2 => r = none ∧ M2 = M ∧ N2 = N) (by decide +kernel) rfl (by decide) hl.1 hP va_S.rf ⟨⟨?_, ?_⟩, rfl, rfl, rfl⟩ ?_
    · exact Int32.le_iff_toInt_le.mpr q1
    · exact Int32.lt_iff_toInt_lt.mpr (by rw [hln]; exact q2)
    · rintro r M2 N2 H2 locs2 ⟨rfl, rfl, rfl⟩ hP2 hS2
      refine lv_aload_n (k := 0) hx hb (by decide +kernel) rfl (lv_at hl 0 rfl) ?_
      refine lv_iload_n (k := 1) hx hb (by decide +kernel) rfl (lv_at hl 1 rfl) ?_
      refine va_tb hx hb g3 hS2 hP0 rfl (by decide +kernel) ?_
      refine lv_sipush hx hb (n := 255) (v := 255) (by decide +kernel) rfl ?_
      refine lv_iand hx hb (by decide +kernel) ?_
      obtain ⟨w1, w2⟩ := zs_chok j hj i.toNatClampNeg (Nat.not_le.mp fun q => hP0 (Or.inr q))
      refine lv_i2c hx hb (by decide +kernel) w1 ?_
      exact W.zret hx hb hr (show Value.int _ = Value.int _ by rw [w2]) (fun t ht hW => ⟨⟨some (.int _), M2, N2, rfl, hk, by rw [ht]; exact hP2⟩, hS2.F ht⟩) hS2.2.2 (by decide +kernel) hlocks
abbrev zR_J0_charAt_5068e : Room := { frames := 3, cells := 0, slots := 0, locals := 64 }
set_option maxHeartbeats 4000000 in
theorem zM_J0_charAt_5068e (l : Launch) : ab_Met l zw_C vwCl zZ_C yJ0_charAt_5068e cJ0_charAt_5068e 2 (some .char) zR_J0_charAt_5068e zt_J0_charAt_5068e := by
  refine ab_ofW rfl ?_
  intro p e s m args below meth c D cy ad as M N k hT
  obtain ⟨j, r, P, v, hj, rfl, e1, hP0, hk⟩ := zt_tx_e hT
  match r, e1 with
  | [.int i], e1 =>
    cases e1
    refine ⟨Nat.le_of_ble_eq_true rfl, fun lsC hE hZ hl hP => ?_⟩
    obtain ⟨⟨hx, hb, hml, hown, hts⟩, hr, hlocks, -⟩ := id hE
    obtain ⟨g1, g2, g3⟩ := zJ_s hj hZ
    have hS0 : va_S (ab_A zw_C ad s.heap.size) s.heap s.heap [] := va_S.rf
    refine lv_aload_n (k := 0) hx hb (by decide +kernel) rfl (lv_at hl 0 rfl) ?_
    have hc : ab_Call l RJ0 zR_J0_charAt_5068e zw_C vwCl zZ_C .invokevirtual 492 1 zt_J0_isLatin1_aae02 := ab_callT (zM_J0_isLatin1_aae02 l) rfl (ab_in 398 (by decide +kernel) rfl) (ab_in 395 (by decide +kernel) rfl) (ab_in 396 (by decide +kernel) rfl) (ab_in 397 (by decide +kernel) rfl) (ab_in 13 (by decide +kernel) rfl) (by unfold ab_yok; decide +kernel) ⟨rfl, rfl⟩ (by decide) zt_tx_r
    refine hc p e s m args below meth c _ 2 _ D cy ad _ hE hZ 1 s.heap [] lsC [.ref (60 + j)] [] M N (fun r M2 N2 => r = some (.int 1) ∧ M2 = M ∧ N2 = N) (by decide +kernel) rfl (Nat.le_of_ble_eq_true rfl) hl.1 hP va_S.rf ?_ ?_
    · exact zt_tx_i hj rfl trivial ⟨rfl, rfl, rfl⟩
    · rintro r M2 N2 H2 locs2 ⟨rfl, rfl, rfl⟩ hP2 hS2
      refine lv_if_eq hx hb (off := 12) (tgt := 16) (by decide +kernel) rfl (fun z => absurd z (by decide)) (fun _ => ?_)
      refine lv_aload_n (k := 0) hx hb (by decide +kernel) rfl (lv_at hl 0 rfl) ?_
      refine vk_getf (index := 9) hx hb g2 hS2 hown (hts _ (ab_in 1541 (by decide +kernel) rfl)) (fun _ h => h) (by decide +kernel) ?_
      refine lv_iload_n (k := 1) hx hb (by decide +kernel) rfl (lv_at hl 1 rfl) ?_
      have hc2 : ab_Call l RJ0 zR_J0_charAt_5068e zw_C vwCl zZ_C .invokestatic 495 2 zt_J1_charAt_3b067 := ab_callS zZ_C_ok (zM_J1_charAt_3b067 l) (ab_in 401 (by decide +kernel) rfl) (ab_in 399 (by decide +kernel) rfl) (ab_in 400 (by decide +kernel) rfl) (ab_in 14 (by decide +kernel) rfl) (by unfold ab_yok; decide +kernel) ⟨rfl, rfl⟩ (by decide)
      refine hc2 p e s m args below meth c _ 2 _ D cy ad _ hE hZ 12 H2 locs2 lsC [.ref (62 + j), .int i] [] M2 N2 (fun r M3 N3 => r = some (.int (zs_ch j i.toNatClampNeg)) ∧ M3 = M2 ∧ N3 = N2) (by decide +kernel) rfl (by decide) hl.1 hP2 hS2 ?_ ?_
      · exact zt_tx_i hj rfl hP0 ⟨rfl, rfl, rfl⟩
      · rintro r M3 N3 H3 locs3 ⟨rfl, rfl, rfl⟩ hP3 hS3
        obtain ⟨w1, w2⟩ := zs_chok j hj i.toNatClampNeg (Nat.not_le.mp fun q => hP0 (Or.inr q))
        exact W.zret hx hb hr (show Value.int _ = Value.int _ by rw [w2]) (fun t ht hW => ⟨⟨some (.int _), M3, N3, rfl, hk, by rw [ht]; exact hP3⟩, hS3.F ht⟩) hS3.2.2 (by decide +kernel) hlocks
end
section
/-! the tokens of the tape *)
-/
def zRun (p : Int32 → Bool) (B : Nat → Int32) : Nat → Nat → Nat
  | 0, i => i
  | f + 1, i => if p (B i) = true then zRun p B f (i + 1) else i
theorem zRun_ge (p : Int32 → Bool) (B : Nat → Int32) : ∀ f i, i ≤ zRun p B f i
  | 0, i => Nat.le_refl _
  | f + 1, i => by
    unfold zRun
    split
    · exact Nat.le_trans (Nat.le_succ i) (zRun_ge p B f (i + 1))
    · exact Nat.le_refl _
theorem zRun_le (p : Int32 → Bool) (B : Nat → Int32) : ∀ f i, zRun p B f i ≤ i + f
  | 0, i => Nat.le_refl _
  | f + 1, i => by
    unfold zRun
    split
    · have := zRun_le p B f (i + 1); omega
    · omega
theorem zRun_go {p : Int32 → Bool} {B : Nat → Int32} {n i : Nat} (h : i < n) (hp : p (B i) = true) : zRun p B (n - i) i = zRun p B (n - (i + 1)) (i + 1) := by
  obtain ⟨d, rfl⟩ : ∃ d, n = i + 1 + d := ⟨n - (i + 1), by omega⟩
  rw [show i + 1 + d - i = d + 1 by omega, show i + 1 + d - (i + 1) = d by omega]
  show (if p (B i) = true then _ else _) = _
  rw [if_pos hp]
theorem zRun_st {p : Int32 → Bool} {B : Nat → Int32} {n i : Nat} (h : ¬ (i < n ∧ p (B i) = true)) : zRun p B (n - i) i = i := by
  by_cases hi : i < n
  · obtain ⟨d, rfl⟩ : ∃ d, n = i + 1 + d := ⟨n - (i + 1), by omega⟩
    rw [show i + 1 + d - i = d + 1 by omega]
    show (if p (B i) = true then _ else _) = _
    rw [if_neg (fun z => h ⟨hi, z⟩)]
  · rw [show n - i = 0 by omega]
    rfl
theorem zRun_lt {p : Int32 → Bool} {B : Nat → Int32} {n i : Nat} (hi : i ≤ n) : zRun p B (n - i) i ≤ n := by
  have := zRun_le p B (n - i) i
  omega
def zbS (b : Int32) : Bool := decide (b = 32 ∨ b = 10)
def zbL (b : Int32) : Bool := decide (97 ≤ b ∧ b ≤ 122)
def zbD (b : Int32) : Bool := decide (48 ≤ b ∧ b ≤ 57)
def zNumF (B : Nat → Int32) : Nat → Nat → Int32 → Int32
  | 0, _, a => a
  | f + 1, i, a => zNumF B f (i + 1) (a * 10 + B i - 48)
def zWt (B : Nat → Int32) (pl bh : Nat) : List Int32 → Int32 → Nat → Bool → Int32
  | [], _, _, _ => -2
  | c :: r, w, i, sm => if c = 32 then (if sm = true ∧ i = bh then w else zWt B pl bh r (w + 1) pl true) else zWt B pl bh r w (i + 1) (sm && decide (i < bh) && decide (B i = c))
def zs_W : List Int32 := zs_byt.getD 1 []
def zWd (B : Nat → Int32) (pl bh : Nat) : Int32 := zWt B pl bh zs_W 1 pl true
abbrev zTkT : Type := Int32 × Int32 × Nat × Nat
/-- the token from i on: what it is, its number, where it begins, what stands behind it -/
def zTk (B : Nat → Int32) (n i : Nat) : zTkT :=
  let pl := zRun zbS B (n - i) i
  let el := zRun zbL B (n - (pl + 1)) (pl + 1)
  let ed := zRun zbD B (n - (pl + 1)) (pl + 1)
  if n ≤ pl then (-1, 0, pl, pl + 1)
  else if zbL (B pl) = true then (zWd B pl el, 0, pl, el)
  else if zbD (B pl) = true then (if 4 < ed - pl then -2 else 0, zNumF B (ed - (pl + 1)) (pl + 1) (B pl - 48), pl, ed)
  else (if zSign (B pl) then B pl else -2, 0, pl, pl + 1)
theorem zAt_in (g : Nat → Int32) {n i : Nat} (hi : i < n) (hn : n ≤ 160) : (if 0 ≤ nI i ∧ nI i < nI n ∧ nI i < (160 : Int32) then g (nI i).toNatClampNeg else (-1 : Int32)) = g i := by
  rw [if_pos ⟨nI_pos' (by omega), nI_lt hi (by omega), nI_lt (a := i) (b := 160) (by omega) (by omega)⟩, nI_clamp (by omega)]
theorem zAt_out (g : Nat → Int32) {n i : Nat} (hi : n ≤ i) (h : i < 2 ^ 31) : (if 0 ≤ nI i ∧ nI i < nI n ∧ nI i < (160 : Int32) then g (nI i).toNatClampNeg else (-1 : Int32)) = -1 := by
  rw [if_neg (fun z => nI_nlt hi h z.2.1)]
theorem zbL_b {b : Int32} : ab_b (97 ≤ b ∧ b ≤ 122) = 0 ↔ ¬ zbL b = true := by
  rw [ab_b_0]; unfold zbL; simp only [decide_eq_true_eq]
theorem zbD_b {b : Int32} : ab_b (48 ≤ b ∧ b ≤ 57) = 0 ↔ ¬ zbD b = true := by
  rw [ab_b_0]; unfold zbD; simp only [decide_eq_true_eq]
theorem zbS_b {b : Int32} : zbS b = true ↔ b = 32 ∨ b = 10 := by
  unfold zbS; simp only [decide_eq_true_eq]
theorem zs_Wd : ∀ k, k < 57 → zs_W.drop k = zs_ch 1 k :: zs_W.drop (k + 1) := by decide +kernel
/-- a word -/
def zt_X8_wordToken : ab_T := ab_m0 4 (fun M _ => ∃ n pl bh : Nat, n ≤ 160 ∧ pl ≤ bh ∧ bh ≤ n ∧ M 4 2 = nI n ∧ M 4 5 = nI pl ∧ M 4 6 = nI bh) (fun M N o M2 N2 => M2 = M ∧ N2 = N ∧ o = some (.int (zWd (M 34) (M 4 5).toNatClampNeg (M 4 6).toNatClampNeg)))
theorem zt_X8_wordToken_mono : ab_mono zt_X8_wordToken := ab_m0_mono _ _ _
theorem zV_X8_wordToken : ab_recv zw_C vwCl RX8 zt_X8_wordToken := ab_m0_v rfl rfl
def zp_X8_wordToken : ab_P := [(0, .iconst 1, 1, [], [1]),
  (1, .istore_n 1, 2, [1], []),
  (2, .aload_n 0, 3, [0], []),
  (3, .getfield 40, 6, [], []),
  (6, .istore_n 2, 7, [2], []),
  (7, .iconst 1, 8, [], [1]),
  (8, .istore_n 3, 9, [3], []),
  (9, .iconst 0, 10, [], [0]),
  (10, .istore 4, 12, [], []),
  (12, .iload 4, 14, [], []),
  (14, .ldc 98, 16, [], []),
  (16, .invokevirtual 100, 19, [], []),
  (19, .if_icmp .ge 84, 22, [103], []),
  (22, .ldc 98, 24, [], []),
  (24, .iload 4, 26, [], []),
  (26, .invokevirtual 105, 29, [], []),
  (29, .bipush 32, 31, [], [32]),
  (31, .if_icmp .eq 42, 34, [73], []),
  (34, .iload_n 3, 35, [3], []),
  (35, .ifCond .eq 30, 38, [65], []),
  (38, .iload_n 2, 39, [2], []),
  (39, .aload_n 0, 40, [0], []),
  (40, .getfield 28, 43, [], []),
  (43, .if_icmp .ge 22, 46, [65], []),
  (46, .aload_n 0, 47, [0], []),
  (47, .iload_n 2, 48, [2], []),
  (48, .invokevirtual 78, 51, [], []),
  (51, .ldc 98, 53, [], []),
  (53, .iload 4, 55, [], []),
  (55, .invokevirtual 105, 58, [], []),
  (58, .if_icmp .ne 7, 61, [65], []),
  (61, .iconst 1, 62, [], [1]),
  (62, .goto 4, 65, [66], []),
  (65, .iconst 0, 66, [], [0]),
  (66, .istore_n 3, 67, [3], []),
  (67, .iinc 2 1, 70, [], [1]),
  (70, .goto 27, 73, [97], []),
  (73, .iload_n 3, 74, [3], []),
  (74, .ifCond .eq 13, 77, [87], []),
  (77, .iload_n 2, 78, [2], []),
  (78, .aload_n 0, 79, [0], []),
  (79, .getfield 28, 82, [], []),
  (82, .if_icmp .ne 5, 85, [87], []),
  (85, .iload_n 1, 86, [1], []),
  (86, .ireturn, 87, [], []),
  (87, .iinc 1 1, 90, [], [1]),
  (90, .aload_n 0, 91, [0], []),
  (91, .getfield 40, 94, [], []),
  (94, .istore_n 2, 95, [2], []),
  (95, .iconst 1, 96, [], [1]),
  (96, .istore_n 3, 97, [3], []),
  (97, .iinc 4 1, 100, [], [1]),
  (100, .goto (-88), 103, [12], []),
  (103, .bipush (-2), 105, [], [(-2)]),
  (105, .ireturn, 106, [], [])]
theorem zo_X8_wordToken : ab_ok cX8_wordToken zp_X8_wordToken = true := by decide +kernel
def zg_X8_wordToken : ab_G := (zw_C, zs_tab, zf_X8, zc_X8, [], [(78, 2, zt_X8_at), (100, 1, zt_J0_length_8abf5), (105, 2, zt_J0_charAt_5068e)], [])
theorem zm_X8_wordToken : ab_MG zg_X8_wordToken := ab_MGof (List.forall_mem_cons.mpr ⟨ab_pure_mono _, List.forall_mem_cons.mpr ⟨zt_J0_length_8abf5_mono, List.forall_mem_cons.mpr ⟨zt_J0_charAt_5068e_mono, List.forall_mem_nil _⟩⟩⟩) (List.forall_mem_nil _)
abbrev zr_X8_wordToken (Q : ab_R) : ab_K := ab_Run zg_X8_wordToken zp_X8_wordToken (some .int) 5 Q
set_option maxRecDepth 20000 in
theorem zv_X8_wordToken_0 {Q : ab_R} {M : ab_M} {N : ab_N}  (h : zr_X8_wordToken Q 12 [some (.ref 4), some (.int (1 : Int32)), some (.int (M 4 5)), some (.int (1 : Int32)), some (.int (0 : Int32))] [] M N) : zr_X8_wordToken Q 0 [some (.ref 4)] [] M N := ab_Run_s zm_X8_wordToken (sp := [(12, [true, true, true, true, true])]) 57 h
set_option maxRecDepth 20000 in
theorem zv_X8_wordToken_12 {Q : ab_R} {M : ab_M} {N : ab_N} (l1 : Int32) (l2 : Int32) (l3 : Int32) (l4 : Int32) (h : (True) ∧ (((Int32.ofNat 57) ≤ l4 → Q (some (.int (-2 : Int32))) M N) ∧ (¬ ((Int32.ofNat 57) ≤ l4) → (vp_in l4 57) ∧ (((zs_ch 1 l4.toNatClampNeg) = (32 : Int32) → (l3 = 0 → zr_X8_wordToken Q 12 [some (.ref 4), some (.int (l1 + (1 : Int32))), some (.int (M 4 5)), some (.int (1 : Int32)), some (.int (l4 + (1 : Int32)))] [] M N) ∧ (¬ (l3 = 0) → (l2 = (M 4 6) → Q (some (.int l1)) M N) ∧ (¬ (l2 = (M 4 6)) → zr_X8_wordToken Q 12 [some (.ref 4), some (.int (l1 + (1 : Int32))), some (.int (M 4 5)), some (.int (1 : Int32)), some (.int (l4 + (1 : Int32)))] [] M N))) ∧ (¬ ((zs_ch 1 l4.toNatClampNeg) = (32 : Int32)) → (l3 = 0 → zr_X8_wordToken Q 12 [some (.ref 4), some (.int l1), some (.int (l2 + (1 : Int32))), some (.int (0 : Int32)), some (.int (l4 + (1 : Int32)))] [] M N) ∧ (¬ (l3 = 0) → ((M 4 6) ≤ l2 → zr_X8_wordToken Q 12 [some (.ref 4), some (.int l1), some (.int (l2 + (1 : Int32))), some (.int (0 : Int32)), some (.int (l4 + (1 : Int32)))] [] M N) ∧ (¬ ((M 4 6) ≤ l2) → (vp_in l4 57) ∧ (((if 0 ≤ l2 ∧ l2 < (M 4) 2 ∧ l2 < 160 then (M 34) l2.toNatClampNeg else -1) = (zs_ch 1 l4.toNatClampNeg) → zr_X8_wordToken Q 12 [some (.ref 4), some (.int l1), some (.int (l2 + (1 : Int32))), some (.int (1 : Int32)), some (.int (l4 + (1 : Int32)))] [] M N) ∧ (¬ ((if 0 ≤ l2 ∧ l2 < (M 4) 2 ∧ l2 < 160 then (M 34) l2.toNatClampNeg else -1) = (zs_ch 1 l4.toNatClampNeg)) → zr_X8_wordToken Q 12 [some (.ref 4), some (.int l1), some (.int (l2 + (1 : Int32))), some (.int (0 : Int32)), some (.int (l4 + (1 : Int32)))] [] M N))))))))) : zr_X8_wordToken Q 12 [some (.ref 4), some (.int l1), some (.int l2), some (.int l3), some (.int l4)] [] M N := ab_Run_s zm_X8_wordToken (sp := [(12, [true, true, true, true, true])]) 57 h
theorem zL_X8_wordToken {Q : ab_R} {M : ab_M} {N : ab_N} (n pl bh : Nat) (hn : n ≤ 160) (h1 : pl ≤ bh) (h2 : bh ≤ n) (e2 : M 4 2 = nI n) (e5 : M 4 5 = nI pl) (e6 : M 4 6 = nI bh) (hq : Q (some (.int (zWd (M 34) pl bh))) M N) : ∀ (r k i : Nat) (w : Int32) (sm : Bool), k + r = 57 → i ≤ pl + k → zWt (M 34) pl bh (zs_W.drop k) w i sm = zWd (M 34) pl bh → zr_X8_wordToken Q 12 [some (.ref 4), some (.int w), some (.int (nI i)), some (.int (if sm = true then 1 else 0)), some (.int (nI k))] [] M N := by
  intro r
  induction r with
  | zero =>
    intro k i w sm hk hi hE
    have ek : k = 57 := by omega
    subst ek
    have e0 : zs_W.drop 57 = [] := by decide +kernel
    rw [e0] at hE
    refine zv_X8_wordToken_12 _ _ _ _ ⟨trivial, fun _ => ?_, fun c => absurd (show nI 57 ≤ nI 57 from nI_le (by omega) (by omega)) c⟩
    rw [← hE] at hq
    exact hq
  | succ r ih =>
    intro k i w sm hk hi hE
    rw [zs_Wd k (by omega)] at hE
    have nk : ¬ (Int32.ofNat 57) ≤ nI k := show ¬ nI 57 ≤ nI k from nI_ge (by omega) (by omega)
    have ink : vp_in (nI k) 57 := nI_in_ (by omega)
    refine zv_X8_wordToken_12 _ _ _ _ ⟨trivial, fun c => absurd c nk, fun _ => ⟨ink, ?_⟩⟩
    rw [nI_clamp (show k < 2 ^ 31 by omega), e2, e5, e6]
    refine ⟨fun c => ?_, fun c => ?_⟩
    · have hE2 : (if sm = true ∧ i = bh then w else zWt (M 34) pl bh (zs_W.drop (k + 1)) (w + 1) pl true) = zWd (M 34) pl bh := by
        rw [zWt, if_pos c] at hE
        exact hE
      refine ⟨fun c2 => ?_, fun c2 => ⟨fun c3 => ?_, fun c3 => ?_⟩⟩
      · have hs : ¬ sm = true := fun z => by rw [if_pos z] at c2; exact absurd c2 (by decide)
        rw [if_neg (fun z => hs z.1)] at hE2
        rw [nI_1]
        exact ih (k + 1) pl (w + 1) true (by omega) (by omega) hE2
      · have hs : sm = true := Decidable.byContradiction fun z => c2 (by rw [if_neg z])
        have e3 : i = bh := (nI_eq (by omega) (by omega)).mp c3
        rw [if_pos ⟨hs, e3⟩] at hE2
        rw [hE2]
        exact hq
      · rw [if_neg (fun z => c3 (by rw [z.2]))] at hE2
        rw [nI_1]
        exact ih (k + 1) pl (w + 1) true (by omega) (by omega) hE2
    · have hE2 : zWt (M 34) pl bh (zs_W.drop (k + 1)) w (i + 1) (sm && decide (i < bh) && decide (M 34 i = zs_ch 1 k)) = zWd (M 34) pl bh := by
        rw [zWt, if_neg c] at hE
        exact hE
      have fin : ∀ b : Bool, (sm && decide (i < bh) && decide (M 34 i = zs_ch 1 k)) = b → zr_X8_wordToken Q 12 [some (.ref 4), some (.int w), some (.int (nI i + 1)), some (.int (if b = true then 1 else 0)), some (.int (nI k + 1))] [] M N := fun b eb => by
        rw [nI_1, nI_1]
        rw [eb] at hE2
        exact ih (k + 1) (i + 1) w b (by omega) (by omega) hE2
      refine ⟨fun c2 => fin false ?_, fun c2 => ⟨fun c3 => fin false ?_, fun c3 => ⟨ink, ?_⟩⟩⟩
      · have hs : ¬ sm = true := fun z => by rw [if_pos z] at c2; exact absurd c2 (by decide)
        simp [hs]
      · have : ¬ i < bh := fun z => nI_ge z (by omega) c3
        simp [this]
      · have hs : sm = true := Decidable.byContradiction fun z => c2 (by rw [if_neg z])
        have hib : i < bh := Nat.not_le.mp fun z => c3 (nI_le z (by omega))
        rw [zAt_in (M 34) (show i < n by omega) hn]
        exact ⟨fun c4 => fin true (by simp [hs, hib, c4]), fun c4 => fin false (by simp [c4])⟩
theorem zE_X8_wordToken (as : List Value) (M : ab_M) (N : ab_N) (k : ab_R) (hT : zt_X8_wordToken as M N k) : ab_cs as ≤ 5 ∧ zr_X8_wordToken k 0 (ab_en as) [] M N := by
  obtain ⟨rfl, ⟨n, pl, bh, hn, h1, h2, e2, e5, e6⟩, hk⟩ := ab_m0_e hT
  refine ⟨Nat.le_of_ble_eq_true rfl, zv_X8_wordToken_0 ?_⟩
  rw [e5]
  refine zL_X8_wordToken n pl bh hn h1 h2 e2 e5 e6 (hk _ _ _ ⟨rfl, rfl, ?_⟩) 57 0 pl 1 true (by omega) (by omega) rfl
  rw [e5, e6, nI_clamp (by omega), nI_clamp (by omega)]
abbrev zR_X8_wordToken : Room := { frames := 4, cells := 0, slots := 0, locals := 85 }
set_option maxRecDepth 20000 in
theorem zM_X8_wordToken (l : Launch) : ab_Met l zw_C vwCl zZ_C yX8_wordToken cX8_wordToken 5 (some .int) zR_X8_wordToken zt_X8_wordToken := ab_ofRun (G := zg_X8_wordToken) (P := zp_X8_wordToken) rfl zo_X8_wordToken (by decide +kernel) zl_cl zl_lamC zf_X8_ok zs_tabOK zc_X8_ok ab_Sta_nil (List.forall_mem_cons.mpr ⟨ab_callV zZ_C_ok (zM_X8_at l) (ab_in 444 (by decide +kernel) rfl) (ab_in 441 (by decide +kernel) rfl) (ab_in 443 (by decide +kernel) rfl) (ab_inS (List.mem_of_getElem? (i := 1) (by decide +kernel)) rfl) (ab_in 5 (by decide +kernel) rfl) (by unfold ab_yok; decide +kernel) ⟨rfl, rfl⟩ (by decide) zV_X8_at, List.forall_mem_cons.mpr ⟨ab_callT (zM_J0_length_8abf5 l) rfl (ab_in 384 (by decide +kernel) rfl) (ab_in 453 (by decide +kernel) rfl) (ab_in 382 (by decide +kernel) rfl) (ab_in 383 (by decide +kernel) rfl) (ab_in 13 (by decide +kernel) rfl) (by unfold ab_yok; decide +kernel) ⟨rfl, rfl⟩ (by decide) zV_J0_length_8abf5, List.forall_mem_cons.mpr ⟨ab_callT (zM_J0_charAt_5068e l) rfl (ab_in 394 (by decide +kernel) rfl) (ab_in 454 (by decide +kernel) rfl) (ab_in 392 (by decide +kernel) rfl) (ab_in 393 (by decide +kernel) rfl) (ab_in 13 (by decide +kernel) rfl) (by unfold ab_yok; decide +kernel) ⟨rfl, rfl⟩ (by decide) zV_J0_charAt_5068e, List.forall_mem_nil _⟩⟩⟩) (List.forall_mem_nil _) zE_X8_wordToken
/-- a number -/
def zt_X8_numberToken : ab_T := ab_m0 4 (fun M _ => ∃ n pl : Nat, n ≤ 160 ∧ pl < n ∧ M 4 2 = nI n ∧ M 4 5 = nI pl ∧ M 4 6 = nI (pl + 1))
  (fun M N o M2 N2 => N2 = N ∧ ∃ f : Nat → Int32, M2 = ab_u M 4 f ∧ f 2 = M 4 2 ∧ f 7 = M 4 7 ∧ ∀ n pl : Nat, n ≤ 160 → pl < n → M 4 2 = nI n → M 4 5 = nI pl → f 5 = nI pl ∧ f 6 = nI (zRun zbD (M 34) (n - (pl + 1)) (pl + 1)) ∧ f 4 = zNumF (M 34) (zRun zbD (M 34) (n - (pl + 1)) (pl + 1) - (pl + 1)) (pl + 1) (M 34 pl - 48) ∧ o = some (.int (if 4 < zRun zbD (M 34) (n - (pl + 1)) (pl + 1) - pl then -2 else 0)))
theorem zt_X8_numberToken_mono : ab_mono zt_X8_numberToken := ab_m0_mono _ _ _
theorem zV_X8_numberToken : ab_recv zw_C vwCl RX8 zt_X8_numberToken := ab_m0_v rfl rfl
def zp_X8_numberToken : ab_P := [(0, .aload_n 0, 1, [0], []),
  (1, .aload_n 0, 2, [0], []),
  (2, .aload_n 0, 3, [0], []),
  (3, .getfield 40, 6, [], []),
  (6, .invokevirtual 78, 9, [], []),
  (9, .bipush 48, 11, [], [48]),
  (11, .isub, 12, [], []),
  (12, .putfield 72, 15, [], []),
  (15, .aload_n 0, 16, [0], []),
  (16, .getfield 28, 19, [], []),
  (19, .aload_n 0, 20, [0], []),
  (20, .getfield 15, 23, [], []),
  (23, .if_icmp .ge 53, 26, [76], []),
  (26, .aload_n 0, 27, [0], []),
  (27, .aload_n 0, 28, [0], []),
  (28, .getfield 28, 31, [], []),
  (31, .invokevirtual 78, 34, [], []),
  (34, .invokestatic 89, 37, [], []),
  (37, .ifCond .eq 39, 40, [76], []),
  (40, .aload_n 0, 41, [0], []),
  (41, .aload_n 0, 42, [0], []),
  (42, .getfield 72, 45, [], []),
  (45, .bipush 10, 47, [], [10]),
  (47, .imul, 48, [], []),
  (48, .aload_n 0, 49, [0], []),
  (49, .aload_n 0, 50, [0], []),
  (50, .getfield 28, 53, [], []),
  (53, .invokevirtual 78, 56, [], []),
  (56, .iadd, 57, [], []),
  (57, .bipush 48, 59, [], [48]),
  (59, .isub, 60, [], []),
  (60, .putfield 72, 63, [], []),
  (63, .aload_n 0, 64, [0], []),
  (64, .dup, 65, [], []),
  (65, .getfield 28, 68, [], []),
  (68, .iconst 1, 69, [], [1]),
  (69, .iadd, 70, [], []),
  (70, .putfield 28, 73, [], []),
  (73, .goto (-58), 76, [15], []),
  (76, .aload_n 0, 77, [0], []),
  (77, .getfield 28, 80, [], []),
  (80, .aload_n 0, 81, [0], []),
  (81, .getfield 40, 84, [], []),
  (84, .isub, 85, [], []),
  (85, .iconst 4, 86, [], [4]),
  (86, .if_icmp .le 8, 89, [94], []),
  (89, .bipush (-2), 91, [], [(-2)]),
  (91, .goto 4, 94, [95], []),
  (94, .iconst 0, 95, [], [0]),
  (95, .ireturn, 96, [], [])]
theorem zo_X8_numberToken : ab_ok cX8_numberToken zp_X8_numberToken = true := by decide +kernel
def zg_X8_numberToken : ab_G := (zw_C, zs_tab, zf_X8, zc_X8, [], [(78, 2, zt_X8_at)], [(89, 1, zt_X8_isDigit)])
theorem zm_X8_numberToken : ab_MG zg_X8_numberToken := ab_MGof (List.forall_mem_cons.mpr ⟨ab_pure_mono _, List.forall_mem_nil _⟩) (List.forall_mem_cons.mpr ⟨ab_pure_mono _, List.forall_mem_nil _⟩)
abbrev zr_X8_numberToken (Q : ab_R) : ab_K := ab_Run zg_X8_numberToken zp_X8_numberToken (some .int) 1 Q
set_option maxRecDepth 20000 in
theorem zv_X8_numberToken_0 {Q : ab_R} {M : ab_M} {N : ab_N}  (h : let z1 : Nat → Int32 := upd (M 4) 4 ((if 0 ≤ (M 4 5) ∧ (M 4 5) < (M 4) 2 ∧ (M 4 5) < 160 then (M 34) (M 4 5).toNatClampNeg else -1) - (48 : Int32)); zr_X8_numberToken Q 15 [some (.ref 4)] [] (ab_u M 4 z1) N) : zr_X8_numberToken Q 0 [some (.ref 4)] [] M N := ab_Run_s zm_X8_numberToken (sp := [(15, [true]), (76, [true])]) 52 h
set_option maxRecDepth 20000 in
theorem zv_X8_numberToken_15 {Q : ab_R} {M : ab_M} {N : ab_N}  (h : ((M 4 2) ≤ (M 4 6) → zr_X8_numberToken Q 76 [some (.ref 4)] [] M N) ∧ (¬ ((M 4 2) ≤ (M 4 6)) → ((ab_b (48 ≤ (if 0 ≤ (M 4 6) ∧ (M 4 6) < (M 4) 2 ∧ (M 4 6) < 160 then (M 34) (M 4 6).toNatClampNeg else -1) ∧ (if 0 ≤ (M 4 6) ∧ (M 4 6) < (M 4) 2 ∧ (M 4 6) < 160 then (M 34) (M 4 6).toNatClampNeg else -1) ≤ 57)) = 0 → zr_X8_numberToken Q 76 [some (.ref 4)] [] M N) ∧ (¬ ((ab_b (48 ≤ (if 0 ≤ (M 4 6) ∧ (M 4 6) < (M 4) 2 ∧ (M 4 6) < 160 then (M 34) (M 4 6).toNatClampNeg else -1) ∧ (if 0 ≤ (M 4 6) ∧ (M 4 6) < (M 4) 2 ∧ (M 4 6) < 160 then (M 34) (M 4 6).toNatClampNeg else -1) ≤ 57)) = 0) → let z1 : Nat → Int32 := upd (M 4) 4 ((((M 4 4) * (10 : Int32)) + (if 0 ≤ (M 4 6) ∧ (M 4 6) < (M 4) 2 ∧ (M 4 6) < 160 then (M 34) (M 4 6).toNatClampNeg else -1)) - (48 : Int32)); let z2 : Nat → Int32 := upd (z1) 6 ((z1 6) + (1 : Int32)); zr_X8_numberToken Q 15 [some (.ref 4)] [] (ab_u (ab_u M 4 z1) 4 z2) N))) : zr_X8_numberToken Q 15 [some (.ref 4)] [] M N := ab_Run_s zm_X8_numberToken (sp := [(15, [true]), (76, [true])]) 52 h
set_option maxRecDepth 20000 in
theorem zv_X8_numberToken_76 {Q : ab_R} {M : ab_M} {N : ab_N}  (h : (((M 4 6) - (M 4 5)) ≤ (4 : Int32) → Q (some (.int (0 : Int32))) M N) ∧ (¬ (((M 4 6) - (M 4 5)) ≤ (4 : Int32)) → Q (some (.int (-2 : Int32))) M N)) : zr_X8_numberToken Q 76 [some (.ref 4)] [] M N := ab_Run_s zm_X8_numberToken (sp := [(15, [true]), (76, [true])]) 52 h
theorem zL_X8_numberToken {Q : ab_R} {M : ab_M} {N : ab_N} (n pl e : Nat) (num : Int32) (hn : n ≤ 160) (hp : pl < e) (he : e ≤ n) (hq : ∀ f : Nat → Int32, f 2 = M 4 2 → f 7 = M 4 7 → f 5 = nI pl → f 6 = nI e → f 4 = num → Q (some (.int (if 4 < e - pl then -2 else 0))) (ab_u M 4 f) N) (e2 : M 4 2 = nI n) : ∀ (r i : Nat) (a : Int32) (f : Nat → Int32), i + r = n → pl < i → f 2 = M 4 2 → f 7 = M 4 7 → f 5 = nI pl → f 6 = nI i → f 4 = a → zRun zbD (M 34) (n - i) i = e → zNumF (M 34) (e - i) i a = num → zr_X8_numberToken Q 15 [some (.ref 4)] [] (ab_u M 4 f) N := by
  intro r
  have stop : ∀ (f : Nat → Int32), f 2 = M 4 2 → f 7 = M 4 7 → f 5 = nI pl → f 6 = nI e → f 4 = num → zr_X8_numberToken Q 76 [some (.ref 4)] [] (ab_u M 4 f) N := by
    intro f f2 f7 f5 f6 f4
    have h0 := hq f f2 f7 f5 f6 f4
    refine zv_X8_numberToken_76 ?_
    rw [ab_u_eq, f5, f6, pk_sub (by omega)]
    refine ⟨fun c => ?_, fun c => ?_⟩
    · rw [if_neg (show ¬ 4 < e - pl from fun z => nI_ge (a := 4) (b := e - pl) z (by omega) c)] at h0
      exact h0
    · rw [if_pos (show 4 < e - pl from Nat.not_le.mp fun z => c (nI_le (a := e - pl) (b := 4) z (by omega)))] at h0
      exact h0
  induction r with
  | zero =>
    intro i a f hi hpi f2 f7 f5 f6 f4 hr hnum
    have : e = i := by
      rw [← hr, show n - i = 0 by omega]
      rfl
    subst this
    refine zv_X8_numberToken_15 ⟨fun _ => stop f f2 f7 f5 f6 (by rw [f4, ← hnum, Nat.sub_self]; rfl), fun c => absurd ?_ c⟩
    rw [ab_u_eq, f2, f6, e2]
    exact nI_le (by omega) (by omega)
  | succ r ih =>
    intro i a f hi hpi f2 f7 f5 f6 f4 hr hnum
    refine zv_X8_numberToken_15 ?_
    rw [ab_u_eq, f6, f2, e2, ab_u_ne _ _ (show (34 : Nat) ≠ 4 by decide), zAt_in (M 34) (show i < n by omega) hn]
    refine ⟨fun c => absurd c (nI_ge (by omega) (by omega)), fun _ => ⟨fun c => ?_, fun c => ?_⟩⟩
    · have hd := zbD_b.mp c
      have : e = i := by rw [← hr, zRun_st (fun z => hd z.2)]
      subst this
      exact stop f f2 f7 f5 f6 (by rw [f4, ← hnum, Nat.sub_self]; rfl)
    · have hd : zbD (M 34 i) = true := Decidable.byContradiction fun z => c (zbD_b.mpr z)
      rw [zRun_go (by omega) hd] at hr
      have hie : i < e := by have := zRun_ge zbD (M 34) (n - (i + 1)) (i + 1); omega
      intro z1 z2
      rw [ab_u_u, ab_u_u]
      refine ih (i + 1) (a * 10 + M 34 i - 48) _ (by omega) (by omega) ?_ ?_ ?_ ?_ ?_ hr ?_
      · simp [z2, z1, upd, f2]
      · simp [z2, z1, upd, f7]
      · simp [z2, z1, upd, f5]
      · simp [z2, z1, upd, f6, nI_1]
      · simp [z2, z1, upd, f4]
      · rw [show e - i = (e - (i + 1)) + 1 by omega] at hnum
        exact hnum
theorem zE_X8_numberToken (as : List Value) (M : ab_M) (N : ab_N) (k : ab_R) (hT : zt_X8_numberToken as M N k) : ab_cs as ≤ 1 ∧ zr_X8_numberToken k 0 (ab_en as) [] M N := by
  obtain ⟨rfl, ⟨n, pl, hn, h1, e2, e5, e6⟩, hk⟩ := ab_m0_e hT
  refine ⟨Nat.le_of_ble_eq_true rfl, zv_X8_numberToken_0 ?_⟩
  rw [e5, e2, zAt_in (M 34) h1 hn]
  have g1 := zRun_ge zbD (M 34) (n - (pl + 1)) (pl + 1)
  have g2 : zRun zbD (M 34) (n - (pl + 1)) (pl + 1) ≤ n := zRun_lt (by omega)
  refine zL_X8_numberToken n pl _ _ hn (by omega) g2 (fun f f2 f7 f5 f6 f4 => hk _ _ _ ⟨rfl, f, rfl, f2, f7, fun n' pl' hn' hp' en ep => ?_⟩) e2 (n - (pl + 1)) (pl + 1) (M 34 pl - 48) _ (by omega) (by omega) ?_ ?_ ?_ ?_ ?_ rfl rfl
  · have a1 : n' = n := (nI_eq (by omega) (by omega)).mp (en.symm.trans e2)
    have a2 : pl' = pl := (nI_eq (by omega) (by omega)).mp (ep.symm.trans e5)
    subst a1
    subst a2
    exact ⟨f5, f6, f4, rfl⟩
  · rw [upd_ne _ _ (by decide)]
  · rw [upd_ne _ _ (by decide)]
  · rw [upd_ne _ _ (by decide), e5]
  · rw [upd_ne _ _ (by decide), e6]
  · rw [upd_eq]
abbrev zR_X8_numberToken : Room := { frames := 1, cells := 0, slots := 0, locals := 21 }
set_option maxRecDepth 20000 in
theorem zM_X8_numberToken (l : Launch) : ab_Met l zw_C vwCl zZ_C yX8_numberToken cX8_numberToken 1 (some .int) zR_X8_numberToken zt_X8_numberToken := ab_ofRun (G := zg_X8_numberToken) (P := zp_X8_numberToken) rfl zo_X8_numberToken (by decide +kernel) zl_cl zl_lamC zf_X8_ok zs_tabOK zc_X8_ok ab_Sta_nil (List.forall_mem_cons.mpr ⟨ab_callV zZ_C_ok (zM_X8_at l) (ab_in 444 (by decide +kernel) rfl) (ab_in 441 (by decide +kernel) rfl) (ab_in 443 (by decide +kernel) rfl) (ab_inS (List.mem_of_getElem? (i := 1) (by decide +kernel)) rfl) (ab_in 5 (by decide +kernel) rfl) (by unfold ab_yok; decide +kernel) ⟨rfl, rfl⟩ (by decide) zV_X8_at, List.forall_mem_nil _⟩) (List.forall_mem_cons.mpr ⟨ab_callS zZ_C_ok (zM_X8_isDigit l) (ab_in 457 (by decide +kernel) rfl) (ab_in 455 (by decide +kernel) rfl) (ab_in 456 (by decide +kernel) rfl) (ab_in 5 (by decide +kernel) rfl) (by unfold ab_yok; decide +kernel) ⟨rfl, rfl⟩ (by decide), List.forall_mem_nil _⟩) zE_X8_numberToken
/-- the tape: so many bytes -/
def zTp (M : ab_M) (n : Nat) : Prop := n ≤ 160 ∧ M 4 2 = nI n ∧ ∀ j, j < n → 0 ≤ M 34 j
/-- what stands read -/
def zLa (f B : Nat → Int32) (n i : Nat) : Prop := f 3 = (zTk B n i).1 ∧ ((zTk B n i).1 = 0 → f 4 = (zTk B n i).2.1) ∧ f 5 = nI (zTk B n i).2.2.1 ∧ f 6 = nI (zTk B n i).2.2.2
def zt_X8_advance : ab_T := ab_m0 4 (fun M _ => ∃ n i : Nat, zTp M n ∧ i ≤ n ∧ M 4 6 = nI i)
  (fun M N o M2 N2 => o = none ∧ N2 = N ∧ ∃ f : Nat → Int32, M2 = ab_u M 4 f ∧ f 2 = M 4 2 ∧ f 7 = M 4 7 ∧ ∀ n i : Nat, n ≤ 160 → i ≤ n → M 4 2 = nI n → M 4 6 = nI i → zLa f (M 34) n i)
theorem zt_X8_advance_mono : ab_mono zt_X8_advance := ab_m0_mono _ _ _
theorem zV_X8_advance : ab_recv zw_C vwCl RX8 zt_X8_advance := ab_m0_v rfl rfl
def zp_X8_advance : ab_P := [(0, .aload_n 0, 1, [0], []),
  (1, .aload_n 0, 2, [0], []),
  (2, .getfield 28, 5, [], []),
  (5, .putfield 40, 8, [], []),
  (8, .aload_n 0, 9, [0], []),
  (9, .getfield 40, 12, [], []),
  (12, .aload_n 0, 13, [0], []),
  (13, .getfield 15, 16, [], []),
  (16, .if_icmp .ge 42, 19, [58], []),
  (19, .aload_n 0, 20, [0], []),
  (20, .aload_n 0, 21, [0], []),
  (21, .getfield 40, 24, [], []),
  (24, .invokevirtual 78, 27, [], []),
  (27, .bipush 32, 29, [], [32]),
  (29, .if_icmp .eq 16, 32, [45], []),
  (32, .aload_n 0, 33, [0], []),
  (33, .aload_n 0, 34, [0], []),
  (34, .getfield 40, 37, [], []),
  (37, .invokevirtual 78, 40, [], []),
  (40, .bipush 10, 42, [], [10]),
  (42, .if_icmp .ne 16, 45, [58], []),
  (45, .aload_n 0, 46, [0], []),
  (46, .dup, 47, [], []),
  (47, .getfield 40, 50, [], []),
  (50, .iconst 1, 51, [], [1]),
  (51, .iadd, 52, [], []),
  (52, .putfield 40, 55, [], []),
  (55, .goto (-47), 58, [8], []),
  (58, .aload_n 0, 59, [0], []),
  (59, .aload_n 0, 60, [0], []),
  (60, .getfield 40, 63, [], []),
  (63, .iconst 1, 64, [], [1]),
  (64, .iadd, 65, [], []),
  (65, .putfield 28, 68, [], []),
  (68, .aload_n 0, 69, [0], []),
  (69, .aload_n 0, 70, [0], []),
  (70, .getfield 40, 73, [], []),
  (73, .invokevirtual 78, 76, [], []),
  (76, .istore_n 1, 77, [1], []),
  (77, .iload_n 1, 78, [1], []),
  (78, .invokestatic 82, 81, [], []),
  (81, .ifCond .eq 52, 84, [133], []),
  (84, .aload_n 0, 85, [0], []),
  (85, .getfield 28, 88, [], []),
  (88, .aload_n 0, 89, [0], []),
  (89, .getfield 15, 92, [], []),
  (92, .if_icmp .ge 30, 95, [122], []),
  (95, .aload_n 0, 96, [0], []),
  (96, .aload_n 0, 97, [0], []),
  (97, .getfield 28, 100, [], []),
  (100, .invokevirtual 78, 103, [], []),
  (103, .invokestatic 82, 106, [], []),
  (106, .ifCond .eq 16, 109, [122], []),
  (109, .aload_n 0, 110, [0], []),
  (110, .dup, 111, [], []),
  (111, .getfield 28, 114, [], []),
  (114, .iconst 1, 115, [], [1]),
  (115, .iadd, 116, [], []),
  (116, .putfield 28, 119, [], []),
  (119, .goto (-35), 122, [84], []),
  (122, .aload_n 0, 123, [0], []),
  (123, .aload_n 0, 124, [0], []),
  (124, .invokevirtual 85, 127, [], []),
  (127, .putfield 37, 130, [], []),
  (130, .goto 46, 133, [176], []),
  (133, .iload_n 1, 134, [1], []),
  (134, .invokestatic 89, 137, [], []),
  (137, .ifCond .eq 14, 140, [151], []),
  (140, .aload_n 0, 141, [0], []),
  (141, .aload_n 0, 142, [0], []),
  (142, .invokevirtual 92, 145, [], []),
  (145, .putfield 37, 148, [], []),
  (148, .goto 28, 151, [176], []),
  (151, .aload_n 0, 152, [0], []),
  (152, .iload_n 1, 153, [1], []),
  (153, .ifCond .ge 7, 156, [160], []),
  (156, .iconst (-1), 157, [], [(-1)]),
  (157, .goto 16, 160, [173], []),
  (160, .iload_n 1, 161, [1], []),
  (161, .invokestatic 95, 164, [], []),
  (164, .ifCond .eq 7, 167, [171], []),
  (167, .iload_n 1, 168, [1], []),
  (168, .goto 5, 171, [173], []),
  (171, .bipush (-2), 173, [], [(-2)]),
  (173, .putfield 37, 176, [], []),
  (176, .return_, 177, [], [])]
theorem zo_X8_advance : ab_ok cX8_advance zp_X8_advance = true := by decide +kernel
def zg_X8_advance : ab_G := (zw_C, zs_tab, zf_X8, zc_X8, [], [(78, 2, zt_X8_at), (85, 1, zt_X8_wordToken), (92, 1, zt_X8_numberToken)], [(82, 1, zt_X8_isLetter), (89, 1, zt_X8_isDigit), (95, 1, zt_X8_isSign)])
theorem zm_X8_advance : ab_MG zg_X8_advance := ab_MGof (List.forall_mem_cons.mpr ⟨ab_pure_mono _, List.forall_mem_cons.mpr ⟨zt_X8_wordToken_mono, List.forall_mem_cons.mpr ⟨zt_X8_numberToken_mono, List.forall_mem_nil _⟩⟩⟩) (List.forall_mem_cons.mpr ⟨ab_pure_mono _, List.forall_mem_cons.mpr ⟨ab_pure_mono _, List.forall_mem_cons.mpr ⟨ab_pure_mono _, List.forall_mem_nil _⟩⟩⟩)
abbrev zr_X8_advance (Q : ab_R) : ab_K := ab_Run zg_X8_advance zp_X8_advance none 2 Q
set_option maxRecDepth 20000 in
theorem zv_X8_advance_0 {Q : ab_R} {M : ab_M} {N : ab_N}  (h : let z1 : Nat → Int32 := upd (M 4) 5 (M 4 6); zr_X8_advance Q 8 [some (.ref 4), none] [] (ab_u M 4 z1) N) : zr_X8_advance Q 0 [some (.ref 4)] [] M N := ab_Run_s zm_X8_advance (sp := [(8, [true, false]), (58, [true, false]), (84, [true, false]), (127, [false, false]), (145, [false, false])]) 88 h
set_option maxRecDepth 20000 in
theorem zv_X8_advance_8 {Q : ab_R} {M : ab_M} {N : ab_N}  (h : ((M 4 2) ≤ (M 4 5) → zr_X8_advance Q 58 [some (.ref 4), none] [] M N) ∧ (¬ ((M 4 2) ≤ (M 4 5)) → ((if 0 ≤ (M 4 5) ∧ (M 4 5) < (M 4) 2 ∧ (M 4 5) < 160 then (M 34) (M 4 5).toNatClampNeg else -1) = (32 : Int32) → let z1 : Nat → Int32 := upd (M 4) 5 ((M 4 5) + (1 : Int32)); zr_X8_advance Q 8 [some (.ref 4), none] [] (ab_u M 4 z1) N) ∧ (¬ ((if 0 ≤ (M 4 5) ∧ (M 4 5) < (M 4) 2 ∧ (M 4 5) < 160 then (M 34) (M 4 5).toNatClampNeg else -1) = (32 : Int32)) → ((if 0 ≤ (M 4 5) ∧ (M 4 5) < (M 4) 2 ∧ (M 4 5) < 160 then (M 34) (M 4 5).toNatClampNeg else -1) = (10 : Int32) → let z2 : Nat → Int32 := upd (M 4) 5 ((M 4 5) + (1 : Int32)); zr_X8_advance Q 8 [some (.ref 4), none] [] (ab_u M 4 z2) N) ∧ (¬ ((if 0 ≤ (M 4 5) ∧ (M 4 5) < (M 4) 2 ∧ (M 4 5) < 160 then (M 34) (M 4 5).toNatClampNeg else -1) = (10 : Int32)) → zr_X8_advance Q 58 [some (.ref 4), none] [] M N)))) : zr_X8_advance Q 8 [some (.ref 4), none] [] M N := ab_Run_s zm_X8_advance (sp := [(8, [true, false]), (58, [true, false]), (84, [true, false]), (127, [false, false]), (145, [false, false])]) 88 h
set_option maxRecDepth 20000 in
theorem zv_X8_advance_58 {Q : ab_R} {M : ab_M} {N : ab_N}  (h : let z1 : Nat → Int32 := upd (M 4) 6 ((M 4 5) + (1 : Int32)); ((ab_b (97 ≤ (if 0 ≤ (z1 5) ∧ (z1 5) < z1 2 ∧ (z1 5) < 160 then (M 34) (z1 5).toNatClampNeg else -1) ∧ (if 0 ≤ (z1 5) ∧ (z1 5) < z1 2 ∧ (z1 5) < 160 then (M 34) (z1 5).toNatClampNeg else -1) ≤ 122)) = 0 → ((ab_b (48 ≤ (if 0 ≤ (z1 5) ∧ (z1 5) < z1 2 ∧ (z1 5) < 160 then (M 34) (z1 5).toNatClampNeg else -1) ∧ (if 0 ≤ (z1 5) ∧ (z1 5) < z1 2 ∧ (z1 5) < 160 then (M 34) (z1 5).toNatClampNeg else -1) ≤ 57)) = 0 → (0 ≤ (if 0 ≤ (z1 5) ∧ (z1 5) < z1 2 ∧ (z1 5) < 160 then (M 34) (z1 5).toNatClampNeg else -1) → ((ab_b (zSign (if 0 ≤ (z1 5) ∧ (z1 5) < z1 2 ∧ (z1 5) < 160 then (M 34) (z1 5).toNatClampNeg else -1))) = 0 → let z2 : Nat → Int32 := upd (z1) 3 (-2 : Int32); Q none (ab_u (ab_u M 4 z1) 4 z2) N) ∧ (¬ ((ab_b (zSign (if 0 ≤ (z1 5) ∧ (z1 5) < z1 2 ∧ (z1 5) < 160 then (M 34) (z1 5).toNatClampNeg else -1))) = 0) → let z3 : Nat → Int32 := upd (z1) 3 (if 0 ≤ (z1 5) ∧ (z1 5) < z1 2 ∧ (z1 5) < 160 then (M 34) (z1 5).toNatClampNeg else -1); Q none (ab_u (ab_u M 4 z1) 4 z3) N)) ∧ (¬ (0 ≤ (if 0 ≤ (z1 5) ∧ (z1 5) < z1 2 ∧ (z1 5) < 160 then (M 34) (z1 5).toNatClampNeg else -1)) → let z4 : Nat → Int32 := upd (z1) 3 (-1 : Int32); Q none (ab_u (ab_u M 4 z1) 4 z4) N)) ∧ (¬ ((ab_b (48 ≤ (if 0 ≤ (z1 5) ∧ (z1 5) < z1 2 ∧ (z1 5) < 160 then (M 34) (z1 5).toNatClampNeg else -1) ∧ (if 0 ≤ (z1 5) ∧ (z1 5) < z1 2 ∧ (z1 5) < 160 then (M 34) (z1 5).toNatClampNeg else -1) ≤ 57)) = 0) → zt_X8_numberToken [.ref 4] (ab_u M 4 z1) N (fun r M2 N2 => zr_X8_advance Q 145 [none, none] (ab_ol r [.ref 4]) M2 N2))) ∧ (¬ ((ab_b (97 ≤ (if 0 ≤ (z1 5) ∧ (z1 5) < z1 2 ∧ (z1 5) < 160 then (M 34) (z1 5).toNatClampNeg else -1) ∧ (if 0 ≤ (z1 5) ∧ (z1 5) < z1 2 ∧ (z1 5) < 160 then (M 34) (z1 5).toNatClampNeg else -1) ≤ 122)) = 0) → zr_X8_advance Q 84 [some (.ref 4), none] [] (ab_u M 4 z1) N)) : zr_X8_advance Q 58 [some (.ref 4), none] [] M N := ab_Run_s zm_X8_advance (sp := [(8, [true, false]), (58, [true, false]), (84, [true, false]), (127, [false, false]), (145, [false, false])]) 88 h
set_option maxRecDepth 20000 in
theorem zv_X8_advance_84 {Q : ab_R} {M : ab_M} {N : ab_N}  (h : ((M 4 2) ≤ (M 4 6) → zt_X8_wordToken [.ref 4] M N (fun r M2 N2 => zr_X8_advance Q 127 [none, none] (ab_ol r [.ref 4]) M2 N2)) ∧ (¬ ((M 4 2) ≤ (M 4 6)) → ((ab_b (97 ≤ (if 0 ≤ (M 4 6) ∧ (M 4 6) < (M 4) 2 ∧ (M 4 6) < 160 then (M 34) (M 4 6).toNatClampNeg else -1) ∧ (if 0 ≤ (M 4 6) ∧ (M 4 6) < (M 4) 2 ∧ (M 4 6) < 160 then (M 34) (M 4 6).toNatClampNeg else -1) ≤ 122)) = 0 → zt_X8_wordToken [.ref 4] M N (fun r M2 N2 => zr_X8_advance Q 127 [none, none] (ab_ol r [.ref 4]) M2 N2)) ∧ (¬ ((ab_b (97 ≤ (if 0 ≤ (M 4 6) ∧ (M 4 6) < (M 4) 2 ∧ (M 4 6) < 160 then (M 34) (M 4 6).toNatClampNeg else -1) ∧ (if 0 ≤ (M 4 6) ∧ (M 4 6) < (M 4) 2 ∧ (M 4 6) < 160 then (M 34) (M 4 6).toNatClampNeg else -1) ≤ 122)) = 0) → let z1 : Nat → Int32 := upd (M 4) 6 ((M 4 6) + (1 : Int32)); zr_X8_advance Q 84 [some (.ref 4), none] [] (ab_u M 4 z1) N))) : zr_X8_advance Q 84 [some (.ref 4), none] [] M N := ab_Run_s zm_X8_advance (sp := [(8, [true, false]), (58, [true, false]), (84, [true, false]), (127, [false, false]), (145, [false, false])]) 88 h
set_option maxRecDepth 20000 in
theorem zv_X8_advance_127 {Q : ab_R} {M : ab_M} {N : ab_N} (s1 : Int32) (h : let z1 : Nat → Int32 := upd (M 4) 3 s1; Q none (ab_u M 4 z1) N) : zr_X8_advance Q 127 [none, none] [.int s1, .ref 4] M N := ab_Run_s zm_X8_advance (sp := [(8, [true, false]), (58, [true, false]), (84, [true, false]), (127, [false, false]), (145, [false, false])]) 88 h
set_option maxRecDepth 20000 in
theorem zv_X8_advance_145 {Q : ab_R} {M : ab_M} {N : ab_N} (s1 : Int32) (h : let z1 : Nat → Int32 := upd (M 4) 3 s1; Q none (ab_u M 4 z1) N) : zr_X8_advance Q 145 [none, none] [.int s1, .ref 4] M N := ab_Run_s zm_X8_advance (sp := [(8, [true, false]), (58, [true, false]), (84, [true, false]), (127, [false, false]), (145, [false, false])]) 88 h
theorem zTk_pl (B : Nat → Int32) (n i : Nat) : (zTk B n i).2.2.1 = zRun zbS B (n - i) i := by
  unfold zTk
  dsimp only
  split
  · rfl
  · split
    · rfl
    · split <;> rfl
theorem zLa_end {f B : Nat → Int32} {n i pl : Nat} (hp : zRun zbS B (n - i) i = pl) (h : n ≤ pl) (f3 : f 3 = -1) (f5 : f 5 = nI pl) (f6 : f 6 = nI (pl + 1)) : zLa f B n i := by
  have e : zTk B n i = (-1, 0, pl, pl + 1) := by unfold zTk; dsimp only; rw [hp, if_pos h]
  unfold zLa
  rw [e]
  exact ⟨f3, fun z => absurd z (show ¬ (-1 : Int32) = 0 by decide), f5, f6⟩
theorem zWd_pos (B : Nat → Int32) (pl bh : Nat) : ∀ (l : List Int32) (w : Int32) (i : Nat) (sm : Bool), (0 < w ∧ w.toInt + l.length < 100) → zWt B pl bh l w i sm ≠ 0
  | [], w, i, sm, h => by unfold zWt; decide
  | c :: r, w, i, sm, h => by
    have h2 : 0 < w + 1 ∧ (w + 1).toInt + r.length < 100 := by
      obtain ⟨h0, h1⟩ := h
      simp only [List.length_cons] at h1
      push_cast at h1
      have g0 : (0 : Int32).toInt < w.toInt := Int32.lt_iff_toInt_lt.mp h0
      have e0 : (0 : Int32).toInt = 0 := by decide
      rw [e0] at g0
      have e1 : (w + 1).toInt = w.toInt + 1 := by
        rw [Int32.toInt_add, show (1 : Int32).toInt = 1 by decide]
        apply Int.bmod_eq_of_le <;> omega
      refine ⟨Int32.lt_iff_toInt_lt.mpr (by rw [e0, e1]; omega), by rw [e1]; omega⟩
    unfold zWt
    split
    · split
      · exact fun z => absurd h.1 (by rw [z]; decide)
      · exact zWd_pos B pl bh r _ _ _ h2
    · refine zWd_pos B pl bh r _ _ _ ⟨h.1, ?_⟩
      have := h.2
      simp only [List.length_cons] at this
      push_cast at this
      omega
theorem zLa_word {f B : Nat → Int32} {n i pl : Nat} (hp : zRun zbS B (n - i) i = pl) (h : pl < n) (hl : zbL (B pl) = true) (f3 : f 3 = zWd B pl (zRun zbL B (n - (pl + 1)) (pl + 1))) (f5 : f 5 = nI pl) (f6 : f 6 = nI (zRun zbL B (n - (pl + 1)) (pl + 1))) : zLa f B n i := by
  have e : zTk B n i = (zWd B pl (zRun zbL B (n - (pl + 1)) (pl + 1)), 0, pl, zRun zbL B (n - (pl + 1)) (pl + 1)) := by unfold zTk; dsimp only; rw [hp, if_neg (by omega), if_pos hl]
  unfold zLa
  rw [e]
  exact ⟨f3, fun z => absurd z (zWd_pos _ _ _ _ _ _ _ (by decide +kernel)), f5, f6⟩
theorem zLa_num {f B : Nat → Int32} {n i pl e : Nat} (hp : zRun zbS B (n - i) i = pl) (h : pl < n) (hl : ¬ zbL (B pl) = true) (hd : zbD (B pl) = true) (he : zRun zbD B (n - (pl + 1)) (pl + 1) = e) (f3 : f 3 = if 4 < e - pl then -2 else 0) (f4 : f 4 = zNumF B (e - (pl + 1)) (pl + 1) (B pl - 48)) (f5 : f 5 = nI pl) (f6 : f 6 = nI e) : zLa f B n i := by
  have ee : zTk B n i = (if 4 < e - pl then -2 else 0, zNumF B (e - (pl + 1)) (pl + 1) (B pl - 48), pl, e) := by unfold zTk; dsimp only; rw [hp, he, if_neg (by omega), if_neg hl, if_pos hd]
  unfold zLa
  rw [ee]
  exact ⟨f3, fun _ => f4, f5, f6⟩
theorem zLa_sign {f B : Nat → Int32} {n i pl : Nat} (hp : zRun zbS B (n - i) i = pl) (h : pl < n) (hl : ¬ zbL (B pl) = true) (hd : ¬ zbD (B pl) = true) (f3 : f 3 = if zSign (B pl) then B pl else -2) (f5 : f 5 = nI pl) (f6 : f 6 = nI (pl + 1)) : zLa f B n i := by
  have ee : zTk B n i = (if zSign (B pl) then B pl else -2, 0, pl, pl + 1) := by unfold zTk; dsimp only; rw [hp, if_neg (by omega), if_neg hl, if_neg hd]
  unfold zLa
  rw [ee]
  refine ⟨f3, fun z => ?_, f5, f6⟩
  dsimp only at z
  split at z
  · rename_i hs
    rw [z] at hs
    exact absurd hs (by decide)
  · exact absurd z (by decide)
section Adv
variable {Q : ab_R} {M : ab_M} {N : ab_N} {n i : Nat}
theorem zL_X8_adv2 (hT : zTp M n) (hq : ∀ f : Nat → Int32, f 2 = M 4 2 → f 7 = M 4 7 → zLa f (M 34) n i → Q none (ab_u M 4 f) N) {pl : Nat} (hp : zRun zbS (M 34) (n - i) i = pl) (hpn : pl < n) (hl : zbL (M 34 pl) = true) : ∀ (r j : Nat) (f : Nat → Int32), j + r = n → pl < j → f 2 = M 4 2 → f 7 = M 4 7 → f 5 = nI pl → f 6 = nI j → zRun zbL (M 34) (n - j) j = zRun zbL (M 34) (n - (pl + 1)) (pl + 1) → zr_X8_advance Q 84 [some (.ref 4), none] [] (ab_u M 4 f) N := by
  obtain ⟨hn, e2, hB⟩ := hT
  intro r
  have stop : ∀ (j : Nat) (f : Nat → Int32), j ≤ n → pl < j → f 2 = M 4 2 → f 7 = M 4 7 → f 5 = nI pl → f 6 = nI j → j = zRun zbL (M 34) (n - (pl + 1)) (pl + 1) → zt_X8_wordToken [.ref 4] (ab_u M 4 f) N (fun r M2 N2 => zr_X8_advance Q 127 [none, none] (ab_ol r [.ref 4]) M2 N2) := by
    intro j f hj hpj f2 f7 f5 f6 ej
    refine ab_m0_i ⟨n, pl, j, hn, by omega, hj, by rw [ab_u_eq, f2, e2], by rw [ab_u_eq, f5], by rw [ab_u_eq, f6]⟩ ?_
    rintro o M2 N2 ⟨rfl, rfl, rfl⟩
    refine zv_X8_advance_127 _ ?_
    intro z1
    rw [ab_u_u]
    have ew : zWd (ab_u M 4 f 34) (ab_u M 4 f 4 5).toNatClampNeg (ab_u M 4 f 4 6).toNatClampNeg = zWd (M 34) pl j := by
      rw [ab_u_eq, ab_u_ne _ _ (by decide), f5, f6, nI_clamp (by omega), nI_clamp (by omega)]
    refine hq z1 ?_ ?_ (zLa_word hp hpn hl ?_ ?_ ?_)
    · simp [z1, upd, f2, ab_u_eq]
    · simp [z1, upd, f7, ab_u_eq]
    · rw [← ej, ← ew]; simp [z1, upd]
    · simp [z1, upd, f5, ab_u_eq]
    · rw [← ej]; simp [z1, upd, f6, ab_u_eq]
  induction r with
  | zero =>
    intro j f hj hpj f2 f7 f5 f6 hr
    have ej : j = zRun zbL (M 34) (n - (pl + 1)) (pl + 1) := by
      rw [← hr, show n - j = 0 by omega]
      rfl
    refine zv_X8_advance_84 ⟨fun _ => stop j f (by omega) hpj f2 f7 f5 f6 ej, fun c => absurd ?_ c⟩
    rw [ab_u_eq, f2, f6, e2]
    exact nI_le (by omega) (by omega)
  | succ r ih =>
    intro j f hj hpj f2 f7 f5 f6 hr
    have hs := stop j f (by omega) hpj f2 f7 f5 f6
    refine zv_X8_advance_84 ?_
    rw [ab_u_eq, f6, f2, e2, ab_u_ne _ _ (show (34 : Nat) ≠ 4 by decide), zAt_in (M 34) (show j < n by omega) hn]
    refine ⟨fun c => absurd c (nI_ge (by omega) (by omega)), fun _ => ⟨fun c => ?_, fun c => ?_⟩⟩
    · have hd := zbL_b.mp c
      exact hs (by rw [← hr, zRun_st (fun z => hd z.2)])
    · have hd : zbL (M 34 j) = true := Decidable.byContradiction fun z => c (zbL_b.mpr z)
      rw [zRun_go (by omega) hd] at hr
      intro z1
      rw [ab_u_u]
      refine ih (j + 1) z1 (by omega) (by omega) ?_ ?_ ?_ ?_ hr
      · simp [z1, upd, f2]
      · simp [z1, upd, f7]
      · simp [z1, upd, f5]
      · simp [z1, upd, nI_1]
theorem zL_X8_adv1 (hT : zTp M n) (hq : ∀ f : Nat → Int32, f 2 = M 4 2 → f 7 = M 4 7 → zLa f (M 34) n i → Q none (ab_u M 4 f) N) {pl : Nat} (hp : zRun zbS (M 34) (n - i) i = pl) (hpn : pl ≤ n) {f : Nat → Int32} (f2 : f 2 = M 4 2) (f7 : f 7 = M 4 7) (f5 : f 5 = nI pl) : zr_X8_advance Q 58 [some (.ref 4), none] [] (ab_u M 4 f) N := by
  obtain ⟨hn, e2, hB⟩ := id hT
  refine zv_X8_advance_58 ?_
  rw [ab_u_eq, ab_u_ne _ _ (show (34 : Nat) ≠ 4 by decide)]
  intro z1
  have z5 : z1 5 = nI pl := by simp [z1, upd, f5]
  have z2 : z1 2 = M 4 2 := by simp [z1, upd, f2]
  have z6 : z1 6 = nI (pl + 1) := by simp [z1, upd, f5, nI_1]
  have z7 : z1 7 = M 4 7 := by simp [z1, upd, f7]
  clear_value z1
  rw [z5, z2, e2]
  by_cases c : pl < n
  · rw [zAt_in (M 34) c hn]
    have hb0 := hB pl c
    generalize hb : M 34 pl = b at hb0 ⊢
    refine ⟨fun c1 => ⟨fun c2 => ⟨fun _ => ⟨fun c3 => ?_, fun c3 => ?_⟩, fun c3 => absurd hb0 c3⟩, fun c2 => ?_⟩, fun c1 => ?_⟩
    · intro y
      rw [ab_u_u, ab_u_u]
      refine hq y (by simp [y, upd, z2]) (by simp [y, upd, z7]) (zLa_sign hp c (by rw [hb]; exact zbL_b.mp c1) (by rw [hb]; exact zbD_b.mp c2) ?_ (by simp [y, upd, z5]) (by simp [y, upd, z6]))
      rw [hb, if_neg (ab_b_0.mp c3)]
      simp [y, upd]
    · intro y
      rw [ab_u_u, ab_u_u]
      refine hq y (by simp [y, upd, z2]) (by simp [y, upd, z7]) (zLa_sign hp c (by rw [hb]; exact zbL_b.mp c1) (by rw [hb]; exact zbD_b.mp c2) ?_ (by simp [y, upd, z5]) (by simp [y, upd, z6]))
      rw [hb, if_pos (Decidable.byContradiction fun z => c3 (ab_b_0.mpr z))]
      simp [y, upd]
    · have hd : zbD (M 34 pl) = true := Decidable.byContradiction fun z => c2 (zbD_b.mpr (by rw [hb] at z; exact z))
      rw [ab_u_u]
      refine ab_m0_i ⟨n, pl, hn, c, by rw [ab_u_eq, z2, e2], by rw [ab_u_eq, z5], by rw [ab_u_eq, z6]⟩ ?_
      rintro o M2 N2 ⟨rfl, g, rfl, g2, g7, hg⟩
      obtain ⟨g5, g6, g4, rfl⟩ := hg n pl hn c (by rw [ab_u_eq, z2, e2]) (by rw [ab_u_eq, z5])
      rw [ab_u_ne _ _ (show (34 : Nat) ≠ 4 by decide)] at g6 g4
      rw [ab_u_eq] at g2 g7
      refine zv_X8_advance_145 _ ?_
      intro y
      rw [ab_u_u, ab_u_u]
      refine hq y (by simp [y, upd, g2, z2, ab_u_eq]) (by simp [y, upd, g7, z7, ab_u_eq]) (zLa_num hp c (by rw [hb]; exact zbL_b.mp c1) hd rfl ?_ ?_ ?_ ?_)
      · simp [y, upd, ab_u_ne]
      · simp [y, upd, g4, ab_u_eq]
      · simp [y, upd, g5, ab_u_eq]
      · simp [y, upd, g6, ab_u_eq]
    · have hl : zbL (M 34 pl) = true := Decidable.byContradiction fun z => c1 (zbL_b.mpr (by rw [hb] at z; exact z))
      rw [ab_u_u]
      exact zL_X8_adv2 hT hq hp c hl (n - (pl + 1)) (pl + 1) z1 (by omega) (by omega) z2 z7 z5 z6 rfl
  · have ep : pl = n := by omega
    rw [zAt_out (M 34) (by omega) (by omega)]
    refine ⟨fun _ => ⟨fun _ => ⟨fun c3 => absurd c3 (by decide), fun _ => ?_⟩, fun c2 => absurd (show ab_b _ = 0 by decide) c2⟩, fun c1 => absurd (show ab_b _ = 0 by decide) c1⟩
    intro y
    rw [ab_u_u, ab_u_u]
    exact hq y (by simp [y, upd, z2]) (by simp [y, upd, z7]) (zLa_end hp (by omega) (by simp [y, upd]) (by simp [y, upd, z5]) (by simp [y, upd, z6]))
theorem zL_X8_adv0 (hT : zTp M n) (hi : i ≤ n) (hq : ∀ f : Nat → Int32, f 2 = M 4 2 → f 7 = M 4 7 → zLa f (M 34) n i → Q none (ab_u M 4 f) N) : ∀ (r j : Nat) (f : Nat → Int32), j + r = n → i ≤ j → f 2 = M 4 2 → f 7 = M 4 7 → f 5 = nI j → zRun zbS (M 34) (n - j) j = zRun zbS (M 34) (n - i) i → zr_X8_advance Q 8 [some (.ref 4), none] [] (ab_u M 4 f) N := by
  obtain ⟨hn, e2, hB⟩ := id hT
  intro r
  induction r with
  | zero =>
    intro j f hj hij f2 f7 f5 hr
    have ej : zRun zbS (M 34) (n - i) i = j := by
      rw [← hr, show n - j = 0 by omega]
      rfl
    refine zv_X8_advance_8 ⟨fun _ => zL_X8_adv1 hT hq ej (by omega) f2 f7 f5, fun c => absurd ?_ c⟩
    rw [ab_u_eq, f2, f5, e2]
    exact nI_le (by omega) (by omega)
  | succ r ih =>
    intro j f hj hij f2 f7 f5 hr
    have hs := fun z => zL_X8_adv1 hT hq (f := f) z (show j ≤ n by omega) f2 f7 f5
    refine zv_X8_advance_8 ?_
    rw [ab_u_eq, f5, f2, e2, ab_u_ne _ _ (show (34 : Nat) ≠ 4 by decide), zAt_in (M 34) (show j < n by omega) hn]
    have go : zbS (M 34 j) = true → let z1 : Nat → Int32 := upd f 5 (nI j + 1); zr_X8_advance Q 8 [some (.ref 4), none] [] (ab_u (ab_u M 4 f) 4 z1) N := by
      intro hd z1
      rw [zRun_go (by omega) hd] at hr
      rw [ab_u_u]
      refine ih (j + 1) z1 (by omega) (by omega) ?_ ?_ ?_ hr
      · simp [z1, upd, f2]
      · simp [z1, upd, f7]
      · simp [z1, upd, nI_1]
    refine ⟨fun c => absurd c (nI_ge (by omega) (by omega)), fun _ => ⟨fun c => go (zbS_b.mpr (Or.inl c)), fun c => ⟨fun c2 => go (zbS_b.mpr (Or.inr c2)), fun c2 => ?_⟩⟩⟩
    refine hs ?_
    rw [← hr, zRun_st (fun z => (zbS_b.mp z.2).elim c c2)]
end Adv
theorem zE_X8_advance (as : List Value) (M : ab_M) (N : ab_N) (k : ab_R) (hT : zt_X8_advance as M N k) : ab_cs as ≤ 2 ∧ zr_X8_advance k 0 (ab_en as) [] M N := by
  obtain ⟨rfl, ⟨n, i, hT, hi, e6⟩, hk⟩ := ab_m0_e hT
  refine ⟨Nat.le_of_ble_eq_true rfl, zv_X8_advance_0 ?_⟩
  intro z1
  refine zL_X8_adv0 hT hi (fun f f2 f7 hL => hk _ _ _ ⟨rfl, rfl, f, rfl, f2, f7, fun n' i' hn' hi' en ei => ?_⟩) (n - i) i z1 (by omega) (Nat.le_refl _) (by simp [z1, upd]) (by simp [z1, upd]) (by simp [z1, upd, e6]) rfl
  have a1 : n' = n := (nI_eq (by omega) (by have := hT.1; omega)).mp (en.symm.trans hT.2.1)
  have a2 : i' = i := (nI_eq (by omega) (by have := hT.1; omega)).mp (ei.symm.trans e6)
  subst a1
  subst a2
  exact hL
abbrev zR_X8_advance : Room := { frames := 5, cells := 0, slots := 0, locals := 109 }
set_option maxRecDepth 20000 in
theorem zM_X8_advance (l : Launch) : ab_Met l zw_C vwCl zZ_C yX8_advance cX8_advance 2 none zR_X8_advance zt_X8_advance := ab_ofRun (G := zg_X8_advance) (P := zp_X8_advance) rfl zo_X8_advance (by decide +kernel) zl_cl zl_lamC zf_X8_ok zs_tabOK zc_X8_ok ab_Sta_nil (List.forall_mem_cons.mpr ⟨ab_callV zZ_C_ok (zM_X8_at l) (ab_in 444 (by decide +kernel) rfl) (ab_in 441 (by decide +kernel) rfl) (ab_in 443 (by decide +kernel) rfl) (ab_inS (List.mem_of_getElem? (i := 1) (by decide +kernel)) rfl) (ab_in 5 (by decide +kernel) rfl) (by unfold ab_yok; decide +kernel) ⟨rfl, rfl⟩ (by decide) zV_X8_at, List.forall_mem_cons.mpr ⟨ab_callV zZ_C_ok (zM_X8_wordToken l) (ab_in 451 (by decide +kernel) rfl) (ab_in 448 (by decide +kernel) rfl) (ab_in 450 (by decide +kernel) rfl) (ab_inS (List.mem_of_getElem? (i := 2) (by decide +kernel)) rfl) (ab_in 5 (by decide +kernel) rfl) (by unfold ab_yok; decide +kernel) ⟨rfl, rfl⟩ (by decide) zV_X8_wordToken, List.forall_mem_cons.mpr ⟨ab_callV zZ_C_ok (zM_X8_numberToken l) (ab_in 461 (by decide +kernel) rfl) (ab_in 458 (by decide +kernel) rfl) (ab_in 460 (by decide +kernel) rfl) (ab_inS (List.mem_of_getElem? (i := 3) (by decide +kernel)) rfl) (ab_in 5 (by decide +kernel) rfl) (by unfold ab_yok; decide +kernel) ⟨rfl, rfl⟩ (by decide) zV_X8_numberToken, List.forall_mem_nil _⟩⟩⟩) (List.forall_mem_cons.mpr ⟨ab_callS zZ_C_ok (zM_X8_isLetter l) (ab_in 447 (by decide +kernel) rfl) (ab_in 445 (by decide +kernel) rfl) (ab_in 446 (by decide +kernel) rfl) (ab_in 5 (by decide +kernel) rfl) (by unfold ab_yok; decide +kernel) ⟨rfl, rfl⟩ (by decide), List.forall_mem_cons.mpr ⟨ab_callS zZ_C_ok (zM_X8_isDigit l) (ab_in 457 (by decide +kernel) rfl) (ab_in 455 (by decide +kernel) rfl) (ab_in 456 (by decide +kernel) rfl) (ab_in 5 (by decide +kernel) rfl) (by unfold ab_yok; decide +kernel) ⟨rfl, rfl⟩ (by decide), List.forall_mem_cons.mpr ⟨ab_callS zZ_C_ok (zM_X8_isSign l) (ab_in 464 (by decide +kernel) rfl) (ab_in 462 (by decide +kernel) rfl) (ab_in 463 (by decide +kernel) rfl) (ab_in 5 (by decide +kernel) rfl) (by unfold ab_yok; decide +kernel) ⟨rfl, rfl⟩ (by decide), List.forall_mem_nil _⟩⟩⟩) zE_X8_advance
end
section
/-! a text is read: signs that wait, codes that come *)
-/
def zRank (s : Nat) : Nat := if s = 0 then 0 else if s = 11 then 1 else if s = 12 then 2 else if s = 13 then 3 else if s ≤ 15 then 4 else if s ≤ 17 then 5 else if s = 18 then 6 else 7
def zCo (s : Nat) : Int32 := if s = 11 then -9 else if s = 12 then -10 else if s = 13 then -7 else if s = 14 then -11 else if s = 15 then -12 else if s = 16 then -13 else if s = 17 then -14 else if s = 18 then -15 else -8
def zUw (r : Nat) : List Nat → List Int32 → List Nat × List Int32
  | [], O => ([], O)
  | s :: K, O => if r ≤ zRank s then zUw r K (O ++ [zCo s]) else (s :: K, O)
def zOp : List Nat → Nat
  | [] => 0
  | s :: K => (if s = 0 ∨ s = 13 ∨ s = 19 then 1 else 0) + zOp K
def zSg (t : Int32) : Nat := if t = 10 then 11 else if t = 11 then 12 else if t = 60 then 14 else if t = 61 then 15 else if t = 43 then 16 else if t = 45 then 17 else if t = 42 then 18 else 0
def zHd4 : List Nat → Bool
  | [] => false
  | s :: _ => decide (zRank s = 4)
abbrev zYs : Type := Bool × Bool × Nat × List Nat × List Int32
abbrev zYr : Type := Nat ⊕ Nat × List Int32
/-- one token: is a value wanted, may NOT stand, where, what waits, what came -/
def zYs1 (B : Nat → Int32) (n : Nat) (w mn : Bool) (i : Nat) (K : List Nat) (O : List Int32) : zYs ⊕ zYr :=
  let t := (zTk B n i).1
  let pl := (zTk B n i).2.2.1
  let bh := (zTk B n i).2.2.2
  if w = true then
    if 0 ≤ t ∧ t ≤ 6 then .inl (false, false, bh, zUw 7 K (O ++ [if t = 0 then (zTk B n i).2.1 else -t]))
    else if t = 12 ∧ mn = true then (if zOp K = 5 then .inr (.inl pl) else .inl (true, true, bh, 13 :: K, O))
    else if t = 45 then (if zOp K = 5 then .inr (.inl pl) else .inl (true, false, bh, 19 :: K, O))
    else if t = 40 then (if zOp K = 5 then .inr (.inl pl) else .inl (true, true, bh, 0 :: K, O))
    else .inr (.inl pl)
  else if t = 59 then (match (zUw 1 K O).1 with
    | [] => .inr (.inr (bh, (zUw 1 K O).2))
    | _ :: _ => .inr (.inl pl))
  else if t = 41 then (match (zUw 1 K O).1 with
    | [] => .inr (.inl pl)
    | _ :: K2 => .inl (false, false, bh, zUw 7 K2 (zUw 1 K O).2))
  else if zSg t = 0 then .inr (.inl pl)
  else if zRank (zSg t) = 4 then (if zHd4 (zUw 5 K O).1 = true then .inr (.inl pl) else .inl (true, false, bh, zSg t :: (zUw 5 K O).1, (zUw 5 K O).2))
  else .inl (true, decide (zSg t ≤ 12), bh, zSg t :: (zUw (zRank (zSg t)) K O).1, (zUw (zRank (zSg t)) K O).2)
def zYm (B : Nat → Int32) (n : Nat) : Nat → zYs → Option zYr
  | 0, _ => none
  | m + 1, s => match zYs1 B n s.1 s.2.1 s.2.2.1 s.2.2.2.1 s.2.2.2.2 with
    | .inl s2 => zYm B n m s2
    | .inr r => some r
def zYd (B : Nat → Int32) (n : Nat) (s : zYs) (r : zYr) : Prop := ∃ m, zYm B n m s = some r
section Yd
variable {B : Nat → Int32} {n : Nat}
theorem zYd_go {w mn : Bool} {i : Nat} {K : List Nat} {O : List Int32} {s2 : zYs} {r : zYr} (h : zYs1 B n w mn i K O = .inl s2) (h2 : zYd B n s2 r) : zYd B n (w, mn, i, K, O) r := by
  obtain ⟨m, hm⟩ := h2
  refine ⟨m + 1, ?_⟩
  unfold zYm
  dsimp only
  rw [h]
  exact hm
theorem zYd_end {w mn : Bool} {i : Nat} {K : List Nat} {O : List Int32} {r : zYr} (h : zYs1 B n w mn i K O = .inr r) : zYd B n (w, mn, i, K, O) r := by
  refine ⟨1, ?_⟩
  unfold zYm
  dsimp only
  rw [h]
theorem zYd_eq {w mn w2 mn2 : Bool} {i i2 : Nat} {K K2 : List Nat} {O O2 : List Int32} {r : zYr} (h : zYs1 B n w mn i K O = zYs1 B n w2 mn2 i2 K2 O2) (h2 : zYd B n (w2, mn2, i2, K2, O2) r) : zYd B n (w, mn, i, K, O) r := by
  obtain ⟨m, hm⟩ := h2
  refine ⟨m, ?_⟩
  cases m with
  | zero => cases hm
  | succ m =>
    unfold zYm at hm ⊢
    dsimp only at hm ⊢
    rw [h]
    exact hm
end Yd
abbrev zA (B : Nat → Int32) (n i : Nat) (K : List Nat) (O : List Int32) (r : zYr) : Prop := zYd B n (false, false, i, K, O) r
abbrev zR (B : Nat → Int32) (n i : Nat) (K : List Nat) (O : List Int32) (mn : Bool) (r : zYr) : Prop := zYd B n (true, mn, i, K, O) r
abbrev zV (B : Nat → Int32) (n i : Nat) (K : List Nat) (O : List Int32) (r : zYr) : Prop := zYd B n (false, false, i, zUw 7 K O) r
def zLow (r : Nat) : List Nat → Prop
  | [] => True
  | s :: _ => zRank s < r
theorem zLow_mono {r r2 : Nat} (h : r ≤ r2) : ∀ {K : List Nat}, zLow r K → zLow r2 K
  | [], _ => trivial
  | s :: _, q => Nat.lt_of_lt_of_le (show zRank s < r from q) h
theorem zUw_low {r : Nat} : ∀ {K : List Nat} {O : List Int32}, zLow r K → zUw r K O = (K, O)
  | [], _, _ => rfl
  | s :: K, O, h => by
    unfold zUw
    rw [if_neg (Nat.not_le.mpr h)]
theorem zUw_top {r s : Nat} {K : List Nat} {O : List Int32} (h : r ≤ zRank s) : zUw r (s :: K) O = zUw r K (O ++ [zCo s]) := by
  show (if r ≤ zRank s then _ else _) = _
  rw [if_pos h]
theorem zRank_le (s : Nat) : zRank s ≤ 7 := by unfold zRank; grind
def zThr (t : Int32) : Nat := if t = 59 ∨ t = 41 then 1 else if zSg t = 0 then 0 else if zRank (zSg t) = 4 then 5 else zRank (zSg t)
section Steps
variable {B : Nat → Int32} {n i : Nat} {K : List Nat} {O : List Int32} {mn : Bool} {r : zYr}
theorem zR_val (h0 : 0 ≤ (zTk B n i).1) (h1 : (zTk B n i).1 ≤ 6) (h : zV B n (zTk B n i).2.2.2 K (O ++ [if (zTk B n i).1 = 0 then (zTk B n i).2.1 else -(zTk B n i).1]) r) : zR B n i K O mn r :=
  zYd_go (by unfold zYs1; dsimp only; rw [if_pos rfl, if_pos ⟨h0, h1⟩]) h
theorem zR_neg (ht : (zTk B n i).1 = 45) (ho : ¬ zOp K = 5) (h : zR B n (zTk B n i).2.2.2 (19 :: K) O false r) : zR B n i K O mn r :=
  zYd_go (by unfold zYs1; dsimp only; rw [if_pos rfl, ht, if_neg (by decide), if_neg (fun z => absurd z.1 (by decide)), if_pos rfl, if_neg ho]) h
theorem zR_par (ht : (zTk B n i).1 = 40) (ho : ¬ zOp K = 5) (h : zR B n (zTk B n i).2.2.2 (0 :: K) O true r) : zR B n i K O mn r :=
  zYd_go (by unfold zYs1; dsimp only; rw [if_pos rfl, ht, if_neg (by decide), if_neg (fun z => absurd z.1 (by decide)), if_neg (by decide), if_pos rfl, if_neg ho]) h
theorem zR_not (ht : (zTk B n i).1 = 12) (ho : ¬ zOp K = 5) (h : zR B n (zTk B n i).2.2.2 (13 :: K) O true r) : zR B n i K O true r :=
  zYd_go (by unfold zYs1; dsimp only; rw [if_pos rfl, ht, if_neg (by decide), if_pos ⟨rfl, rfl⟩, if_neg ho]) h
theorem zR_full (ht : (zTk B n i).1 = 45 ∨ (zTk B n i).1 = 40) (ho : zOp K = 5) : zR B n i K O mn (.inl (zTk B n i).2.2.1) :=
  zYd_end (by
    unfold zYs1
    dsimp only
    rcases ht with ht | ht
    · rw [if_pos rfl, ht, if_neg (by decide), if_neg (fun z => absurd z.1 (by decide)), if_pos rfl, if_pos ho]
    · rw [if_pos rfl, ht, if_neg (by decide), if_neg (fun z => absurd z.1 (by decide)), if_neg (by decide), if_pos rfl, if_pos ho])
theorem zR_fulln (ht : (zTk B n i).1 = 12) (ho : zOp K = 5) : zR B n i K O true (.inl (zTk B n i).2.2.1) :=
  zYd_end (by unfold zYs1; dsimp only; rw [if_pos rfl, ht, if_neg (by decide), if_pos ⟨rfl, rfl⟩, if_pos ho])
theorem zR_bad (h0 : ¬ (0 ≤ (zTk B n i).1 ∧ (zTk B n i).1 ≤ 6)) (h1 : ¬ (zTk B n i).1 = 45) (h2 : ¬ (zTk B n i).1 = 40) (h3 : (zTk B n i).1 = 12 → mn = false) : zR B n i K O mn (.inl (zTk B n i).2.2.1) :=
  zYd_end (by unfold zYs1; dsimp only; rw [if_pos rfl, if_neg h0, if_neg (fun z => by rw [h3 z.1] at z; exact absurd z.2 (by decide)), if_neg h1, if_neg h2])
theorem zA_bin {s : Nat} (hs : zSg (zTk B n i).1 = s) (h0 : ¬ s = 0) (h4 : ¬ zRank s = 4) (hl : zLow (zRank s) K) (h : zR B n (zTk B n i).2.2.2 (s :: K) O (decide (s ≤ 12)) r) : zA B n i K O r :=
  zYd_go (by
    have n1 : ¬ (zTk B n i).1 = 59 := fun z => h0 (by rw [← hs, z]; decide)
    have n2 : ¬ (zTk B n i).1 = 41 := fun z => h0 (by rw [← hs, z]; decide)
    unfold zYs1
    dsimp only
    rw [if_neg (by decide), if_neg n1, if_neg n2, hs, if_neg h0, if_neg h4, zUw_low hl]) h
theorem zA_cmp {s : Nat} (hs : zSg (zTk B n i).1 = s) (h4 : zRank s = 4) (hl : zLow 4 K) (h : zR B n (zTk B n i).2.2.2 (s :: K) O false r) : zA B n i K O r :=
  zYd_go (by
    have h0 : ¬ s = 0 := fun z => by rw [z] at h4; exact absurd h4 (by decide)
    have n1 : ¬ (zTk B n i).1 = 59 := fun z => h0 (by rw [← hs, z]; decide)
    have n2 : ¬ (zTk B n i).1 = 41 := fun z => h0 (by rw [← hs, z]; decide)
    unfold zYs1
    dsimp only
    rw [if_neg (by decide), if_neg n1, if_neg n2, hs, if_neg h0, if_pos h4, zUw_low (zLow_mono (by decide) hl), if_neg]
    cases K with
    | nil => exact fun z => by cases z
    | cons a K =>
      have : ¬ zRank a = 4 := fun z => by have : zRank a < 4 := hl; omega
      simp [zHd4, this]) h
theorem zA_cmp2 {s : Nat} (hs : zRank (zSg (zTk B n i).1) = 4) (h4 : zRank s = 4) : zA B n i (s :: K) O (.inl (zTk B n i).2.2.1) :=
  zYd_end (by
    have h0 : ¬ zSg (zTk B n i).1 = 0 := fun z => by rw [z] at hs; exact absurd hs (by decide)
    have n1 : ¬ (zTk B n i).1 = 59 := fun z => h0 (by rw [z]; decide)
    have n2 : ¬ (zTk B n i).1 = 41 := fun z => h0 (by rw [z]; decide)
    unfold zYs1
    dsimp only
    rw [if_neg (by decide), if_neg n1, if_neg n2, if_neg h0, if_pos hs, zUw_low (show zLow 5 (s :: K) from show zRank s < 5 by omega), if_pos]
    simp [zHd4, h4])
theorem zA_par (ht : (zTk B n i).1 = 41) (h : zV B n (zTk B n i).2.2.2 K O r) : zA B n i (0 :: K) O r :=
  zYd_go (by
    unfold zYs1
    dsimp only
    rw [if_neg (by decide), ht, if_neg (by decide), if_pos rfl, zUw_low (show zLow 1 (0 :: K) from show zRank 0 < 1 by decide)]) h
theorem zA_semi (ht : (zTk B n i).1 = 59) : zA B n i [] O (.inr ((zTk B n i).2.2.2, O)) :=
  zYd_end (by
    unfold zYs1
    dsimp only
    rw [if_neg (by decide), ht, if_pos rfl]
    rfl)
theorem zA_top (h1 : ¬ (zTk B n i).1 = 59) (h2 : zSg (zTk B n i).1 = 0) : zA B n i [] O (.inl (zTk B n i).2.2.1) :=
  zYd_end (by
    unfold zYs1
    dsimp only
    rw [if_neg (by decide), if_neg h1, if_pos h2]
    split
    · rfl
    · rfl)
theorem zA_nopar (h1 : ¬ (zTk B n i).1 = 41) (h2 : zSg (zTk B n i).1 = 0) : zA B n i (0 :: K) O (.inl (zTk B n i).2.2.1) :=
  zYd_end (by
    unfold zYs1
    dsimp only
    rw [if_neg (by decide), if_neg h1, if_pos h2, zUw_low (show zLow 1 (0 :: K) from show zRank 0 < 1 by decide)]
    split
    · rfl
    · rfl)
/-- a sign that waits would come now -/
theorem zA_col {s : Nat} (ht : zThr (zTk B n i).1 ≤ zRank s) (h0 : 1 ≤ zRank s) (h : zA B n i K (O ++ [zCo s]) r) : zA B n i (s :: K) O r :=
  zYd_eq (by
    unfold zYs1
    dsimp only
    rw [if_neg (show ¬ (false : Bool) = true by decide), if_neg (show ¬ (false : Bool) = true by decide)]
    rw [zUw_top (K := K) (O := O) h0]
    by_cases c1 : (zTk B n i).1 = 59
    · rw [if_pos c1, if_pos c1]
    rw [if_neg c1, if_neg c1]
    by_cases c2 : (zTk B n i).1 = 41
    · rw [if_pos c2, if_pos c2]
    rw [if_neg c2, if_neg c2]
    by_cases c3 : zSg (zTk B n i).1 = 0
    · rw [if_pos c3, if_pos c3]
    rw [if_neg c3, if_neg c3]
    unfold zThr at ht
    rw [if_neg (fun z => z.elim c1 c2), if_neg c3] at ht
    by_cases c4 : zRank (zSg (zTk B n i).1) = 4
    · rw [if_pos c4] at ht
      rw [if_pos c4, if_pos c4, zUw_top (K := K) (O := O) ht]
    · rw [if_neg c4] at ht
      rw [if_neg c4, if_neg c4, zUw_top (K := K) (O := O) ht]) h
end Steps
end
section
/-! what the parts of a text's reading say *)
-/
def zPut : (Nat → Int32) → Nat → List Int32 → (Nat → Int32)
  | f, _, [] => f
  | f, d, c :: r => zPut (upd f d c) (d + 1) r
theorem zPut_app : ∀ (C C2 : List Int32) (f : Nat → Int32) (d : Nat), zPut f d (C ++ C2) = zPut (zPut f d C) (d + C.length) C2
  | [], C2, f, d => rfl
  | c :: r, C2, f, d => by
    show zPut (upd f d c) (d + 1) (r ++ C2) = _
    rw [zPut_app r C2, List.length_cons, show d + (r.length + 1) = d + 1 + r.length by omega]
    rfl
theorem zPut_lo : ∀ (C : List Int32) (f : Nat → Int32) (d j : Nat), j < d ∨ d + C.length ≤ j → zPut f d C j = f j
  | [], f, d, j, _ => rfl
  | c :: r, f, d, j, h => by
    show zPut (upd f d c) (d + 1) r j = f j
    rw [List.length_cons] at h
    rw [zPut_lo r _ _ _ (by omega), upd_ne _ _ (by omega)]
theorem zPut_in : ∀ (C : List Int32) (f : Nat → Int32) (d j : Nat) (x : Int32), C[j]? = some x → zPut f d C (d + j) = x
  | [], f, d, j, x, h => by cases h
  | c :: r, f, d, 0, x, h => by
    show zPut (upd f d c) (d + 1) r (d + 0) = x
    rw [zPut_lo r _ _ _ (by omega), Nat.add_zero, upd_eq]
    exact Option.some.inj h
  | c :: r, f, d, j + 1, x, h => by
    show zPut (upd f d c) (d + 1) r (d + (j + 1)) = x
    rw [show d + (j + 1) = d + 1 + j by omega]
    exact zPut_in r _ _ _ _ h
theorem zTk_b (B : Nat → Int32) {n i : Nat} (hi : i ≤ n) : i ≤ (zTk B n i).2.2.1 ∧ (zTk B n i).2.2.1 < (zTk B n i).2.2.2 ∧ (zTk B n i).2.2.1 ≤ n ∧ (n ≤ (zTk B n i).2.2.1 → (zTk B n i).1 = -1) ∧ (¬ (zTk B n i).1 = -1 → (zTk B n i).2.2.1 < n ∧ (zTk B n i).2.2.2 ≤ n) := by
  have h1 := zRun_ge zbS B (n - i) i
  have h2 : zRun zbS B (n - i) i ≤ n := zRun_lt hi
  unfold zTk
  dsimp only
  generalize hp : zRun zbS B (n - i) i = pl at h1 h2
  have g1 := zRun_ge zbL B (n - (pl + 1)) (pl + 1)
  have g2 := zRun_ge zbD B (n - (pl + 1)) (pl + 1)
  split
  · rename_i c
    exact ⟨h1, Nat.lt_succ_self _, h2, fun _ => rfl, fun z => absurd rfl z⟩
  · rename_i c
    have g3 : zRun zbL B (n - (pl + 1)) (pl + 1) ≤ n := zRun_lt (by omega)
    have g4 : zRun zbD B (n - (pl + 1)) (pl + 1) ≤ n := zRun_lt (by omega)
    split
    · exact ⟨h1, by dsimp only; omega, h2, fun z => absurd z c, fun _ => ⟨by dsimp only; omega, g3⟩⟩
    · split
      · exact ⟨h1, by dsimp only; omega, h2, fun z => absurd z c, fun _ => ⟨by dsimp only; omega, g4⟩⟩
      · exact ⟨h1, by dsimp only; omega, h2, fun z => absurd z c, fun _ => ⟨by dsimp only; omega, by dsimp only; omega⟩⟩
/-- before a part -/
def zPp (M : ab_M) (n w i dn : Nat) : Prop := zTp M n ∧ M 3 2 = nI w ∧ w < 6 ∧ zLa (M 4) (M 34) n i ∧ i ≤ n ∧ M 4 7 = nI dn ∧ w * 160 ≤ dn ∧ dn ≤ w * 160 + i
/-- behind it: codes came -/
def zPf (M M2 : ab_M) (n dn i2 : Nat) (C : List Int32) : Prop := (∀ c, c ≠ 4 → c ≠ 31 → M2 c = M c) ∧ M2 4 2 = M 4 2 ∧ zLa (M2 4) (M 34) n i2 ∧ i2 ≤ n ∧ M2 4 7 = nI (dn + C.length) ∧ M2 31 = zPut (M 31) dn C
theorem zPf_rf {M : ab_M} {n w i dn : Nat} (h : zPp M n w i dn) : zPf M M n dn i [] := ⟨fun _ _ _ => rfl, rfl, h.2.2.2.1, h.2.2.2.2.1, h.2.2.2.2.2.1, rfl⟩
theorem zPp_of {M M2 : ab_M} {n w i dn i2 : Nat} {C : List Int32} (h : zPp M n w i dn) (g : zPf M M2 n dn i2 C) (hl : i + C.length ≤ i2) : zPp M2 n w i2 (dn + C.length) := by
  obtain ⟨⟨h1, h2, h3⟩, h4, h5, h6, h7, h8, h9, h10⟩ := h
  obtain ⟨g1, g2, g3, g4, g5, g6⟩ := g
  have e34 : M2 34 = M 34 := g1 34 (by decide) (by decide)
  refine ⟨⟨h1, by rw [g2, h2], by rw [e34]; exact h3⟩, by rw [g1 3 (by decide) (by decide), h4], h5, by rw [e34]; exact g3, g4, g5, by omega, by omega⟩
theorem zPf_tr {M M1 M2 : ab_M} {n dn i1 i2 : Nat} {C1 C2 : List Int32} (g : zPf M M1 n dn i1 C1) (h : zPf M1 M2 n (dn + C1.length) i2 C2) : zPf M M2 n dn i2 (C1 ++ C2) := by
  obtain ⟨g1, g2, g3, g4, g5, g6⟩ := g
  obtain ⟨h1, h2, h3, h4, h5, h6⟩ := h
  refine ⟨fun c a b => (h1 c a b).trans (g1 c a b), h2.trans g2, by rw [← g1 34 (by decide) (by decide)]; exact h3, h4, by rw [h5, List.length_append, Nat.add_assoc], by rw [h6, g6, zPut_app]⟩
theorem zPf_put {M M1 : ab_M} {n dn i1 : Nat} {C : List Int32} (g : zPf M M1 n dn i1 C) (hb : dn + C.length < 2 ^ 31) (c : Int32) : zPf M (ab_u (ab_u M1 31 (upd (M1 31) (M1 4 7).toNatClampNeg c)) 4 (upd (M1 4) 7 (M1 4 7 + 1))) n dn i1 (C ++ [c]) := by
  obtain ⟨g1, g2, g3, g4, g5, g6⟩ := g
  refine ⟨fun q a b => by rw [ab_u_ne _ _ a, ab_u_ne _ _ b]; exact g1 q a b, by rw [ab_u_eq, upd_ne _ _ (by decide), g2], ?_, g4, ?_, ?_⟩
  · obtain ⟨a1, a2, a3, a4⟩ := g3
    rw [ab_u_eq]
    exact ⟨by rw [upd_ne _ _ (by decide)]; exact a1, fun z => by rw [upd_ne _ _ (by decide)]; exact a2 z, by rw [upd_ne _ _ (by decide)]; exact a3, by rw [upd_ne _ _ (by decide)]; exact a4⟩
  · rw [ab_u_eq, upd_eq, g5, nI_1, List.length_append]
    rfl
  · rw [ab_u_ne _ _ (by decide), ab_u_eq, g5, nI_clamp hb, g6, zPut_app]
    rfl
theorem zPut_call {M M1 : ab_M} {N : ab_N} {k : ab_R} {n w i dn i1 : Nat} {C : List Int32} {c : Int32} (h : zPp M n w i dn) (g : zPf M M1 n dn i1 C) (hb : dn + C.length < (w + 1) * 160) (hk : ∀ M2, zPf M M2 n dn i1 (C ++ [c]) → k none M2 N) : zt_X8_put [.ref 4, .int c] M1 N k := by
  refine ab_m1_i ⟨w, dn + C.length, h.2.2.1, by rw [g.1 3 (by decide) (by decide), h.2.1], hb, g.2.2.2.2.1⟩ ?_
  rintro o M2 N2 ⟨rfl, rfl, rfl⟩
  exact hk _ (zPf_put g (by have := h.2.2.1; omega) c)
theorem zAdv_call {M M1 : ab_M} {N : ab_N} {k : ab_R} {n w i dn i1 : Nat} {C : List Int32} (h : zPp M n w i dn) (g : zPf M M1 n dn i1 C) (ht : ¬ (zTk (M 34) n i1).1 = -1) (hk : ∀ M2, zPf M M2 n dn (zTk (M 34) n i1).2.2.2 C → k none M2 N) : zt_X8_advance [.ref 4] M1 N k := by
  obtain ⟨g1, g2, g3, g4, g5, g6⟩ := g
  obtain ⟨⟨h1, h2, h3⟩, -⟩ := h
  have e34 : M1 34 = M 34 := g1 34 (by decide) (by decide)
  obtain ⟨b1, b2, b3, b4, b5⟩ := zTk_b (M 34) g4
  refine ab_m0_i ⟨n, _, ⟨h1, by rw [g2, h2], by rw [e34]; exact h3⟩, (b5 ht).2, g3.2.2.2⟩ ?_
  rintro o M2 N2 ⟨rfl, rfl, f, rfl, f2, f7, hf⟩
  refine hk _ ⟨fun c a b => by rw [ab_u_ne _ _ a]; exact g1 c a b, by rw [ab_u_eq, f2, g2], ?_, (b5 ht).2, by rw [ab_u_eq, f7, g5], by rw [ab_u_ne _ _ (by decide), g6]⟩
  have := hf n _ h1 (b5 ht).2 (by rw [g2, h2]) g3.2.2.2
  rw [e34] at this
  rw [ab_u_eq]
  exact this
/-- what a part says of the yard -/
def zCnd (r : Nat) (nt : Bool) (B : Nat → Int32) (n o i : Nat) (K : List Nat) (mn : Bool) : Prop := zLow r K ∧ zOp K = o ∧ (nt = true → mn = true) ∧ (nt = false → (zTk B n i).1 = 12 → mn = false)
def zGood (r : Nat) (nt : Bool) (B : Nat → Int32) (n o i i2 : Nat) (C : List Int32) : Prop := ∀ (K : List Nat) (O : List Int32) (mn : Bool), zCnd r nt B n o i K mn → ∀ res : zYr, zV B n i2 K (O ++ C) res → zR B n i K O mn res
def zBad (r : Nat) (nt : Bool) (B : Nat → Int32) (n o i i2 : Nat) : Prop := ∀ (K : List Nat) (O : List Int32) (mn : Bool), zCnd r nt B n o i K mn → zR B n i K O mn (.inl (zTk B n i2).2.2.1)
def zCm (t : Int32) : Prop := t = 60 ∨ t = 61
def zPost (r : Nat) (nt isC : Bool) (ex : List Int32) (B : Nat → Int32) (n o i i2 : Nat) (C : List Int32) (b : Int32) : Prop := i + C.length ≤ i2 ∧ ((b = 1 ∧ (zTk B n i2).1 ∉ ex ∧ (isC = true → zCm (zTk B n i2).1 → zBad r nt B n o i i2) ∧ ((isC = true → ¬ zCm (zTk B n i2).1) → zGood r nt B n o i i2 C)) ∨ (b = 0 ∧ zBad r nt B n o i i2))
def zt_P (r : Nat) (nt isC : Bool) (ex : List Int32) (e : Nat) : ab_T := fun as M N k => match as with
  | [.ref q, .int op] => q = 4 ∧ ∃ n w i dn o : Nat, op = nI o ∧ o ≤ 5 ∧ o + e = 6 ∧ zPp M n w i dn ∧ ∀ (b : Int32) (M2 : ab_M) (i2 : Nat) (C : List Int32), zPf M M2 n dn i2 C → zPost r nt isC ex (M 34) n o i i2 C b → k (some (.int b)) M2 N
  | _ => False
theorem zt_P_e {r : Nat} {nt isC : Bool} {ex : List Int32} {e : Nat} {as : List Value} {M : ab_M} {N : ab_N} {k : ab_R} (h : zt_P r nt isC ex e as M N k) : ∃ n w i dn o : Nat, as = [.ref 4, .int (nI o)] ∧ o ≤ 5 ∧ o + e = 6 ∧ zPp M n w i dn ∧ ∀ (b : Int32) (M2 : ab_M) (i2 : Nat) (C : List Int32), zPf M M2 n dn i2 C → zPost r nt isC ex (M 34) n o i i2 C b → k (some (.int b)) M2 N := by
  unfold zt_P at h
  split at h
  · obtain ⟨rfl, n, w, i, dn, o, rfl, h⟩ := h
    exact ⟨n, w, i, dn, o, rfl, h⟩
  · exact h.elim
theorem zt_P_mono (r : Nat) (nt isC : Bool) (ex : List Int32) (e : Nat) : ab_mono (zt_P r nt isC ex e) := fun as M N k k2 hk h => by
  unfold zt_P at h ⊢
  split at h
  · obtain ⟨a, n, w, i, dn, o, b, c, d, f, g⟩ := h
    exact ⟨a, n, w, i, dn, o, b, c, d, f, fun x M2 i2 C p q => hk _ _ _ (g x M2 i2 C p q)⟩
  · exact h
theorem zt_P_v (r : Nat) (nt isC : Bool) (ex : List Int32) (e : Nat) : ab_recv zw_C vwCl RX8 (zt_P r nt isC ex e) := fun as M N k h => by
  obtain ⟨n, w, i, dn, o, rfl, -⟩ := zt_P_e h
  exact ⟨_, _, _, _, _, _, rfl, rfl, rfl⟩
theorem zP_call {M M1 : ab_M} {N : ab_N} {k : ab_R} {n w i dn i1 o e r : Nat} {nt isC : Bool} {ex : List Int32} {C : List Int32} {op : Int32} (h : zPp M n w i dn) (g : zPf M M1 n dn i1 C) (hl : i + C.length ≤ i1) (ho : o ≤ 5) (he : o + e = 6) (hop : op = nI o) (hk : ∀ (b : Int32) (M2 : ab_M) (i2 : Nat) (C2 : List Int32), zPf M M2 n dn i2 (C ++ C2) → zPost r nt isC ex (M 34) n o i1 i2 C2 b → k (some (.int b)) M2 N) : zt_P r nt isC ex e [.ref 4, .int op] M1 N k := by
  refine ⟨rfl, n, w, i1, dn + C.length, o, hop, ho, he, zPp_of h g hl, fun b M2 i2 C2 g2 hp => hk b M2 i2 C2 (zPf_tr g g2) ?_⟩
  rw [g.1 34 (by decide) (by decide)] at hp
  exact hp
section PurePost
variable {B : Nat → Int32} {n o : Nat}
theorem zPost_b {r i i2 : Nat} {nt isC : Bool} {ex : List Int32} {C : List Int32} {b : Int32} (h : zPost r nt isC ex B n o i i2 C b) : b = 1 ∨ b = 0 := h.2.elim (fun z => Or.inl z.1) (fun z => Or.inr z.1)
theorem zCnd_weak {r r2 i : Nat} {nt : Bool} {K : List Nat} {mn : Bool} (hr : r ≤ r2) (h : zCnd r nt B n o i K mn) : zCnd r2 nt B n o i K mn := ⟨zLow_mono hr h.1, h.2⟩
theorem zPost_weak {r r2 i i2 : Nat} {nt isC : Bool} {ex : List Int32} {C : List Int32} {b : Int32} (hr : r ≤ r2) (h : zPost r2 nt isC ex B n o i i2 C b) : zPost r nt isC ex B n o i i2 C b :=
  ⟨h.1, h.2.elim (fun ⟨a, b2, c, d⟩ => Or.inl ⟨a, b2, fun z z2 K O mn q => c z z2 K O mn (zCnd_weak hr q), fun z K O mn q => d z K O mn (zCnd_weak hr q)⟩) (fun ⟨a, c⟩ => Or.inr ⟨a, fun K O mn q => c K O mn (zCnd_weak hr q)⟩)⟩
theorem zCm_rank {t : Int32} (h : zCm t) : zRank (zSg t) = 4 := by
  rcases h with rfl | rfl <;> decide
theorem zV_low {i : Nat} {K : List Nat} {O : List Int32} {r : zYr} (hl : zLow 7 K) (h : zA B n i K O r) : zV B n i K O r := by
  show zYd B n (false, false, i, zUw 7 K O) r
  rw [zUw_low hl]
  exact h
theorem zA_low {i : Nat} {K : List Nat} {O : List Int32} {r : zYr} (hl : zLow 7 K) (h : zV B n i K O r) : zA B n i K O r := by
  have h2 : zYd B n (false, false, i, zUw 7 K O) r := h
  rw [zUw_low hl] at h2
  exact h2
/-- a sign between two, and what stands behind it -/
theorem zPost_bin {r r2 i i1 i2 s : Nat} {nt nt2 isC : Bool} {ex : List Int32} {C C2 : List Int32} {b : Int32} (h1 : zPost r nt isC ex B n o i i1 C 1) (hs : zSg (zTk B n i1).1 = s) (s0 : ¬ s = 0) (s13 : ¬ s = 13) (s19 : ¬ s = 19) (sr : zRank s = r) (r4 : ¬ r = 4) (r7 : r < 7) (r0 : 1 ≤ r) (hr : r < r2) (hnt : nt2 = decide (s ≤ 12)) (hi1 : i1 ≤ n)
    (hthr : ∀ t, t ∉ ex → (isC = true → ¬ zCm t) → zThr t ≤ r) (h2 : zPost r2 nt2 isC ex B n o (zTk B n i1).2.2.2 i2 C2 b) : zPost r nt isC ex B n o i i2 (C ++ C2 ++ [zCo s]) b := by
  obtain ⟨l1, h1⟩ := h1
  obtain ⟨l2, h2⟩ := h2
  obtain ⟨b1, b2, -⟩ := zTk_b B hi1
  have ncm : ¬ zCm (zTk B n i1).1 := fun z => r4 (by rw [← sr, ← hs, zCm_rank z])
  have G1 : zGood r nt B n o i i1 C := by
    rcases h1 with ⟨-, -, -, h⟩ | ⟨h, -⟩
    · exact h (fun _ => ncm)
    · exact absurd h (by decide)
  have cn : ∀ (K : List Nat) (mn : Bool), zCnd r nt B n o i K mn → zCnd r2 nt2 B n o (zTk B n i1).2.2.2 (s :: K) (decide (s ≤ 12)) := fun K mn q => ⟨show zRank s < r2 by omega, by
    show (if s = 0 ∨ s = 13 ∨ s = 19 then 1 else 0) + zOp K = o
    rw [if_neg (by omega), Nat.zero_add]
    exact q.2.1, fun z => by rw [← hnt, z], fun z _ => by rw [← hnt, z]⟩
  have st : ∀ (K : List Nat) (O : List Int32) (mn : Bool), zCnd r nt B n o i K mn → ∀ res : zYr, zR B n (zTk B n i1).2.2.2 (s :: K) (O ++ C) (decide (s ≤ 12)) res → zR B n i K O mn res := fun K O mn q res z =>
    G1 K O mn q res (zV_low (zLow_mono (by omega) q.1) (zA_bin hs s0 (by omega) (by rw [sr]; exact q.1) z))
  refine ⟨by rw [List.length_append, List.length_append, List.length_cons, List.length_nil]; omega, ?_⟩
  rcases h2 with ⟨rfl, hx, hc, hg⟩ | ⟨rfl, hb⟩
  · refine Or.inl ⟨rfl, hx, fun z z2 K O mn q => st K O mn q _ (hc z z2 _ _ _ (cn K mn q)), fun z K O mn q res hv => st K O mn q _ (hg z _ _ _ (cn K mn q) _ (zV_low (show zRank s < 7 by omega) (zA_col (by rw [sr]; exact hthr _ hx z) (by omega) ?_)))⟩
    have hv2 := zA_low (zLow_mono (by omega) q.1) hv
    rw [← List.append_assoc, ← List.append_assoc] at hv2
    exact hv2
  · exact Or.inr ⟨rfl, fun K O mn q => st K O mn q _ (hb _ _ _ (cn K mn q))⟩
theorem zPost_ex {r i i2 : Nat} {nt isC : Bool} {ex ex2 : List Int32} {C : List Int32} {b : Int32} (h : zPost r nt isC ex B n o i i2 C b) (hx : b = 1 → (zTk B n i2).1 ∉ ex → (zTk B n i2).1 ∉ ex2) : zPost r nt isC ex2 B n o i i2 C b :=
  ⟨h.1, h.2.elim (fun ⟨a, b2, c, d⟩ => Or.inl ⟨a, hx a b2, c, d⟩) Or.inr⟩
end PurePost
end
section
/-! the parts of a text are read *)
-/
theorem zNb {b : Int32} (h : b = 1 ∨ b = 0) : narrow .boolean (.int b) = .int b := by
  rcases h with rfl | rfl
  · exact ab_n1
  · exact ab_n0
theorem zThr_c (t : Int32) : t = 10 ∨ t = 11 ∨ t = 60 ∨ t = 61 ∨ t = 43 ∨ t = 45 ∨ t = 42 ∨ zThr t ≤ 1 := by
  by_cases h1 : t = 10
  · exact Or.inl h1
  by_cases h2 : t = 11
  · exact Or.inr (Or.inl h2)
  by_cases h3 : t = 60
  · exact Or.inr (Or.inr (Or.inl h3))
  by_cases h4 : t = 61
  · exact Or.inr (Or.inr (Or.inr (Or.inl h4)))
  by_cases h5 : t = 43
  · exact Or.inr (Or.inr (Or.inr (Or.inr (Or.inl h5))))
  by_cases h6 : t = 45
  · exact Or.inr (Or.inr (Or.inr (Or.inr (Or.inr (Or.inl h6)))))
  by_cases h7 : t = 42
  · exact Or.inr (Or.inr (Or.inr (Or.inr (Or.inr (Or.inr (Or.inl h7))))))
  refine Or.inr (Or.inr (Or.inr (Or.inr (Or.inr (Or.inr (Or.inr ?_))))))
  unfold zThr zSg
  rw [if_neg h1, if_neg h2, if_neg h3, if_neg h4, if_neg h5, if_neg h6, if_neg h7]
  split
  · exact Nat.le_refl _
  · exact Nat.zero_le _
theorem zThr_6 (t : Int32) : zThr t ≤ 6 := by
  rcases zThr_c t with rfl | rfl | rfl | rfl | rfl | rfl | rfl | h
  all_goals first | decide | omega
theorem zThr_5 (t : Int32) (h0 : ¬ t = 42) : zThr t ≤ 5 := by
  rcases zThr_c t with rfl | rfl | rfl | rfl | rfl | rfl | rfl | h
  all_goals first | decide | omega | exact absurd rfl h0
def zt_X8_one (e : Nat) : ab_T := zt_P 8 false false [] e
theorem zt_X8_one_mono (e : Nat) : ab_mono (zt_X8_one e) := zt_P_mono _ _ _ _ _
theorem zV_X8_one (e : Nat) : ab_recv zw_C vwCl RX8 (zt_X8_one e) := zt_P_v _ _ _ _ _
def zt_X8_term (e : Nat) : ab_T := zt_P 6 false false [42] e
theorem zt_X8_term_mono (e : Nat) : ab_mono (zt_X8_term e) := zt_P_mono _ _ _ _ _
theorem zV_X8_term (e : Nat) : ab_recv zw_C vwCl RX8 (zt_X8_term e) := zt_P_v _ _ _ _ _
def zt_X8_sum (e : Nat) : ab_T := zt_P 5 false false [42, 43, 45] e
theorem zt_X8_sum_mono (e : Nat) : ab_mono (zt_X8_sum e) := zt_P_mono _ _ _ _ _
theorem zV_X8_sum (e : Nat) : ab_recv zw_C vwCl RX8 (zt_X8_sum e) := zt_P_v _ _ _ _ _
def zt_X8_comparison (e : Nat) : ab_T := zt_P 4 false true [42, 43, 45] e
theorem zt_X8_comparison_mono (e : Nat) : ab_mono (zt_X8_comparison e) := zt_P_mono _ _ _ _ _
theorem zV_X8_comparison (e : Nat) : ab_recv zw_C vwCl RX8 (zt_X8_comparison e) := zt_P_v _ _ _ _ _
def zt_X8_negation (e : Nat) : ab_T := zt_P 4 true true [42, 43, 45] e
theorem zt_X8_negation_mono (e : Nat) : ab_mono (zt_X8_negation e) := zt_P_mono _ _ _ _ _
theorem zV_X8_negation (e : Nat) : ab_recv zw_C vwCl RX8 (zt_X8_negation e) := zt_P_v _ _ _ _ _
def zt_X8_both (e : Nat) : ab_T := zt_P 2 true true [42, 43, 45, 11] e
theorem zt_X8_both_mono (e : Nat) : ab_mono (zt_X8_both e) := zt_P_mono _ _ _ _ _
theorem zV_X8_both (e : Nat) : ab_recv zw_C vwCl RX8 (zt_X8_both e) := zt_P_v _ _ _ _ _
def zt_X8_either (e : Nat) : ab_T := zt_P 1 true true [42, 43, 45, 11, 10] e
theorem zt_X8_either_mono (e : Nat) : ab_mono (zt_X8_either e) := zt_P_mono _ _ _ _ _
theorem zV_X8_either (e : Nat) : ab_recv zw_C vwCl RX8 (zt_X8_either e) := zt_P_v _ _ _ _ _
def zp_X8_one : ab_P := [(0, .aload_n 0, 1, [0], []),
  (1, .getfield 37, 4, [], []),
  (4, .ifCond .lt 41, 7, [45], []),
  (7, .aload_n 0, 8, [0], []),
  (8, .getfield 37, 11, [], []),
  (11, .bipush 6, 13, [], [6]),
  (13, .if_icmp .gt 32, 16, [45], []),
  (16, .aload_n 0, 17, [0], []),
  (17, .aload_n 0, 18, [0], []),
  (18, .getfield 37, 21, [], []),
  (21, .ifCond .ne 10, 24, [31], []),
  (24, .aload_n 0, 25, [0], []),
  (25, .getfield 72, 28, [], []),
  (28, .goto 8, 31, [36], []),
  (31, .aload_n 0, 32, [0], []),
  (32, .getfield 37, 35, [], []),
  (35, .ineg, 36, [], []),
  (36, .invokevirtual 53, 39, [], []),
  (39, .aload_n 0, 40, [0], []),
  (40, .invokevirtual 34, 43, [], []),
  (43, .iconst 1, 44, [], [1]),
  (44, .ireturn, 45, [], []),
  (45, .aload_n 0, 46, [0], []),
  (46, .getfield 37, 49, [], []),
  (49, .bipush 45, 51, [], [45]),
  (51, .if_icmp .eq 12, 54, [63], []),
  (54, .aload_n 0, 55, [0], []),
  (55, .getfield 37, 58, [], []),
  (58, .bipush 40, 60, [], [40]),
  (60, .if_icmp .ne 8, 63, [68], []),
  (63, .iload_n 1, 64, [1], []),
  (64, .iconst 5, 65, [], [5]),
  (65, .if_icmp .lt 5, 68, [70], []),
  (68, .iconst 0, 69, [], [0]),
  (69, .ireturn, 70, [], []),
  (70, .aload_n 0, 71, [0], []),
  (71, .getfield 37, 74, [], []),
  (74, .bipush 45, 76, [], [45]),
  (76, .if_icmp .ne 7, 79, [83], []),
  (79, .iconst 1, 80, [], [1]),
  (80, .goto 4, 83, [84], []),
  (83, .iconst 0, 84, [], [0]),
  (84, .istore_n 2, 85, [2], []),
  (85, .aload_n 0, 86, [0], []),
  (86, .invokevirtual 34, 89, [], []),
  (89, .iload_n 2, 90, [2], []),
  (90, .ifCond .eq 19, 93, [109], []),
  (93, .aload_n 0, 94, [0], []),
  (94, .iload_n 1, 95, [1], []),
  (95, .iconst 1, 96, [], [1]),
  (96, .iadd, 97, [], []),
  (97, .invokevirtual 69, 100, [], []),
  (100, .istore_n 3, 101, [3], []),
  (101, .aload_n 0, 102, [0], []),
  (102, .bipush (-8), 104, [], [(-8)]),
  (104, .invokevirtual 53, 107, [], []),
  (107, .iload_n 3, 108, [3], []),
  (108, .ireturn, 109, [], []),
  (109, .aload_n 0, 110, [0], []),
  (110, .iload_n 1, 111, [1], []),
  (111, .iconst 1, 112, [], [1]),
  (112, .iadd, 113, [], []),
  (113, .invokevirtual 43, 116, [], []),
  (116, .ifCond .eq 12, 119, [128], []),
  (119, .aload_n 0, 120, [0], []),
  (120, .getfield 37, 123, [], []),
  (123, .bipush 41, 125, [], [41]),
  (125, .if_icmp .eq 5, 128, [130], []),
  (128, .iconst 0, 129, [], [0]),
  (129, .ireturn, 130, [], []),
  (130, .aload_n 0, 131, [0], []),
  (131, .invokevirtual 34, 134, [], []),
  (134, .iconst 1, 135, [], [1]),
  (135, .ireturn, 136, [], [])]
theorem zo_X8_one : ab_ok cX8_one zp_X8_one = true := by decide +kernel
def zg_X8_one (e : Nat) : ab_G := (zw_C, zs_tab, zf_X8, zc_X8, [], [(34, 1, zt_X8_advance), (43, 2, zt_X8_either e), (53, 2, zt_X8_put), (69, 2, zt_X8_one e)], [])
theorem zm_X8_one (e : Nat) : ab_MG (zg_X8_one e) := ab_MGof (List.forall_mem_cons.mpr ⟨zt_X8_advance_mono, List.forall_mem_cons.mpr ⟨zt_X8_either_mono _, List.forall_mem_cons.mpr ⟨zt_X8_put_mono, List.forall_mem_cons.mpr ⟨zt_X8_one_mono _, List.forall_mem_nil _⟩⟩⟩⟩) (List.forall_mem_nil _)
abbrev zr_X8_one (e : Nat) (Q : ab_R) : ab_K := ab_Run (zg_X8_one e) zp_X8_one (some .boolean) 4 Q
set_option maxRecDepth 20000 in
theorem zv_X8_one_0 {e : Nat} {Q : ab_R} {M : ab_M} {N : ab_N} (l1 : Int32) (h : ((M 4 3) < 0 → ((M 4 3) = (45 : Int32) → zr_X8_one e Q 63 [some (.ref 4), some (.int l1), none, none] [] M N) ∧ (¬ ((M 4 3) = (45 : Int32)) → ((M 4 3) = (40 : Int32) → zr_X8_one e Q 63 [some (.ref 4), some (.int l1), none, none] [] M N) ∧ (¬ ((M 4 3) = (40 : Int32)) → narrow .boolean (.int (0 : Int32)) = .int (0 : Int32) ∧ Q (some (.int (0 : Int32))) M N))) ∧ (¬ ((M 4 3) < 0) → ((6 : Int32) < (M 4 3) → ((M 4 3) = (45 : Int32) → zr_X8_one e Q 63 [some (.ref 4), some (.int l1), none, none] [] M N) ∧ (¬ ((M 4 3) = (45 : Int32)) → ((M 4 3) = (40 : Int32) → zr_X8_one e Q 63 [some (.ref 4), some (.int l1), none, none] [] M N) ∧ (¬ ((M 4 3) = (40 : Int32)) → narrow .boolean (.int (0 : Int32)) = .int (0 : Int32) ∧ Q (some (.int (0 : Int32))) M N))) ∧ (¬ ((6 : Int32) < (M 4 3)) → ((M 4 3) = 0 → zt_X8_put [.ref 4, .int (M 4 4)] M N (fun r M2 N2 => zr_X8_one e Q 39 [some (.ref 4), none, none, none] (ab_ol r []) M2 N2)) ∧ (¬ ((M 4 3) = 0) → zt_X8_put [.ref 4, .int (-(M 4 3))] M N (fun r M2 N2 => zr_X8_one e Q 39 [some (.ref 4), none, none, none] (ab_ol r []) M2 N2))))) : zr_X8_one e Q 0 [some (.ref 4), some (.int l1)] [] M N := ab_Run_s (zm_X8_one e) (sp := [(39, [true, false, false, false]), (43, [false, false, false, false]), (63, [true, true, false, false]), (89, [true, true, true, false]), (100, [true, false, false, false]), (107, [false, false, false, true]), (116, [true, false, false, false]), (134, [false, false, false, false])]) 76 h
set_option maxRecDepth 20000 in
theorem zv_X8_one_39 {e : Nat} {Q : ab_R} {M : ab_M} {N : ab_N}  (h : zt_X8_advance [.ref 4] M N (fun r M2 N2 => zr_X8_one e Q 43 [none, none, none, none] (ab_ol r []) M2 N2)) : zr_X8_one e Q 39 [some (.ref 4), none, none, none] [] M N := ab_Run_s (zm_X8_one e) (sp := [(39, [true, false, false, false]), (43, [false, false, false, false]), (63, [true, true, false, false]), (89, [true, true, true, false]), (100, [true, false, false, false]), (107, [false, false, false, true]), (116, [true, false, false, false]), (134, [false, false, false, false])]) 76 h
set_option maxRecDepth 20000 in
theorem zv_X8_one_43 {e : Nat} {Q : ab_R} {M : ab_M} {N : ab_N}  (h : narrow .boolean (.int (1 : Int32)) = .int (1 : Int32) ∧ Q (some (.int (1 : Int32))) M N) : zr_X8_one e Q 43 [none, none, none, none] [] M N := ab_Run_s (zm_X8_one e) (sp := [(39, [true, false, false, false]), (43, [false, false, false, false]), (63, [true, true, false, false]), (89, [true, true, true, false]), (100, [true, false, false, false]), (107, [false, false, false, true]), (116, [true, false, false, false]), (134, [false, false, false, false])]) 76 h
set_option maxRecDepth 20000 in
theorem zv_X8_one_63 {e : Nat} {Q : ab_R} {M : ab_M} {N : ab_N} (l1 : Int32) (h : (l1 < (5 : Int32) → ((M 4 3) = (45 : Int32) → zt_X8_advance [.ref 4] M N (fun r M2 N2 => zr_X8_one e Q 89 [some (.ref 4), some (.int l1), some (.int (1 : Int32)), none] (ab_ol r []) M2 N2)) ∧ (¬ ((M 4 3) = (45 : Int32)) → zt_X8_advance [.ref 4] M N (fun r M2 N2 => zr_X8_one e Q 89 [some (.ref 4), some (.int l1), some (.int (0 : Int32)), none] (ab_ol r []) M2 N2))) ∧ (¬ (l1 < (5 : Int32)) → narrow .boolean (.int (0 : Int32)) = .int (0 : Int32) ∧ Q (some (.int (0 : Int32))) M N)) : zr_X8_one e Q 63 [some (.ref 4), some (.int l1), none, none] [] M N := ab_Run_s (zm_X8_one e) (sp := [(39, [true, false, false, false]), (43, [false, false, false, false]), (63, [true, true, false, false]), (89, [true, true, true, false]), (100, [true, false, false, false]), (107, [false, false, false, true]), (116, [true, false, false, false]), (134, [false, false, false, false])]) 76 h
set_option maxRecDepth 20000 in
theorem zv_X8_one_89 {e : Nat} {Q : ab_R} {M : ab_M} {N : ab_N} (l1 : Int32) (l2 : Int32) (h : (l2 = 0 → zt_X8_either e [.ref 4, .int (l1 + (1 : Int32))] M N (fun r M2 N2 => zr_X8_one e Q 116 [some (.ref 4), none, none, none] (ab_ol r []) M2 N2)) ∧ (¬ (l2 = 0) → zt_X8_one e [.ref 4, .int (l1 + (1 : Int32))] M N (fun r M2 N2 => zr_X8_one e Q 100 [some (.ref 4), none, none, none] (ab_ol r []) M2 N2))) : zr_X8_one e Q 89 [some (.ref 4), some (.int l1), some (.int l2), none] [] M N := ab_Run_s (zm_X8_one e) (sp := [(39, [true, false, false, false]), (43, [false, false, false, false]), (63, [true, true, false, false]), (89, [true, true, true, false]), (100, [true, false, false, false]), (107, [false, false, false, true]), (116, [true, false, false, false]), (134, [false, false, false, false])]) 76 h
set_option maxRecDepth 20000 in
theorem zv_X8_one_100 {e : Nat} {Q : ab_R} {M : ab_M} {N : ab_N} (s0 : Int32) (h : zt_X8_put [.ref 4, .int (-8 : Int32)] M N (fun r M2 N2 => zr_X8_one e Q 107 [none, none, none, some (.int s0)] (ab_ol r []) M2 N2)) : zr_X8_one e Q 100 [some (.ref 4), none, none, none] [.int s0] M N := ab_Run_s (zm_X8_one e) (sp := [(39, [true, false, false, false]), (43, [false, false, false, false]), (63, [true, true, false, false]), (89, [true, true, true, false]), (100, [true, false, false, false]), (107, [false, false, false, true]), (116, [true, false, false, false]), (134, [false, false, false, false])]) 76 h
set_option maxRecDepth 20000 in
theorem zv_X8_one_107 {e : Nat} {Q : ab_R} {M : ab_M} {N : ab_N} (l3 : Int32) (h : narrow .boolean (.int l3) = .int l3 ∧ Q (some (.int l3)) M N) : zr_X8_one e Q 107 [none, none, none, some (.int l3)] [] M N := ab_Run_s (zm_X8_one e) (sp := [(39, [true, false, false, false]), (43, [false, false, false, false]), (63, [true, true, false, false]), (89, [true, true, true, false]), (100, [true, false, false, false]), (107, [false, false, false, true]), (116, [true, false, false, false]), (134, [false, false, false, false])]) 76 h
set_option maxRecDepth 20000 in
theorem zv_X8_one_116 {e : Nat} {Q : ab_R} {M : ab_M} {N : ab_N} (s0 : Int32) (h : (s0 = 0 → narrow .boolean (.int (0 : Int32)) = .int (0 : Int32) ∧ Q (some (.int (0 : Int32))) M N) ∧ (¬ (s0 = 0) → ((M 4 3) = (41 : Int32) → zt_X8_advance [.ref 4] M N (fun r M2 N2 => zr_X8_one e Q 134 [none, none, none, none] (ab_ol r []) M2 N2)) ∧ (¬ ((M 4 3) = (41 : Int32)) → narrow .boolean (.int (0 : Int32)) = .int (0 : Int32) ∧ Q (some (.int (0 : Int32))) M N))) : zr_X8_one e Q 116 [some (.ref 4), none, none, none] [.int s0] M N := ab_Run_s (zm_X8_one e) (sp := [(39, [true, false, false, false]), (43, [false, false, false, false]), (63, [true, true, false, false]), (89, [true, true, true, false]), (100, [true, false, false, false]), (107, [false, false, false, true]), (116, [true, false, false, false]), (134, [false, false, false, false])]) 76 h
set_option maxRecDepth 20000 in
theorem zv_X8_one_134 {e : Nat} {Q : ab_R} {M : ab_M} {N : ab_N}  (h : narrow .boolean (.int (1 : Int32)) = .int (1 : Int32) ∧ Q (some (.int (1 : Int32))) M N) : zr_X8_one e Q 134 [none, none, none, none] [] M N := ab_Run_s (zm_X8_one e) (sp := [(39, [true, false, false, false]), (43, [false, false, false, false]), (63, [true, true, false, false]), (89, [true, true, true, false]), (100, [true, false, false, false]), (107, [false, false, false, true]), (116, [true, false, false, false]), (134, [false, false, false, false])]) 76 h
theorem zE_X8_one (e : Nat) (as : List Value) (M : ab_M) (N : ab_N) (k : ab_R) (hT : zt_X8_one (e + 1) as M N k) : ab_cs as ≤ 4 ∧ zr_X8_one e k 0 (ab_en as) [] M N := by
  obtain ⟨n, w, i, dn, o, rfl, ho, he, hp, hk⟩ := zt_P_e hT
  have hi := hp.2.2.2.2.1
  have hn := hp.1.1
  have hdn := hp.2.2.2.2.2.2.2
  have g0 := zPf_rf hp
  obtain ⟨b1, b2, b3, b4, b5⟩ := zTk_b (M 34) hi
  obtain ⟨a1, a2, a3, a4⟩ := hp.2.2.2.1
  have no : ∀ (M1 : ab_M) (i2 : Nat) (C : List Int32), zPf M M1 n dn i2 C → i + C.length ≤ i2 → zBad 8 false (M 34) n o i i2 → narrow .boolean (.int (0 : Int32)) = .int (0 : Int32) ∧ k (some (.int (0 : Int32))) M1 N := fun M1 i2 C g hl hb => ⟨ab_n0, hk 0 M1 i2 C g ⟨hl, Or.inr ⟨rfl, hb⟩⟩⟩
  have yes : ∀ (M1 : ab_M) (i2 : Nat) (C : List Int32), zPf M M1 n dn i2 C → i + C.length ≤ i2 → zGood 8 false (M 34) n o i i2 C → narrow .boolean (.int (1 : Int32)) = .int (1 : Int32) ∧ k (some (.int (1 : Int32))) M1 N := fun M1 i2 C g hl hb => ⟨ab_n1, hk 1 M1 i2 C g ⟨hl, Or.inl ⟨rfl, by simp, fun z => absurd z (by decide), fun _ => hb⟩⟩⟩
  have sg : (zTk (M 34) n i).1 = 45 ∨ (zTk (M 34) n i).1 = 40 → zr_X8_one e k 63 [some (.ref 4), some (.int (nI o)), none, none] [] M N := by
    intro ht
    have hne : ¬ (zTk (M 34) n i).1 = -1 := fun z => by rw [z] at ht; exact absurd ht (by decide)
    have e1 : nI o + 1 = nI (o + 1) := nI_1 o
    refine zv_X8_one_63 _ ?_
    rw [a1]
    refine ⟨fun c => ?_, fun c => ?_⟩
    · have ho5 : o < 5 := Nat.not_le.mp fun z => nI_nlt (a := o) (b := 5) z (by omega) c
      refine ⟨fun c2 => ?_, fun c2 => ?_⟩
      · refine zAdv_call hp g0 hne (fun M2 g2 => zv_X8_one_89 _ _ ⟨fun z => absurd z (by decide), fun _ => ?_⟩)
        refine zP_call (e := e) (o := o + 1) hp g2 (by simp; omega) (by omega) (by omega) e1 (fun b M3 i2 C2 g3 hP2 => zv_X8_one_100 _ ?_)
        have hi2 := g3.2.2.2.1
        have hl2 := hP2.1
        refine zPut_call hp g3 (by rw [List.nil_append]; omega) (fun M4 g4 => zv_X8_one_107 _ ?_)
        rw [List.nil_append] at g4
        have cn : ∀ (K : List Nat) (mn : Bool), zCnd 8 false (M 34) n o i K mn → zCnd 8 false (M 34) n (o + 1) (zTk (M 34) n i).2.2.2 (19 :: K) false := fun K mn q => ⟨by show zRank 19 < 8; decide, by
          show (if 19 = 0 ∨ 19 = 13 ∨ 19 = 19 then 1 else 0) + zOp K = o + 1
          rw [if_pos (by decide), q.2.1]; omega, fun z => absurd z (by decide), fun _ _ => rfl⟩
        rcases hP2.2 with ⟨rfl, -, -, hg⟩ | ⟨rfl, hb⟩
        · refine yes _ i2 _ g4 (by rw [List.length_append]; simp; omega) (fun K O mn q res hv => zR_neg c2 (by rw [q.2.1]; omega) (hg (fun z => absurd z (by decide)) _ _ _ (cn K mn q) _ ?_))
          show zYd _ _ (false, false, i2, zUw 7 (19 :: K) (O ++ C2)) res
          rw [zUw_top (by decide), List.append_assoc]
          exact hv
        · exact no _ i2 _ g4 (by rw [List.length_append]; simp; omega) (fun K O mn q => zR_neg c2 (by rw [q.2.1]; omega) (hb _ _ _ (cn K mn q)))
      · have c3 := ht.resolve_left c2
        refine zAdv_call hp g0 hne (fun M2 g2 => zv_X8_one_89 _ _ ⟨fun _ => ?_, fun z => absurd rfl z⟩)
        refine zP_call (e := e) (o := o + 1) hp g2 (by simp; omega) (by omega) (by omega) e1 (fun b M3 i2 C2 g3 hP2 => zv_X8_one_116 _ ?_)
        rw [List.nil_append] at g3
        have hi2 := g3.2.2.2.1
        have hl2 := hP2.1
        obtain ⟨d1, d2, d3, d4, d5⟩ := zTk_b (M 34) hi2
        have cn : ∀ (K : List Nat) (mn : Bool), zCnd 8 false (M 34) n o i K mn → zCnd 1 true (M 34) n (o + 1) (zTk (M 34) n i).2.2.2 (0 :: K) true := fun K mn q => ⟨by show zRank 0 < 1; decide, by
          show (if 0 = 0 ∨ 0 = 13 ∨ 0 = 19 then 1 else 0) + zOp K = o + 1
          rw [if_pos (by decide), q.2.1]; omega, fun _ => rfl, fun z => absurd z (by decide)⟩
        refine ⟨fun e0 => ?_, fun e0 => ?_⟩
        · rcases hP2.2 with ⟨rfl, -⟩ | ⟨-, hb⟩
          · exact absurd e0 (by decide)
          · exact no _ i2 _ g3 (by omega) (fun K O mn q => zR_par c3 (by rw [q.2.1]; omega) (hb _ _ _ (cn K mn q)))
        · rcases hP2.2 with ⟨rfl, hx, hc, hg⟩ | ⟨z, -⟩
          · rw [g3.2.2.1.1]
            refine ⟨fun c4 => ?_, fun c4 => ?_⟩
            · refine zAdv_call hp g3 (by rw [c4]; decide) (fun M4 g4 => zv_X8_one_134 ?_)
              refine yes _ _ _ g4 (by omega) (fun K O mn q res hv => zR_par c3 (by rw [q.2.1]; omega) (hg (fun _ => by rw [c4]; unfold zCm; decide) _ _ _ (cn K mn q) _ (zV_low (show zRank 0 < 7 by decide) (zA_par c4 hv))))
            · refine no _ i2 _ g3 (by omega) (fun K O mn q => zR_par c3 (by rw [q.2.1]; omega) ?_)
              by_cases cm : zCm (zTk (M 34) n i2).1
              · exact hc rfl cm _ _ _ (cn K mn q)
              · refine hg (fun _ => cm) _ _ _ (cn K mn q) _ (zV_low (show zRank 0 < 7 by decide) (zA_nopar c4 ?_))
                simp only [List.mem_cons, List.not_mem_nil, or_false, not_or] at hx
                unfold zCm at cm
                unfold zSg
                grind
          · exact absurd z e0
    · have ho5 : o = 5 := by
        have : ¬ o < 5 := fun z => c (nI_lt (a := o) (b := 5) z (by omega))
        omega
      exact no M i [] g0 (by simp) (fun K O mn q => zR_full ht (by rw [q.2.1, ho5]))
  have bad : ¬ (0 ≤ (zTk (M 34) n i).1 ∧ (zTk (M 34) n i).1 ≤ 6) → ¬ (zTk (M 34) n i).1 = 45 → ¬ (zTk (M 34) n i).1 = 40 → narrow .boolean (.int (0 : Int32)) = .int (0 : Int32) ∧ k (some (.int (0 : Int32))) M N := fun h1 h2 h3 =>
    no M i [] g0 (by simp) (fun K O mn q => zR_bad h1 h2 h3 (q.2.2.2 rfl))
  have val : 0 ≤ (zTk (M 34) n i).1 → (zTk (M 34) n i).1 ≤ 6 → ∀ v : Int32, v = (if (zTk (M 34) n i).1 = 0 then (zTk (M 34) n i).2.1 else -(zTk (M 34) n i).1) → zt_X8_put [.ref 4, .int v] M N (fun r M2 N2 => zr_X8_one e k 39 [some (.ref 4), none, none, none] (ab_ol r []) M2 N2) := by
    intro h0 h6 v hv
    have hne : ¬ (zTk (M 34) n i).1 = -1 := fun z => by rw [z] at h0; exact absurd h0 (by decide)
    obtain ⟨b6, b7⟩ := b5 hne
    refine zPut_call hp g0 (by simp; omega) (fun M2 g2 => zv_X8_one_39 ?_)
    refine zAdv_call hp g2 hne (fun M4 g4 => zv_X8_one_43 ?_)
    refine yes _ _ _ g4 (by simp; omega) (fun K O mn q res hv2 => zR_val h0 h6 ?_)
    rw [← hv]
    exact hv2
  refine ⟨Nat.le_of_ble_eq_true rfl, zv_X8_one_0 _ ?_⟩
  rw [a1]
  refine ⟨fun c => ⟨fun c2 => sg (Or.inl c2), fun c2 => ⟨fun c3 => sg (Or.inr c3), fun c3 => bad (fun z => absurd c (Int32.not_lt.mpr z.1)) c2 c3⟩⟩, fun c => ⟨fun c1 => ⟨fun c2 => sg (Or.inl c2), fun c2 => ⟨fun c3 => sg (Or.inr c3), fun c3 => bad (fun z => absurd c1 (Int32.not_lt.mpr z.2)) c2 c3⟩⟩, fun c1 => ⟨fun c2 => ?_, fun c2 => ?_⟩⟩⟩
  · exact val (Int32.not_lt.mp c) (Int32.not_lt.mp c1) _ (by rw [if_pos c2, a2 c2])
  · exact val (Int32.not_lt.mp c) (Int32.not_lt.mp c1) _ (by rw [if_neg c2])
def zp_X8_term : ab_P := [(0, .aload_n 0, 1, [0], []),
  (1, .iload_n 1, 2, [1], []),
  (2, .invokevirtual 69, 5, [], []),
  (5, .istore_n 2, 6, [2], []),
  (6, .iconst 0, 7, [], [0]),
  (7, .istore_n 3, 8, [3], []),
  (8, .iload_n 3, 9, [3], []),
  (9, .sipush 160, 12, [], [160]),
  (12, .if_icmp .ge 38, 15, [50], []),
  (15, .iload_n 2, 16, [2], []),
  (16, .ifCond .eq 34, 19, [50], []),
  (19, .aload_n 0, 20, [0], []),
  (20, .getfield 37, 23, [], []),
  (23, .bipush 42, 25, [], [42]),
  (25, .if_icmp .ne 25, 28, [50], []),
  (28, .aload_n 0, 29, [0], []),
  (29, .invokevirtual 34, 32, [], []),
  (32, .aload_n 0, 33, [0], []),
  (33, .iload_n 1, 34, [1], []),
  (34, .invokevirtual 69, 37, [], []),
  (37, .istore_n 2, 38, [2], []),
  (38, .aload_n 0, 39, [0], []),
  (39, .bipush (-15), 41, [], [(-15)]),
  (41, .invokevirtual 53, 44, [], []),
  (44, .iinc 3 1, 47, [], [1]),
  (47, .goto (-39), 50, [8], []),
  (50, .iload_n 2, 51, [2], []),
  (51, .ireturn, 52, [], [])]
theorem zo_X8_term : ab_ok cX8_term zp_X8_term = true := by decide +kernel
def zg_X8_term (e : Nat) : ab_G := (zw_C, zs_tab, zf_X8, zc_X8, [], [(34, 1, zt_X8_advance), (53, 2, zt_X8_put), (69, 2, zt_X8_one (e + 1))], [])
theorem zm_X8_term (e : Nat) : ab_MG (zg_X8_term e) := ab_MGof (List.forall_mem_cons.mpr ⟨zt_X8_advance_mono, List.forall_mem_cons.mpr ⟨zt_X8_put_mono, List.forall_mem_cons.mpr ⟨zt_X8_one_mono _, List.forall_mem_nil _⟩⟩⟩) (List.forall_mem_nil _)
abbrev zr_X8_term (e : Nat) (Q : ab_R) : ab_K := ab_Run (zg_X8_term e) zp_X8_term (some .boolean) 4 Q
set_option maxRecDepth 20000 in
theorem zv_X8_term_0 {e : Nat} {Q : ab_R} {M : ab_M} {N : ab_N} (l1 : Int32) (h : zt_X8_one (e + 1) [.ref 4, .int l1] M N (fun r M2 N2 => zr_X8_term e Q 5 [some (.ref 4), some (.int l1), none, none] (ab_ol r []) M2 N2)) : zr_X8_term e Q 0 [some (.ref 4), some (.int l1)] [] M N := ab_Run_s (zm_X8_term e) (sp := [(5, [true, true, false, false]), (8, [true, true, true, true]), (32, [true, true, false, true]), (37, [true, true, false, true]), (44, [true, true, true, true])]) 30 h
set_option maxRecDepth 20000 in
theorem zv_X8_term_5 {e : Nat} {Q : ab_R} {M : ab_M} {N : ab_N} (l1 : Int32) (s0 : Int32) (h : zr_X8_term e Q 8 [some (.ref 4), some (.int l1), some (.int s0), some (.int (0 : Int32))] [] M N) : zr_X8_term e Q 5 [some (.ref 4), some (.int l1), none, none] [.int s0] M N := ab_Run_s (zm_X8_term e) (sp := [(5, [true, true, false, false]), (8, [true, true, true, true]), (32, [true, true, false, true]), (37, [true, true, false, true]), (44, [true, true, true, true])]) 30 h
set_option maxRecDepth 20000 in
theorem zv_X8_term_8 {e : Nat} {Q : ab_R} {M : ab_M} {N : ab_N} (l1 : Int32) (l2 : Int32) (l3 : Int32) (h : ((160 : Int32) ≤ l3 → narrow .boolean (.int l2) = .int l2 ∧ Q (some (.int l2)) M N) ∧ (¬ ((160 : Int32) ≤ l3) → (l2 = 0 → narrow .boolean (.int l2) = .int l2 ∧ Q (some (.int l2)) M N) ∧ (¬ (l2 = 0) → ((M 4 3) = (42 : Int32) → zt_X8_advance [.ref 4] M N (fun r M2 N2 => zr_X8_term e Q 32 [some (.ref 4), some (.int l1), none, some (.int l3)] (ab_ol r []) M2 N2)) ∧ (¬ ((M 4 3) = (42 : Int32)) → narrow .boolean (.int l2) = .int l2 ∧ Q (some (.int l2)) M N)))) : zr_X8_term e Q 8 [some (.ref 4), some (.int l1), some (.int l2), some (.int l3)] [] M N := ab_Run_s (zm_X8_term e) (sp := [(5, [true, true, false, false]), (8, [true, true, true, true]), (32, [true, true, false, true]), (37, [true, true, false, true]), (44, [true, true, true, true])]) 30 h
set_option maxRecDepth 20000 in
theorem zv_X8_term_32 {e : Nat} {Q : ab_R} {M : ab_M} {N : ab_N} (l1 : Int32) (l3 : Int32) (h : zt_X8_one (e + 1) [.ref 4, .int l1] M N (fun r M2 N2 => zr_X8_term e Q 37 [some (.ref 4), some (.int l1), none, some (.int l3)] (ab_ol r []) M2 N2)) : zr_X8_term e Q 32 [some (.ref 4), some (.int l1), none, some (.int l3)] [] M N := ab_Run_s (zm_X8_term e) (sp := [(5, [true, true, false, false]), (8, [true, true, true, true]), (32, [true, true, false, true]), (37, [true, true, false, true]), (44, [true, true, true, true])]) 30 h
set_option maxRecDepth 20000 in
theorem zv_X8_term_37 {e : Nat} {Q : ab_R} {M : ab_M} {N : ab_N} (l1 : Int32) (l3 : Int32) (s0 : Int32) (h : zt_X8_put [.ref 4, .int (-15 : Int32)] M N (fun r M2 N2 => zr_X8_term e Q 44 [some (.ref 4), some (.int l1), some (.int s0), some (.int l3)] (ab_ol r []) M2 N2)) : zr_X8_term e Q 37 [some (.ref 4), some (.int l1), none, some (.int l3)] [.int s0] M N := ab_Run_s (zm_X8_term e) (sp := [(5, [true, true, false, false]), (8, [true, true, true, true]), (32, [true, true, false, true]), (37, [true, true, false, true]), (44, [true, true, true, true])]) 30 h
set_option maxRecDepth 20000 in
theorem zv_X8_term_44 {e : Nat} {Q : ab_R} {M : ab_M} {N : ab_N} (l1 : Int32) (l2 : Int32) (l3 : Int32) (h : zr_X8_term e Q 8 [some (.ref 4), some (.int l1), some (.int l2), some (.int (l3 + (1 : Int32)))] [] M N) : zr_X8_term e Q 44 [some (.ref 4), some (.int l1), some (.int l2), some (.int l3)] [] M N := ab_Run_s (zm_X8_term e) (sp := [(5, [true, true, false, false]), (8, [true, true, true, true]), (32, [true, true, false, true]), (37, [true, true, false, true]), (44, [true, true, true, true])]) 30 h
theorem zL_X8_term {e : Nat} {Q : ab_R} {M : ab_M} {N : ab_N} {n w i dn o : Nat} (hp : zPp M n w i dn) (ho : o ≤ 5) (he : o + (e + 1) = 6) (hk : ∀ (b : Int32) (M2 : ab_M) (i2 : Nat) (C : List Int32), zPf M M2 n dn i2 C → zPost 6 false false [42] (M 34) n o i i2 C b → Q (some (.int b)) M2 N) : ∀ (d t i1 : Nat) (C : List Int32) (b : Int32) (M1 : ab_M), n - i1 = d → t ≤ i1 → zPf M M1 n dn i1 C → zPost 6 false false [] (M 34) n o i i1 C b → zr_X8_term e Q 8 [some (.ref 4), some (.int (nI o)), some (.int b), some (.int (nI t))] [] M1 N := by
  intro d
  induction d using Nat.strongRecOn with
  | _ d ih =>
    intro t i1 C b M1 hd ht g hP
    have hi1 := g.2.2.2.1
    have hn := hp.1.1
    have hdn := hp.2.2.2.2.2.2.2
    obtain ⟨b1, b2, b3, b4, b5⟩ := zTk_b (M 34) hi1
    have hb := zPost_b hP
    have fin : (b = 1 → (zTk (M 34) n i1).1 ≠ 42) → narrow .boolean (.int b) = .int b ∧ Q (some (.int b)) M1 N := fun z => ⟨zNb hb, hk b M1 i1 C g (zPost_ex hP (fun e1 q1 q => by
      simp only [List.mem_cons, List.not_mem_nil, or_false] at q q1
      have := z e1
      grind))⟩
    refine zv_X8_term_8 _ _ _ ⟨fun c => fin (fun _ => ?_), fun c => ⟨fun c2 => fin (fun e1 => by rw [e1] at c2; exact absurd c2 (by decide)), fun c2 => ?_⟩⟩
    · have h160 : 160 ≤ t := Nat.not_lt.mp fun z => nI_ge (a := t) (b := 160) z (by omega) c
      have hE := b4 (by omega)
      rw [hE]
      exact (by decide)
    · have eb : b = 1 := hb.resolve_right c2
      subst eb
      rw [g.2.2.1.1]
      have hl : i + C.length ≤ (zTk (M 34) n i1).2.2.2 := by have := hP.1; omega
      refine ⟨fun c3 => ?_, fun c3 => fin (fun _ => c3)⟩
      refine zAdv_call hp g (by rw [c3]; decide) (fun M2 g2 => zv_X8_term_32 _ _ ?_)
      refine zP_call (e := e + 1) hp g2 hl ho he rfl (fun bb M3 i2 C2 g3 hP2 => zv_X8_term_37 _ _ _ ?_)
      have hi2 := g3.2.2.2.1
      have hl2 := hP2.1
      refine zPut_call hp g3 (by rw [List.length_append]; have := hP.1; omega) (fun M4 g4 => zv_X8_term_44 _ _ _ ?_)
      rw [nI_1]
      refine ih (n - i2) (by omega) (t + 1) i2 _ bb M4 rfl (by omega) g4 ?_
      exact zPost_bin (s := 18) hP (by rw [c3]; rfl) (by decide) (by decide) (by decide) rfl (by decide) (by decide) (by decide) (by decide) rfl hi1 (fun t _ _ => zThr_6 t) hP2
theorem zE_X8_term (e : Nat) (as : List Value) (M : ab_M) (N : ab_N) (k : ab_R) (hT : zt_X8_term (e + 1) as M N k) : ab_cs as ≤ 4 ∧ zr_X8_term e k 0 (ab_en as) [] M N := by
  obtain ⟨n, w, i, dn, o, rfl, ho, he, hp, hk⟩ := zt_P_e hT
  refine ⟨Nat.le_of_ble_eq_true rfl, zv_X8_term_0 _ ?_⟩
  refine zP_call (C := []) (e := e + 1) hp (zPf_rf hp) (Nat.le_refl _) ho he rfl (fun b M2 i2 C2 g3 hP2 => zv_X8_term_5 _ _ ?_)
  exact zL_X8_term hp ho he hk (n - i2) 0 i2 C2 b M2 rfl (Nat.zero_le _) g3 (zPost_weak (by decide) hP2)
def zp_X8_sum : ab_P := [(0, .aload_n 0, 1, [0], []),
  (1, .iload_n 1, 2, [1], []),
  (2, .invokevirtual 66, 5, [], []),
  (5, .istore_n 2, 6, [2], []),
  (6, .iconst 0, 7, [], [0]),
  (7, .istore_n 3, 8, [3], []),
  (8, .iload_n 3, 9, [3], []),
  (9, .sipush 160, 12, [], [160]),
  (12, .if_icmp .ge 65, 15, [77], []),
  (15, .iload_n 2, 16, [2], []),
  (16, .ifCond .eq 61, 19, [77], []),
  (19, .aload_n 0, 20, [0], []),
  (20, .getfield 37, 23, [], []),
  (23, .bipush 43, 25, [], [43]),
  (25, .if_icmp .eq 12, 28, [37], []),
  (28, .aload_n 0, 29, [0], []),
  (29, .getfield 37, 32, [], []),
  (32, .bipush 45, 34, [], [45]),
  (34, .if_icmp .ne 43, 37, [77], []),
  (37, .aload_n 0, 38, [0], []),
  (38, .getfield 37, 41, [], []),
  (41, .bipush 43, 43, [], [43]),
  (43, .if_icmp .ne 8, 46, [51], []),
  (46, .bipush (-13), 48, [], [(-13)]),
  (48, .goto 5, 51, [53], []),
  (51, .bipush (-14), 53, [], [(-14)]),
  (53, .istore 4, 55, [], []),
  (55, .aload_n 0, 56, [0], []),
  (56, .invokevirtual 34, 59, [], []),
  (59, .aload_n 0, 60, [0], []),
  (60, .iload_n 1, 61, [1], []),
  (61, .invokevirtual 66, 64, [], []),
  (64, .istore_n 2, 65, [2], []),
  (65, .aload_n 0, 66, [0], []),
  (66, .iload 4, 68, [], []),
  (68, .invokevirtual 53, 71, [], []),
  (71, .iinc 3 1, 74, [], [1]),
  (74, .goto (-66), 77, [8], []),
  (77, .iload_n 2, 78, [2], []),
  (78, .ireturn, 79, [], [])]
theorem zo_X8_sum : ab_ok cX8_sum zp_X8_sum = true := by decide +kernel
def zg_X8_sum (e : Nat) : ab_G := (zw_C, zs_tab, zf_X8, zc_X8, [], [(34, 1, zt_X8_advance), (53, 2, zt_X8_put), (66, 2, zt_X8_term (e + 1))], [])
theorem zm_X8_sum (e : Nat) : ab_MG (zg_X8_sum e) := ab_MGof (List.forall_mem_cons.mpr ⟨zt_X8_advance_mono, List.forall_mem_cons.mpr ⟨zt_X8_put_mono, List.forall_mem_cons.mpr ⟨zt_X8_term_mono _, List.forall_mem_nil _⟩⟩⟩) (List.forall_mem_nil _)
abbrev zr_X8_sum (e : Nat) (Q : ab_R) : ab_K := ab_Run (zg_X8_sum e) zp_X8_sum (some .boolean) 5 Q
set_option maxRecDepth 20000 in
theorem zv_X8_sum_0 {e : Nat} {Q : ab_R} {M : ab_M} {N : ab_N} (l1 : Int32) (h : zt_X8_term (e + 1) [.ref 4, .int l1] M N (fun r M2 N2 => zr_X8_sum e Q 5 [some (.ref 4), some (.int l1), none, none, none] (ab_ol r []) M2 N2)) : zr_X8_sum e Q 0 [some (.ref 4), some (.int l1)] [] M N := ab_Run_s (zm_X8_sum e) (sp := [(5, [true, true, false, false, false]), (8, [true, true, true, true, false]), (59, [true, true, false, true, true]), (64, [true, true, false, true, true]), (71, [true, true, true, true, false])]) 42 h
set_option maxRecDepth 20000 in
theorem zv_X8_sum_5 {e : Nat} {Q : ab_R} {M : ab_M} {N : ab_N} (l1 : Int32) (s0 : Int32) (h : zr_X8_sum e Q 8 [some (.ref 4), some (.int l1), some (.int s0), some (.int (0 : Int32)), none] [] M N) : zr_X8_sum e Q 5 [some (.ref 4), some (.int l1), none, none, none] [.int s0] M N := ab_Run_s (zm_X8_sum e) (sp := [(5, [true, true, false, false, false]), (8, [true, true, true, true, false]), (59, [true, true, false, true, true]), (64, [true, true, false, true, true]), (71, [true, true, true, true, false])]) 42 h
set_option maxRecDepth 20000 in
theorem zv_X8_sum_8 {e : Nat} {Q : ab_R} {M : ab_M} {N : ab_N} (l1 : Int32) (l2 : Int32) (l3 : Int32) (h : ((160 : Int32) ≤ l3 → narrow .boolean (.int l2) = .int l2 ∧ Q (some (.int l2)) M N) ∧ (¬ ((160 : Int32) ≤ l3) → (l2 = 0 → narrow .boolean (.int l2) = .int l2 ∧ Q (some (.int l2)) M N) ∧ (¬ (l2 = 0) → ((M 4 3) = (43 : Int32) → ((M 4 3) = (43 : Int32) → zt_X8_advance [.ref 4] M N (fun r M2 N2 => zr_X8_sum e Q 59 [some (.ref 4), some (.int l1), none, some (.int l3), some (.int (-13 : Int32))] (ab_ol r []) M2 N2)) ∧ (¬ ((M 4 3) = (43 : Int32)) → zt_X8_advance [.ref 4] M N (fun r M2 N2 => zr_X8_sum e Q 59 [some (.ref 4), some (.int l1), none, some (.int l3), some (.int (-14 : Int32))] (ab_ol r []) M2 N2))) ∧ (¬ ((M 4 3) = (43 : Int32)) → ((M 4 3) = (45 : Int32) → ((M 4 3) = (43 : Int32) → zt_X8_advance [.ref 4] M N (fun r M2 N2 => zr_X8_sum e Q 59 [some (.ref 4), some (.int l1), none, some (.int l3), some (.int (-13 : Int32))] (ab_ol r []) M2 N2)) ∧ (¬ ((M 4 3) = (43 : Int32)) → zt_X8_advance [.ref 4] M N (fun r M2 N2 => zr_X8_sum e Q 59 [some (.ref 4), some (.int l1), none, some (.int l3), some (.int (-14 : Int32))] (ab_ol r []) M2 N2))) ∧ (¬ ((M 4 3) = (45 : Int32)) → narrow .boolean (.int l2) = .int l2 ∧ Q (some (.int l2)) M N))))) : zr_X8_sum e Q 8 [some (.ref 4), some (.int l1), some (.int l2), some (.int l3), none] [] M N := ab_Run_s (zm_X8_sum e) (sp := [(5, [true, true, false, false, false]), (8, [true, true, true, true, false]), (59, [true, true, false, true, true]), (64, [true, true, false, true, true]), (71, [true, true, true, true, false])]) 42 h
set_option maxRecDepth 20000 in
theorem zv_X8_sum_59 {e : Nat} {Q : ab_R} {M : ab_M} {N : ab_N} (l1 : Int32) (l3 : Int32) (l4 : Int32) (h : zt_X8_term (e + 1) [.ref 4, .int l1] M N (fun r M2 N2 => zr_X8_sum e Q 64 [some (.ref 4), some (.int l1), none, some (.int l3), some (.int l4)] (ab_ol r []) M2 N2)) : zr_X8_sum e Q 59 [some (.ref 4), some (.int l1), none, some (.int l3), some (.int l4)] [] M N := ab_Run_s (zm_X8_sum e) (sp := [(5, [true, true, false, false, false]), (8, [true, true, true, true, false]), (59, [true, true, false, true, true]), (64, [true, true, false, true, true]), (71, [true, true, true, true, false])]) 42 h
set_option maxRecDepth 20000 in
theorem zv_X8_sum_64 {e : Nat} {Q : ab_R} {M : ab_M} {N : ab_N} (l1 : Int32) (l3 : Int32) (l4 : Int32) (s0 : Int32) (h : zt_X8_put [.ref 4, .int l4] M N (fun r M2 N2 => zr_X8_sum e Q 71 [some (.ref 4), some (.int l1), some (.int s0), some (.int l3), none] (ab_ol r []) M2 N2)) : zr_X8_sum e Q 64 [some (.ref 4), some (.int l1), none, some (.int l3), some (.int l4)] [.int s0] M N := ab_Run_s (zm_X8_sum e) (sp := [(5, [true, true, false, false, false]), (8, [true, true, true, true, false]), (59, [true, true, false, true, true]), (64, [true, true, false, true, true]), (71, [true, true, true, true, false])]) 42 h
set_option maxRecDepth 20000 in
theorem zv_X8_sum_71 {e : Nat} {Q : ab_R} {M : ab_M} {N : ab_N} (l1 : Int32) (l2 : Int32) (l3 : Int32) (h : zr_X8_sum e Q 8 [some (.ref 4), some (.int l1), some (.int l2), some (.int (l3 + (1 : Int32))), none] [] M N) : zr_X8_sum e Q 71 [some (.ref 4), some (.int l1), some (.int l2), some (.int l3), none] [] M N := ab_Run_s (zm_X8_sum e) (sp := [(5, [true, true, false, false, false]), (8, [true, true, true, true, false]), (59, [true, true, false, true, true]), (64, [true, true, false, true, true]), (71, [true, true, true, true, false])]) 42 h
theorem zL_X8_sum {e : Nat} {Q : ab_R} {M : ab_M} {N : ab_N} {n w i dn o : Nat} (hp : zPp M n w i dn) (ho : o ≤ 5) (he : o + (e + 1) = 6) (hk : ∀ (b : Int32) (M2 : ab_M) (i2 : Nat) (C : List Int32), zPf M M2 n dn i2 C → zPost 5 false false [42, 43, 45] (M 34) n o i i2 C b → Q (some (.int b)) M2 N) : ∀ (d t i1 : Nat) (C : List Int32) (b : Int32) (M1 : ab_M), n - i1 = d → t ≤ i1 → zPf M M1 n dn i1 C → zPost 5 false false [42] (M 34) n o i i1 C b → zr_X8_sum e Q 8 [some (.ref 4), some (.int (nI o)), some (.int b), some (.int (nI t)), none] [] M1 N := by
  intro d
  induction d using Nat.strongRecOn with
  | _ d ih =>
    intro t i1 C b M1 hd ht g hP
    have hi1 := g.2.2.2.1
    have hn := hp.1.1
    have hdn := hp.2.2.2.2.2.2.2
    obtain ⟨b1, b2, b3, b4, b5⟩ := zTk_b (M 34) hi1
    have hb := zPost_b hP
    have fin : (b = 1 → (zTk (M 34) n i1).1 ≠ 43 ∧ (zTk (M 34) n i1).1 ≠ 45) → narrow .boolean (.int b) = .int b ∧ Q (some (.int b)) M1 N := fun z => ⟨zNb hb, hk b M1 i1 C g (zPost_ex hP (fun e1 q1 q => by
      simp only [List.mem_cons, List.not_mem_nil, or_false] at q q1
      have := z e1
      grind))⟩
    refine zv_X8_sum_8 _ _ _ ⟨fun c => fin (fun _ => ?_), fun c => ⟨fun c2 => fin (fun e1 => by rw [e1] at c2; exact absurd c2 (by decide)), fun c2 => ?_⟩⟩
    · have h160 : 160 ≤ t := Nat.not_lt.mp fun z => nI_ge (a := t) (b := 160) z (by omega) c
      have hE := b4 (by omega)
      rw [hE]
      exact ⟨by decide, by decide⟩
    · have eb : b = 1 := hb.resolve_right c2
      subst eb
      rw [g.2.2.1.1]
      have hl : i + C.length ≤ (zTk (M 34) n i1).2.2.2 := by have := hP.1; omega
      have go : ∀ (T l4 : Int32) (s : Nat), (zTk (M 34) n i1).1 = T → ¬ T = -1 → zSg T = s → ¬ s = 0 → ¬ s = 13 → ¬ s = 19 → zRank s = 5 → false = decide (s ≤ 12) → zCo s = l4 → zt_X8_advance [.ref 4] M1 N (fun r M2 N2 => zr_X8_sum e Q 59 [some (.ref 4), some (.int (nI o)), none, some (.int (nI t)), some (.int l4)] (ab_ol r []) M2 N2) := by
        intro T l4 s c3 hT hs s0 s13 s19 sr sd sc
        refine zAdv_call hp g (by rw [c3]; exact hT) (fun M2 g2 => zv_X8_sum_59 _ _ _ ?_)
        refine zP_call (e := e + 1) hp g2 hl ho he rfl (fun bb M3 i2 C2 g3 hP2 => zv_X8_sum_64 _ _ _ _ ?_)
        have hi2 := g3.2.2.2.1
        have hl2 := hP2.1
        refine zPut_call hp g3 (by rw [List.length_append]; have := hP.1; omega) (fun M4 g4 => zv_X8_sum_71 _ _ _ ?_)
        rw [nI_1]
        refine ih (n - i2) (by omega) (t + 1) i2 _ bb M4 rfl (by omega) g4 ?_
        rw [← sc]
        exact zPost_bin hP (by rw [c3]; exact hs) s0 s13 s19 sr (by decide) (by decide) (by decide) (by decide) sd hi1 (fun t ht _ => zThr_5 t (by simpa using ht)) hP2
      refine ⟨fun c3 => ⟨fun _ => go 43 (-13) 16 c3 (by decide) rfl (by decide) (by decide) (by decide) rfl rfl rfl, fun z => absurd c3 z⟩, fun c3 => ⟨fun c4 => ⟨fun z => absurd z c3, fun _ => go 45 (-14) 17 c4 (by decide) rfl (by decide) (by decide) (by decide) rfl rfl rfl⟩, fun c4 => fin (fun _ => ⟨c3, c4⟩)⟩⟩
theorem zE_X8_sum (e : Nat) (as : List Value) (M : ab_M) (N : ab_N) (k : ab_R) (hT : zt_X8_sum (e + 1) as M N k) : ab_cs as ≤ 5 ∧ zr_X8_sum e k 0 (ab_en as) [] M N := by
  obtain ⟨n, w, i, dn, o, rfl, ho, he, hp, hk⟩ := zt_P_e hT
  refine ⟨Nat.le_of_ble_eq_true rfl, zv_X8_sum_0 _ ?_⟩
  refine zP_call (C := []) (e := e + 1) hp (zPf_rf hp) (Nat.le_refl _) ho he rfl (fun b M2 i2 C2 g3 hP2 => zv_X8_sum_5 _ _ ?_)
  exact zL_X8_sum hp ho he hk (n - i2) 0 i2 C2 b M2 rfl (Nat.zero_le _) g3 (zPost_weak (by decide) hP2)
def zp_X8_comparison : ab_P := [(0, .aload_n 0, 1, [0], []),
  (1, .iload_n 1, 2, [1], []),
  (2, .invokevirtual 63, 5, [], []),
  (5, .istore_n 2, 6, [2], []),
  (6, .iload_n 2, 7, [2], []),
  (7, .ifCond .eq 53, 10, [60], []),
  (10, .aload_n 0, 11, [0], []),
  (11, .getfield 37, 14, [], []),
  (14, .bipush 60, 16, [], [60]),
  (16, .if_icmp .eq 12, 19, [28], []),
  (19, .aload_n 0, 20, [0], []),
  (20, .getfield 37, 23, [], []),
  (23, .bipush 61, 25, [], [61]),
  (25, .if_icmp .ne 35, 28, [60], []),
  (28, .aload_n 0, 29, [0], []),
  (29, .getfield 37, 32, [], []),
  (32, .bipush 60, 34, [], [60]),
  (34, .if_icmp .ne 8, 37, [42], []),
  (37, .bipush (-11), 39, [], [(-11)]),
  (39, .goto 5, 42, [44], []),
  (42, .bipush (-12), 44, [], [(-12)]),
  (44, .istore_n 3, 45, [3], []),
  (45, .aload_n 0, 46, [0], []),
  (46, .invokevirtual 34, 49, [], []),
  (49, .aload_n 0, 50, [0], []),
  (50, .iload_n 1, 51, [1], []),
  (51, .invokevirtual 63, 54, [], []),
  (54, .istore_n 2, 55, [2], []),
  (55, .aload_n 0, 56, [0], []),
  (56, .iload_n 3, 57, [3], []),
  (57, .invokevirtual 53, 60, [], []),
  (60, .iload_n 2, 61, [2], []),
  (61, .ireturn, 62, [], [])]
theorem zo_X8_comparison : ab_ok cX8_comparison zp_X8_comparison = true := by decide +kernel
def zg_X8_comparison (e : Nat) : ab_G := (zw_C, zs_tab, zf_X8, zc_X8, [], [(34, 1, zt_X8_advance), (53, 2, zt_X8_put), (63, 2, zt_X8_sum (e + 1))], [])
theorem zm_X8_comparison (e : Nat) : ab_MG (zg_X8_comparison e) := ab_MGof (List.forall_mem_cons.mpr ⟨zt_X8_advance_mono, List.forall_mem_cons.mpr ⟨zt_X8_put_mono, List.forall_mem_cons.mpr ⟨zt_X8_sum_mono _, List.forall_mem_nil _⟩⟩⟩) (List.forall_mem_nil _)
abbrev zr_X8_comparison (e : Nat) (Q : ab_R) : ab_K := ab_Run (zg_X8_comparison e) zp_X8_comparison (some .boolean) 4 Q
set_option maxRecDepth 20000 in
theorem zv_X8_comparison_0 {e : Nat} {Q : ab_R} {M : ab_M} {N : ab_N} (l1 : Int32) (h : zt_X8_sum (e + 1) [.ref 4, .int l1] M N (fun r M2 N2 => zr_X8_comparison e Q 5 [some (.ref 4), some (.int l1), none, none] (ab_ol r []) M2 N2)) : zr_X8_comparison e Q 0 [some (.ref 4), some (.int l1)] [] M N := ab_Run_s (zm_X8_comparison e) (sp := [(5, [true, true, false, false]), (49, [true, true, false, true]), (54, [true, false, false, true]), (60, [false, false, true, false])]) 35 h
set_option maxRecDepth 20000 in
theorem zv_X8_comparison_5 {e : Nat} {Q : ab_R} {M : ab_M} {N : ab_N} (l1 : Int32) (s0 : Int32) (h : (s0 = 0 → zr_X8_comparison e Q 60 [none, none, some (.int s0), none] [] M N) ∧ (¬ (s0 = 0) → ((M 4 3) = (60 : Int32) → ((M 4 3) = (60 : Int32) → zt_X8_advance [.ref 4] M N (fun r M2 N2 => zr_X8_comparison e Q 49 [some (.ref 4), some (.int l1), none, some (.int (-11 : Int32))] (ab_ol r []) M2 N2)) ∧ (¬ ((M 4 3) = (60 : Int32)) → zt_X8_advance [.ref 4] M N (fun r M2 N2 => zr_X8_comparison e Q 49 [some (.ref 4), some (.int l1), none, some (.int (-12 : Int32))] (ab_ol r []) M2 N2))) ∧ (¬ ((M 4 3) = (60 : Int32)) → ((M 4 3) = (61 : Int32) → ((M 4 3) = (60 : Int32) → zt_X8_advance [.ref 4] M N (fun r M2 N2 => zr_X8_comparison e Q 49 [some (.ref 4), some (.int l1), none, some (.int (-11 : Int32))] (ab_ol r []) M2 N2)) ∧ (¬ ((M 4 3) = (60 : Int32)) → zt_X8_advance [.ref 4] M N (fun r M2 N2 => zr_X8_comparison e Q 49 [some (.ref 4), some (.int l1), none, some (.int (-12 : Int32))] (ab_ol r []) M2 N2))) ∧ (¬ ((M 4 3) = (61 : Int32)) → zr_X8_comparison e Q 60 [none, none, some (.int s0), none] [] M N)))) : zr_X8_comparison e Q 5 [some (.ref 4), some (.int l1), none, none] [.int s0] M N := ab_Run_s (zm_X8_comparison e) (sp := [(5, [true, true, false, false]), (49, [true, true, false, true]), (54, [true, false, false, true]), (60, [false, false, true, false])]) 35 h
set_option maxRecDepth 20000 in
theorem zv_X8_comparison_49 {e : Nat} {Q : ab_R} {M : ab_M} {N : ab_N} (l1 : Int32) (l3 : Int32) (h : zt_X8_sum (e + 1) [.ref 4, .int l1] M N (fun r M2 N2 => zr_X8_comparison e Q 54 [some (.ref 4), none, none, some (.int l3)] (ab_ol r []) M2 N2)) : zr_X8_comparison e Q 49 [some (.ref 4), some (.int l1), none, some (.int l3)] [] M N := ab_Run_s (zm_X8_comparison e) (sp := [(5, [true, true, false, false]), (49, [true, true, false, true]), (54, [true, false, false, true]), (60, [false, false, true, false])]) 35 h
set_option maxRecDepth 20000 in
theorem zv_X8_comparison_54 {e : Nat} {Q : ab_R} {M : ab_M} {N : ab_N} (l3 : Int32) (s0 : Int32) (h : zt_X8_put [.ref 4, .int l3] M N (fun r M2 N2 => zr_X8_comparison e Q 60 [none, none, some (.int s0), none] (ab_ol r []) M2 N2)) : zr_X8_comparison e Q 54 [some (.ref 4), none, none, some (.int l3)] [.int s0] M N := ab_Run_s (zm_X8_comparison e) (sp := [(5, [true, true, false, false]), (49, [true, true, false, true]), (54, [true, false, false, true]), (60, [false, false, true, false])]) 35 h
set_option maxRecDepth 20000 in
theorem zv_X8_comparison_60 {e : Nat} {Q : ab_R} {M : ab_M} {N : ab_N} (l2 : Int32) (h : narrow .boolean (.int l2) = .int l2 ∧ Q (some (.int l2)) M N) : zr_X8_comparison e Q 60 [none, none, some (.int l2), none] [] M N := ab_Run_s (zm_X8_comparison e) (sp := [(5, [true, true, false, false]), (49, [true, true, false, true]), (54, [true, false, false, true]), (60, [false, false, true, false])]) 35 h
theorem zE_X8_comparison (e : Nat) (as : List Value) (M : ab_M) (N : ab_N) (k : ab_R) (hT : zt_X8_comparison (e + 1) as M N k) : ab_cs as ≤ 4 ∧ zr_X8_comparison e k 0 (ab_en as) [] M N := by
  obtain ⟨n, w, i, dn, o, rfl, ho, he, hp, hk⟩ := zt_P_e hT
  have hn := hp.1.1
  have hdn := hp.2.2.2.2.2.2.2
  refine ⟨Nat.le_of_ble_eq_true rfl, zv_X8_comparison_0 _ ?_⟩
  refine zP_call (C := []) (e := e + 1) hp (zPf_rf hp) (Nat.le_refl _) ho he rfl (fun b M1 i1 C g hP => zv_X8_comparison_5 _ _ ?_)
  rw [List.nil_append] at g
  have hi1 := g.2.2.2.1
  obtain ⟨b1, b2, b3, b4, b5⟩ := zTk_b (M 34) hi1
  have fin : ∀ (b : Int32) (M2 : ab_M) (i2 : Nat) (C : List Int32), zPf M M2 n dn i2 C → zPost 4 false true [42, 43, 45] (M 34) n o i i2 C b → zr_X8_comparison e k 60 [none, none, some (.int b), none] [] M2 N := fun b M2 i2 C g2 h2 => zv_X8_comparison_60 _ ⟨zNb (zPost_b h2), hk b M2 i2 C g2 h2⟩
  have hl1 := hP.1
  refine ⟨fun e0 => ?_, fun e0 => ?_⟩
  · rcases hP.2 with ⟨rfl, -⟩ | ⟨rfl, hb⟩
    · exact absurd e0 (by decide)
    · exact fin 0 M1 i1 C g ⟨hl1, Or.inr ⟨rfl, fun K O mn q => hb K O mn (zCnd_weak (by decide) q)⟩⟩
  · rcases hP.2 with ⟨rfl, hx, -, hg⟩ | ⟨z, -⟩
    · have G : zGood 5 false (M 34) n o i i1 C := hg (fun z => absurd z (by decide))
      have go : ∀ (s : Nat) (l3 : Int32), zSg (zTk (M 34) n i1).1 = s → zRank s = 4 → ¬ (zTk (M 34) n i1).1 = -1 → ¬ s = 0 → ¬ s = 13 → ¬ s = 19 → zCo s = l3 → zt_X8_advance [.ref 4] M1 N (fun r M2 N2 => zr_X8_comparison e k 49 [some (.ref 4), some (.int (nI o)), none, some (.int l3)] (ab_ol r []) M2 N2) := by
        intro s l3 hs hr hne s0 s13 s19 sc
        refine zAdv_call hp g hne (fun M2 g2 => zv_X8_comparison_49 _ _ ?_)
        refine zP_call (e := e + 1) hp g2 (by omega) ho he rfl (fun bb M3 i2 C2 g3 hP2 => zv_X8_comparison_54 _ _ ?_)
        have hi2 := g3.2.2.2.1
        have hl2 := hP2.1
        refine zPut_call hp g3 (by rw [List.length_append]; omega) (fun M4 g4 => fin bb M4 i2 _ g4 ?_)
        have cn : ∀ (K : List Nat) (mn : Bool), zCnd 4 false (M 34) n o i K mn → zCnd 5 false (M 34) n o (zTk (M 34) n i1).2.2.2 (s :: K) false := fun K mn q => ⟨show zRank s < 5 by omega, by
          show (if s = 0 ∨ s = 13 ∨ s = 19 then 1 else 0) + zOp K = o
          rw [if_neg (by omega), Nat.zero_add]
          exact q.2.1, fun z => absurd z (by decide), fun _ _ => rfl⟩
        have st : ∀ (K : List Nat) (O : List Int32) (mn : Bool), zCnd 4 false (M 34) n o i K mn → ∀ res : zYr, zR (M 34) n (zTk (M 34) n i1).2.2.2 (s :: K) (O ++ C) false res → zR (M 34) n i K O mn res := fun K O mn q res z =>
          G K O mn (zCnd_weak (by decide) q) res (zV_low (zLow_mono (by decide) q.1) (zA_cmp hs hr q.1 z))
        refine ⟨by rw [List.length_append, List.length_append, List.length_cons, List.length_nil]; omega, ?_⟩
        rcases hP2.2 with ⟨rfl, hx2, -, hg2⟩ | ⟨rfl, hb2⟩
        · have G2 := hg2 (fun z => absurd z (by decide))
          refine Or.inl ⟨rfl, hx2, fun _ z2 K O mn q => st K O mn q _ (G2 _ _ _ (cn K mn q) _ (zV_low (show zRank s < 7 by omega) (zA_cmp2 (zCm_rank z2) hr))), fun z K O mn q res hv => st K O mn q _ (G2 _ _ _ (cn K mn q) _ (zV_low (show zRank s < 7 by omega) (zA_col ?_ (by omega) ?_)))⟩
          · have z := z rfl
            rw [hr]
            simp only [List.mem_cons, List.not_mem_nil, or_false, not_or] at hx2
            unfold zCm at z
            unfold zThr zSg zRank
            grind
          · have hv2 := zA_low (zLow_mono (by decide) q.1) hv
            rw [← List.append_assoc, ← List.append_assoc, ← sc] at hv2
            exact hv2
        · exact Or.inr ⟨rfl, fun K O mn q => st K O mn q _ (hb2 _ _ _ (cn K mn q))⟩
      rw [g.2.2.1.1]
      refine ⟨fun c => ⟨fun _ => go 14 (-11) (by rw [c]; rfl) rfl (by rw [c]; decide) (by decide) (by decide) (by decide) rfl, fun z => absurd c z⟩, fun c => ⟨fun c2 => ⟨fun z => absurd z c, fun _ => go 15 (-12) (by rw [c2]; rfl) rfl (by rw [c2]; decide) (by decide) (by decide) (by decide) rfl⟩, fun c2 => ?_⟩⟩
      exact fin 1 M1 i1 C g ⟨hl1, Or.inl ⟨rfl, hx, fun _ z => (z.elim c c2).elim, fun _ K O mn q => G K O mn (zCnd_weak (by decide) q)⟩⟩
    · exact absurd z e0
def zp_X8_negation : ab_P := [(0, .aload_n 0, 1, [0], []),
  (1, .getfield 37, 4, [], []),
  (4, .bipush 12, 6, [], [12]),
  (6, .if_icmp .eq 9, 9, [15], []),
  (9, .aload_n 0, 10, [0], []),
  (10, .iload_n 1, 11, [1], []),
  (11, .invokevirtual 60, 14, [], []),
  (14, .ireturn, 15, [], []),
  (15, .iload_n 1, 16, [1], []),
  (16, .iconst 5, 17, [], [5]),
  (17, .if_icmp .lt 5, 20, [22], []),
  (20, .iconst 0, 21, [], [0]),
  (21, .ireturn, 22, [], []),
  (22, .aload_n 0, 23, [0], []),
  (23, .invokevirtual 34, 26, [], []),
  (26, .aload_n 0, 27, [0], []),
  (27, .iload_n 1, 28, [1], []),
  (28, .iconst 1, 29, [], [1]),
  (29, .iadd, 30, [], []),
  (30, .invokevirtual 57, 33, [], []),
  (33, .istore_n 2, 34, [2], []),
  (34, .aload_n 0, 35, [0], []),
  (35, .bipush (-7), 37, [], [(-7)]),
  (37, .invokevirtual 53, 40, [], []),
  (40, .iload_n 2, 41, [2], []),
  (41, .ireturn, 42, [], [])]
theorem zo_X8_negation : ab_ok cX8_negation zp_X8_negation = true := by decide +kernel
def zg_X8_negation (e : Nat) : ab_G := (zw_C, zs_tab, zf_X8, zc_X8, [], [(34, 1, zt_X8_advance), (53, 2, zt_X8_put), (57, 2, zt_X8_negation e), (60, 2, zt_X8_comparison (e + 1))], [])
theorem zm_X8_negation (e : Nat) : ab_MG (zg_X8_negation e) := ab_MGof (List.forall_mem_cons.mpr ⟨zt_X8_advance_mono, List.forall_mem_cons.mpr ⟨zt_X8_put_mono, List.forall_mem_cons.mpr ⟨zt_X8_negation_mono _, List.forall_mem_cons.mpr ⟨zt_X8_comparison_mono _, List.forall_mem_nil _⟩⟩⟩⟩) (List.forall_mem_nil _)
abbrev zr_X8_negation (e : Nat) (Q : ab_R) : ab_K := ab_Run (zg_X8_negation e) zp_X8_negation (some .boolean) 3 Q
set_option maxRecDepth 20000 in
theorem zv_X8_negation_0 {e : Nat} {Q : ab_R} {M : ab_M} {N : ab_N} (l1 : Int32) (h : ((M 4 3) = (12 : Int32) → (l1 < (5 : Int32) → zt_X8_advance [.ref 4] M N (fun r M2 N2 => zr_X8_negation e Q 26 [some (.ref 4), some (.int l1), none] (ab_ol r []) M2 N2)) ∧ (¬ (l1 < (5 : Int32)) → narrow .boolean (.int (0 : Int32)) = .int (0 : Int32) ∧ Q (some (.int (0 : Int32))) M N)) ∧ (¬ ((M 4 3) = (12 : Int32)) → zt_X8_comparison (e + 1) [.ref 4, .int l1] M N (fun r M2 N2 => zr_X8_negation e Q 14 [none, none, none] (ab_ol r []) M2 N2))) : zr_X8_negation e Q 0 [some (.ref 4), some (.int l1)] [] M N := ab_Run_s (zm_X8_negation e) (sp := [(14, [false, false, false]), (26, [true, true, false]), (33, [true, false, false]), (40, [false, false, true])]) 28 h
set_option maxRecDepth 20000 in
theorem zv_X8_negation_14 {e : Nat} {Q : ab_R} {M : ab_M} {N : ab_N} (s0 : Int32) (h : narrow .boolean (.int s0) = .int s0 ∧ Q (some (.int s0)) M N) : zr_X8_negation e Q 14 [none, none, none] [.int s0] M N := ab_Run_s (zm_X8_negation e) (sp := [(14, [false, false, false]), (26, [true, true, false]), (33, [true, false, false]), (40, [false, false, true])]) 28 h
set_option maxRecDepth 20000 in
theorem zv_X8_negation_26 {e : Nat} {Q : ab_R} {M : ab_M} {N : ab_N} (l1 : Int32) (h : zt_X8_negation e [.ref 4, .int (l1 + (1 : Int32))] M N (fun r M2 N2 => zr_X8_negation e Q 33 [some (.ref 4), none, none] (ab_ol r []) M2 N2)) : zr_X8_negation e Q 26 [some (.ref 4), some (.int l1), none] [] M N := ab_Run_s (zm_X8_negation e) (sp := [(14, [false, false, false]), (26, [true, true, false]), (33, [true, false, false]), (40, [false, false, true])]) 28 h
set_option maxRecDepth 20000 in
theorem zv_X8_negation_33 {e : Nat} {Q : ab_R} {M : ab_M} {N : ab_N} (s0 : Int32) (h : zt_X8_put [.ref 4, .int (-7 : Int32)] M N (fun r M2 N2 => zr_X8_negation e Q 40 [none, none, some (.int s0)] (ab_ol r []) M2 N2)) : zr_X8_negation e Q 33 [some (.ref 4), none, none] [.int s0] M N := ab_Run_s (zm_X8_negation e) (sp := [(14, [false, false, false]), (26, [true, true, false]), (33, [true, false, false]), (40, [false, false, true])]) 28 h
set_option maxRecDepth 20000 in
theorem zv_X8_negation_40 {e : Nat} {Q : ab_R} {M : ab_M} {N : ab_N} (l2 : Int32) (h : narrow .boolean (.int l2) = .int l2 ∧ Q (some (.int l2)) M N) : zr_X8_negation e Q 40 [none, none, some (.int l2)] [] M N := ab_Run_s (zm_X8_negation e) (sp := [(14, [false, false, false]), (26, [true, true, false]), (33, [true, false, false]), (40, [false, false, true])]) 28 h
theorem zE_X8_negation (e : Nat) (as : List Value) (M : ab_M) (N : ab_N) (k : ab_R) (hT : zt_X8_negation (e + 1) as M N k) : ab_cs as ≤ 3 ∧ zr_X8_negation e k 0 (ab_en as) [] M N := by
  obtain ⟨n, w, i, dn, o, rfl, ho, he, hp, hk⟩ := zt_P_e hT
  have hi := hp.2.2.2.2.1
  have hn := hp.1.1
  have hdn := hp.2.2.2.2.2.2.2
  have g0 := zPf_rf hp
  obtain ⟨b1, b2, b3, b4, b5⟩ := zTk_b (M 34) hi
  refine ⟨Nat.le_of_ble_eq_true rfl, zv_X8_negation_0 _ ?_⟩
  rw [hp.2.2.2.1.1]
  refine ⟨fun c => ⟨fun c2 => ?_, fun c2 => ?_⟩, fun c => ?_⟩
  · have ho5 : o < 5 := Nat.not_le.mp fun z => nI_nlt (a := o) (b := 5) z (by omega) c2
    refine zAdv_call hp g0 (by rw [c]; decide) (fun M2 g2 => zv_X8_negation_26 _ ?_)
    refine zP_call (e := e) (o := o + 1) hp g2 (by simp; omega) (by omega) (by omega) (nI_1 o) (fun b M3 i2 C2 g3 hP2 => zv_X8_negation_33 _ ?_)
    have hi2 := g3.2.2.2.1
    have hl2 := hP2.1
    refine zPut_call hp g3 (by rw [List.nil_append]; omega) (fun M4 g4 => zv_X8_negation_40 _ ⟨zNb (zPost_b hP2), hk b M4 i2 (C2 ++ [-7]) g4 ?_⟩)
    have cn : ∀ (K : List Nat) (mn : Bool), zCnd 4 true (M 34) n o i K mn → zCnd 4 true (M 34) n (o + 1) (zTk (M 34) n i).2.2.2 (13 :: K) true := fun K mn q => ⟨by show zRank 13 < 4; decide, by
      show (if 13 = 0 ∨ 13 = 13 ∨ 13 = 19 then 1 else 0) + zOp K = o + 1
      rw [if_pos (by decide), q.2.1]; omega, fun _ => rfl, fun z => absurd z (by decide)⟩
    have st : ∀ (K : List Nat) (O : List Int32) (mn : Bool), zCnd 4 true (M 34) n o i K mn → ∀ res : zYr, zR (M 34) n (zTk (M 34) n i).2.2.2 (13 :: K) O true res → zR (M 34) n i K O mn res := fun K O mn q res z => by
      rw [q.2.2.1 rfl]
      exact zR_not c (by rw [q.2.1]; omega) z
    refine ⟨by rw [List.length_append, List.length_cons, List.length_nil]; omega, ?_⟩
    rcases hP2.2 with ⟨rfl, hx, hc, hg⟩ | ⟨rfl, hb⟩
    · refine Or.inl ⟨rfl, hx, fun z z2 K O mn q => st K O mn q _ (hc z z2 _ _ _ (cn K mn q)), fun z K O mn q res hv => st K O mn q _ (hg z _ _ _ (cn K mn q) _ (zV_low (show zRank 13 < 7 by decide) (zA_col ?_ (by decide) ?_)))⟩
      · have z := z rfl
        simp only [List.mem_cons, List.not_mem_nil, or_false, not_or] at hx
        unfold zCm at z
        unfold zThr zSg zRank
        grind
      · have hv2 := zA_low (zLow_mono (by decide) q.1) hv
        rw [← List.append_assoc] at hv2
        exact hv2
    · exact Or.inr ⟨rfl, fun K O mn q => st K O mn q _ (hb _ _ _ (cn K mn q))⟩
  · have ho5 : o = 5 := by
      have : ¬ o < 5 := fun z => c2 (nI_lt (a := o) (b := 5) z (by omega))
      omega
    refine ⟨ab_n0, hk 0 M i [] g0 ⟨by simp, Or.inr ⟨rfl, fun K O mn q => ?_⟩⟩⟩
    rw [q.2.2.1 rfl]
    exact zR_fulln c (by rw [q.2.1, ho5])
  · refine zP_call (C := []) (e := e + 1) hp g0 (Nat.le_refl _) ho he rfl (fun b M2 i2 C2 g3 hP2 => zv_X8_negation_14 _ ⟨zNb (zPost_b hP2), hk b M2 i2 C2 g3 ?_⟩)
    have cn : ∀ (K : List Nat) (mn : Bool), zCnd 4 true (M 34) n o i K mn → zCnd 4 false (M 34) n o i K mn := fun K mn q => ⟨q.1, q.2.1, fun z => absurd z (by decide), fun _ z => absurd z c⟩
    exact ⟨hP2.1, hP2.2.elim (fun ⟨a, b2, c3, d⟩ => Or.inl ⟨a, b2, fun z z2 K O mn q => c3 z z2 K O mn (cn K mn q), fun z K O mn q => d z K O mn (cn K mn q)⟩) (fun ⟨a, c3⟩ => Or.inr ⟨a, fun K O mn q => c3 K O mn (cn K mn q)⟩)⟩
def zp_X8_both : ab_P := [(0, .aload_n 0, 1, [0], []),
  (1, .iload_n 1, 2, [1], []),
  (2, .invokevirtual 57, 5, [], []),
  (5, .istore_n 2, 6, [2], []),
  (6, .iconst 0, 7, [], [0]),
  (7, .istore_n 3, 8, [3], []),
  (8, .iload_n 3, 9, [3], []),
  (9, .sipush 160, 12, [], [160]),
  (12, .if_icmp .ge 38, 15, [50], []),
  (15, .iload_n 2, 16, [2], []),
  (16, .ifCond .eq 34, 19, [50], []),
  (19, .aload_n 0, 20, [0], []),
  (20, .getfield 37, 23, [], []),
  (23, .bipush 11, 25, [], [11]),
  (25, .if_icmp .ne 25, 28, [50], []),
  (28, .aload_n 0, 29, [0], []),
  (29, .invokevirtual 34, 32, [], []),
  (32, .aload_n 0, 33, [0], []),
  (33, .iload_n 1, 34, [1], []),
  (34, .invokevirtual 57, 37, [], []),
  (37, .istore_n 2, 38, [2], []),
  (38, .aload_n 0, 39, [0], []),
  (39, .bipush (-10), 41, [], [(-10)]),
  (41, .invokevirtual 53, 44, [], []),
  (44, .iinc 3 1, 47, [], [1]),
  (47, .goto (-39), 50, [8], []),
  (50, .iload_n 2, 51, [2], []),
  (51, .ireturn, 52, [], [])]
theorem zo_X8_both : ab_ok cX8_both zp_X8_both = true := by decide +kernel
def zg_X8_both (e : Nat) : ab_G := (zw_C, zs_tab, zf_X8, zc_X8, [], [(34, 1, zt_X8_advance), (53, 2, zt_X8_put), (57, 2, zt_X8_negation (e + 1))], [])
theorem zm_X8_both (e : Nat) : ab_MG (zg_X8_both e) := ab_MGof (List.forall_mem_cons.mpr ⟨zt_X8_advance_mono, List.forall_mem_cons.mpr ⟨zt_X8_put_mono, List.forall_mem_cons.mpr ⟨zt_X8_negation_mono _, List.forall_mem_nil _⟩⟩⟩) (List.forall_mem_nil _)
abbrev zr_X8_both (e : Nat) (Q : ab_R) : ab_K := ab_Run (zg_X8_both e) zp_X8_both (some .boolean) 4 Q
set_option maxRecDepth 20000 in
theorem zv_X8_both_0 {e : Nat} {Q : ab_R} {M : ab_M} {N : ab_N} (l1 : Int32) (h : zt_X8_negation (e + 1) [.ref 4, .int l1] M N (fun r M2 N2 => zr_X8_both e Q 5 [some (.ref 4), some (.int l1), none, none] (ab_ol r []) M2 N2)) : zr_X8_both e Q 0 [some (.ref 4), some (.int l1)] [] M N := ab_Run_s (zm_X8_both e) (sp := [(5, [true, true, false, false]), (8, [true, true, true, true]), (32, [true, true, false, true]), (37, [true, true, false, true]), (44, [true, true, true, true])]) 30 h
set_option maxRecDepth 20000 in
theorem zv_X8_both_5 {e : Nat} {Q : ab_R} {M : ab_M} {N : ab_N} (l1 : Int32) (s0 : Int32) (h : zr_X8_both e Q 8 [some (.ref 4), some (.int l1), some (.int s0), some (.int (0 : Int32))] [] M N) : zr_X8_both e Q 5 [some (.ref 4), some (.int l1), none, none] [.int s0] M N := ab_Run_s (zm_X8_both e) (sp := [(5, [true, true, false, false]), (8, [true, true, true, true]), (32, [true, true, false, true]), (37, [true, true, false, true]), (44, [true, true, true, true])]) 30 h
set_option maxRecDepth 20000 in
theorem zv_X8_both_8 {e : Nat} {Q : ab_R} {M : ab_M} {N : ab_N} (l1 : Int32) (l2 : Int32) (l3 : Int32) (h : ((160 : Int32) ≤ l3 → narrow .boolean (.int l2) = .int l2 ∧ Q (some (.int l2)) M N) ∧ (¬ ((160 : Int32) ≤ l3) → (l2 = 0 → narrow .boolean (.int l2) = .int l2 ∧ Q (some (.int l2)) M N) ∧ (¬ (l2 = 0) → ((M 4 3) = (11 : Int32) → zt_X8_advance [.ref 4] M N (fun r M2 N2 => zr_X8_both e Q 32 [some (.ref 4), some (.int l1), none, some (.int l3)] (ab_ol r []) M2 N2)) ∧ (¬ ((M 4 3) = (11 : Int32)) → narrow .boolean (.int l2) = .int l2 ∧ Q (some (.int l2)) M N)))) : zr_X8_both e Q 8 [some (.ref 4), some (.int l1), some (.int l2), some (.int l3)] [] M N := ab_Run_s (zm_X8_both e) (sp := [(5, [true, true, false, false]), (8, [true, true, true, true]), (32, [true, true, false, true]), (37, [true, true, false, true]), (44, [true, true, true, true])]) 30 h
set_option maxRecDepth 20000 in
theorem zv_X8_both_32 {e : Nat} {Q : ab_R} {M : ab_M} {N : ab_N} (l1 : Int32) (l3 : Int32) (h : zt_X8_negation (e + 1) [.ref 4, .int l1] M N (fun r M2 N2 => zr_X8_both e Q 37 [some (.ref 4), some (.int l1), none, some (.int l3)] (ab_ol r []) M2 N2)) : zr_X8_both e Q 32 [some (.ref 4), some (.int l1), none, some (.int l3)] [] M N := ab_Run_s (zm_X8_both e) (sp := [(5, [true, true, false, false]), (8, [true, true, true, true]), (32, [true, true, false, true]), (37, [true, true, false, true]), (44, [true, true, true, true])]) 30 h
set_option maxRecDepth 20000 in
theorem zv_X8_both_37 {e : Nat} {Q : ab_R} {M : ab_M} {N : ab_N} (l1 : Int32) (l3 : Int32) (s0 : Int32) (h : zt_X8_put [.ref 4, .int (-10 : Int32)] M N (fun r M2 N2 => zr_X8_both e Q 44 [some (.ref 4), some (.int l1), some (.int s0), some (.int l3)] (ab_ol r []) M2 N2)) : zr_X8_both e Q 37 [some (.ref 4), some (.int l1), none, some (.int l3)] [.int s0] M N := ab_Run_s (zm_X8_both e) (sp := [(5, [true, true, false, false]), (8, [true, true, true, true]), (32, [true, true, false, true]), (37, [true, true, false, true]), (44, [true, true, true, true])]) 30 h
set_option maxRecDepth 20000 in
theorem zv_X8_both_44 {e : Nat} {Q : ab_R} {M : ab_M} {N : ab_N} (l1 : Int32) (l2 : Int32) (l3 : Int32) (h : zr_X8_both e Q 8 [some (.ref 4), some (.int l1), some (.int l2), some (.int (l3 + (1 : Int32)))] [] M N) : zr_X8_both e Q 44 [some (.ref 4), some (.int l1), some (.int l2), some (.int l3)] [] M N := ab_Run_s (zm_X8_both e) (sp := [(5, [true, true, false, false]), (8, [true, true, true, true]), (32, [true, true, false, true]), (37, [true, true, false, true]), (44, [true, true, true, true])]) 30 h
theorem zL_X8_both {e : Nat} {Q : ab_R} {M : ab_M} {N : ab_N} {n w i dn o : Nat} (hp : zPp M n w i dn) (ho : o ≤ 5) (he : o + (e + 1) = 6) (hk : ∀ (b : Int32) (M2 : ab_M) (i2 : Nat) (C : List Int32), zPf M M2 n dn i2 C → zPost 2 true true [42, 43, 45, 11] (M 34) n o i i2 C b → Q (some (.int b)) M2 N) : ∀ (d t i1 : Nat) (C : List Int32) (b : Int32) (M1 : ab_M), n - i1 = d → t ≤ i1 → zPf M M1 n dn i1 C → zPost 2 true true [42, 43, 45] (M 34) n o i i1 C b → zr_X8_both e Q 8 [some (.ref 4), some (.int (nI o)), some (.int b), some (.int (nI t))] [] M1 N := by
  intro d
  induction d using Nat.strongRecOn with
  | _ d ih =>
    intro t i1 C b M1 hd ht g hP
    have hi1 := g.2.2.2.1
    have hn := hp.1.1
    have hdn := hp.2.2.2.2.2.2.2
    obtain ⟨b1, b2, b3, b4, b5⟩ := zTk_b (M 34) hi1
    have hb := zPost_b hP
    have fin : (b = 1 → (zTk (M 34) n i1).1 ≠ 11) → narrow .boolean (.int b) = .int b ∧ Q (some (.int b)) M1 N := fun z => ⟨zNb hb, hk b M1 i1 C g (zPost_ex hP (fun e1 q1 q => by
      simp only [List.mem_cons, List.not_mem_nil, or_false] at q q1
      have := z e1
      grind))⟩
    refine zv_X8_both_8 _ _ _ ⟨fun c => fin (fun _ => ?_), fun c => ⟨fun c2 => fin (fun e1 => by rw [e1] at c2; exact absurd c2 (by decide)), fun c2 => ?_⟩⟩
    · have h160 : 160 ≤ t := Nat.not_lt.mp fun z => nI_ge (a := t) (b := 160) z (by omega) c
      have hE := b4 (by omega)
      rw [hE]
      exact (by decide)
    · have eb : b = 1 := hb.resolve_right c2
      subst eb
      rw [g.2.2.1.1]
      have hl : i + C.length ≤ (zTk (M 34) n i1).2.2.2 := by have := hP.1; omega
      refine ⟨fun c3 => ?_, fun c3 => fin (fun _ => c3)⟩
      refine zAdv_call hp g (by rw [c3]; decide) (fun M2 g2 => zv_X8_both_32 _ _ ?_)
      refine zP_call (e := e + 1) hp g2 hl ho he rfl (fun bb M3 i2 C2 g3 hP2 => zv_X8_both_37 _ _ _ ?_)
      have hi2 := g3.2.2.2.1
      have hl2 := hP2.1
      refine zPut_call hp g3 (by rw [List.length_append]; have := hP.1; omega) (fun M4 g4 => zv_X8_both_44 _ _ _ ?_)
      rw [nI_1]
      refine ih (n - i2) (by omega) (t + 1) i2 _ bb M4 rfl (by omega) g4 ?_
      exact zPost_bin (s := 12) hP (by rw [c3]; rfl) (by decide) (by decide) (by decide) rfl (by decide) (by decide) (by decide) (by decide) rfl hi1 (fun t ht hc => by simp only [List.mem_cons, List.not_mem_nil, or_false, not_or] at ht; have hc := hc rfl; unfold zCm at hc; unfold zThr zSg zRank; grind) hP2
theorem zE_X8_both (e : Nat) (as : List Value) (M : ab_M) (N : ab_N) (k : ab_R) (hT : zt_X8_both (e + 1) as M N k) : ab_cs as ≤ 4 ∧ zr_X8_both e k 0 (ab_en as) [] M N := by
  obtain ⟨n, w, i, dn, o, rfl, ho, he, hp, hk⟩ := zt_P_e hT
  refine ⟨Nat.le_of_ble_eq_true rfl, zv_X8_both_0 _ ?_⟩
  refine zP_call (C := []) (e := e + 1) hp (zPf_rf hp) (Nat.le_refl _) ho he rfl (fun b M2 i2 C2 g3 hP2 => zv_X8_both_5 _ _ ?_)
  exact zL_X8_both hp ho he hk (n - i2) 0 i2 C2 b M2 rfl (Nat.zero_le _) g3 (zPost_weak (by decide) hP2)
def zp_X8_either : ab_P := [(0, .aload_n 0, 1, [0], []),
  (1, .iload_n 1, 2, [1], []),
  (2, .invokevirtual 50, 5, [], []),
  (5, .istore_n 2, 6, [2], []),
  (6, .iconst 0, 7, [], [0]),
  (7, .istore_n 3, 8, [3], []),
  (8, .iload_n 3, 9, [3], []),
  (9, .sipush 160, 12, [], [160]),
  (12, .if_icmp .ge 38, 15, [50], []),
  (15, .iload_n 2, 16, [2], []),
  (16, .ifCond .eq 34, 19, [50], []),
  (19, .aload_n 0, 20, [0], []),
  (20, .getfield 37, 23, [], []),
  (23, .bipush 10, 25, [], [10]),
  (25, .if_icmp .ne 25, 28, [50], []),
  (28, .aload_n 0, 29, [0], []),
  (29, .invokevirtual 34, 32, [], []),
  (32, .aload_n 0, 33, [0], []),
  (33, .iload_n 1, 34, [1], []),
  (34, .invokevirtual 50, 37, [], []),
  (37, .istore_n 2, 38, [2], []),
  (38, .aload_n 0, 39, [0], []),
  (39, .bipush (-9), 41, [], [(-9)]),
  (41, .invokevirtual 53, 44, [], []),
  (44, .iinc 3 1, 47, [], [1]),
  (47, .goto (-39), 50, [8], []),
  (50, .iload_n 2, 51, [2], []),
  (51, .ireturn, 52, [], [])]
theorem zo_X8_either : ab_ok cX8_either zp_X8_either = true := by decide +kernel
def zg_X8_either (e : Nat) : ab_G := (zw_C, zs_tab, zf_X8, zc_X8, [], [(34, 1, zt_X8_advance), (50, 2, zt_X8_both (e + 1)), (53, 2, zt_X8_put)], [])
theorem zm_X8_either (e : Nat) : ab_MG (zg_X8_either e) := ab_MGof (List.forall_mem_cons.mpr ⟨zt_X8_advance_mono, List.forall_mem_cons.mpr ⟨zt_X8_both_mono _, List.forall_mem_cons.mpr ⟨zt_X8_put_mono, List.forall_mem_nil _⟩⟩⟩) (List.forall_mem_nil _)
abbrev zr_X8_either (e : Nat) (Q : ab_R) : ab_K := ab_Run (zg_X8_either e) zp_X8_either (some .boolean) 4 Q
set_option maxRecDepth 20000 in
theorem zv_X8_either_0 {e : Nat} {Q : ab_R} {M : ab_M} {N : ab_N} (l1 : Int32) (h : zt_X8_both (e + 1) [.ref 4, .int l1] M N (fun r M2 N2 => zr_X8_either e Q 5 [some (.ref 4), some (.int l1), none, none] (ab_ol r []) M2 N2)) : zr_X8_either e Q 0 [some (.ref 4), some (.int l1)] [] M N := ab_Run_s (zm_X8_either e) (sp := [(5, [true, true, false, false]), (8, [true, true, true, true]), (32, [true, true, false, true]), (37, [true, true, false, true]), (44, [true, true, true, true])]) 30 h
set_option maxRecDepth 20000 in
theorem zv_X8_either_5 {e : Nat} {Q : ab_R} {M : ab_M} {N : ab_N} (l1 : Int32) (s0 : Int32) (h : zr_X8_either e Q 8 [some (.ref 4), some (.int l1), some (.int s0), some (.int (0 : Int32))] [] M N) : zr_X8_either e Q 5 [some (.ref 4), some (.int l1), none, none] [.int s0] M N := ab_Run_s (zm_X8_either e) (sp := [(5, [true, true, false, false]), (8, [true, true, true, true]), (32, [true, true, false, true]), (37, [true, true, false, true]), (44, [true, true, true, true])]) 30 h
set_option maxRecDepth 20000 in
theorem zv_X8_either_8 {e : Nat} {Q : ab_R} {M : ab_M} {N : ab_N} (l1 : Int32) (l2 : Int32) (l3 : Int32) (h : ((160 : Int32) ≤ l3 → narrow .boolean (.int l2) = .int l2 ∧ Q (some (.int l2)) M N) ∧ (¬ ((160 : Int32) ≤ l3) → (l2 = 0 → narrow .boolean (.int l2) = .int l2 ∧ Q (some (.int l2)) M N) ∧ (¬ (l2 = 0) → ((M 4 3) = (10 : Int32) → zt_X8_advance [.ref 4] M N (fun r M2 N2 => zr_X8_either e Q 32 [some (.ref 4), some (.int l1), none, some (.int l3)] (ab_ol r []) M2 N2)) ∧ (¬ ((M 4 3) = (10 : Int32)) → narrow .boolean (.int l2) = .int l2 ∧ Q (some (.int l2)) M N)))) : zr_X8_either e Q 8 [some (.ref 4), some (.int l1), some (.int l2), some (.int l3)] [] M N := ab_Run_s (zm_X8_either e) (sp := [(5, [true, true, false, false]), (8, [true, true, true, true]), (32, [true, true, false, true]), (37, [true, true, false, true]), (44, [true, true, true, true])]) 30 h
set_option maxRecDepth 20000 in
theorem zv_X8_either_32 {e : Nat} {Q : ab_R} {M : ab_M} {N : ab_N} (l1 : Int32) (l3 : Int32) (h : zt_X8_both (e + 1) [.ref 4, .int l1] M N (fun r M2 N2 => zr_X8_either e Q 37 [some (.ref 4), some (.int l1), none, some (.int l3)] (ab_ol r []) M2 N2)) : zr_X8_either e Q 32 [some (.ref 4), some (.int l1), none, some (.int l3)] [] M N := ab_Run_s (zm_X8_either e) (sp := [(5, [true, true, false, false]), (8, [true, true, true, true]), (32, [true, true, false, true]), (37, [true, true, false, true]), (44, [true, true, true, true])]) 30 h
set_option maxRecDepth 20000 in
theorem zv_X8_either_37 {e : Nat} {Q : ab_R} {M : ab_M} {N : ab_N} (l1 : Int32) (l3 : Int32) (s0 : Int32) (h : zt_X8_put [.ref 4, .int (-9 : Int32)] M N (fun r M2 N2 => zr_X8_either e Q 44 [some (.ref 4), some (.int l1), some (.int s0), some (.int l3)] (ab_ol r []) M2 N2)) : zr_X8_either e Q 37 [some (.ref 4), some (.int l1), none, some (.int l3)] [.int s0] M N := ab_Run_s (zm_X8_either e) (sp := [(5, [true, true, false, false]), (8, [true, true, true, true]), (32, [true, true, false, true]), (37, [true, true, false, true]), (44, [true, true, true, true])]) 30 h
set_option maxRecDepth 20000 in
theorem zv_X8_either_44 {e : Nat} {Q : ab_R} {M : ab_M} {N : ab_N} (l1 : Int32) (l2 : Int32) (l3 : Int32) (h : zr_X8_either e Q 8 [some (.ref 4), some (.int l1), some (.int l2), some (.int (l3 + (1 : Int32)))] [] M N) : zr_X8_either e Q 44 [some (.ref 4), some (.int l1), some (.int l2), some (.int l3)] [] M N := ab_Run_s (zm_X8_either e) (sp := [(5, [true, true, false, false]), (8, [true, true, true, true]), (32, [true, true, false, true]), (37, [true, true, false, true]), (44, [true, true, true, true])]) 30 h
theorem zL_X8_either {e : Nat} {Q : ab_R} {M : ab_M} {N : ab_N} {n w i dn o : Nat} (hp : zPp M n w i dn) (ho : o ≤ 5) (he : o + (e + 1) = 6) (hk : ∀ (b : Int32) (M2 : ab_M) (i2 : Nat) (C : List Int32), zPf M M2 n dn i2 C → zPost 1 true true [42, 43, 45, 11, 10] (M 34) n o i i2 C b → Q (some (.int b)) M2 N) : ∀ (d t i1 : Nat) (C : List Int32) (b : Int32) (M1 : ab_M), n - i1 = d → t ≤ i1 → zPf M M1 n dn i1 C → zPost 1 true true [42, 43, 45, 11] (M 34) n o i i1 C b → zr_X8_either e Q 8 [some (.ref 4), some (.int (nI o)), some (.int b), some (.int (nI t))] [] M1 N := by
  intro d
  induction d using Nat.strongRecOn with
  | _ d ih =>
    intro t i1 C b M1 hd ht g hP
    have hi1 := g.2.2.2.1
    have hn := hp.1.1
    have hdn := hp.2.2.2.2.2.2.2
    obtain ⟨b1, b2, b3, b4, b5⟩ := zTk_b (M 34) hi1
    have hb := zPost_b hP
    have fin : (b = 1 → (zTk (M 34) n i1).1 ≠ 10) → narrow .boolean (.int b) = .int b ∧ Q (some (.int b)) M1 N := fun z => ⟨zNb hb, hk b M1 i1 C g (zPost_ex hP (fun e1 q1 q => by
      simp only [List.mem_cons, List.not_mem_nil, or_false] at q q1
      have := z e1
      grind))⟩
    refine zv_X8_either_8 _ _ _ ⟨fun c => fin (fun _ => ?_), fun c => ⟨fun c2 => fin (fun e1 => by rw [e1] at c2; exact absurd c2 (by decide)), fun c2 => ?_⟩⟩
    · have h160 : 160 ≤ t := Nat.not_lt.mp fun z => nI_ge (a := t) (b := 160) z (by omega) c
      have hE := b4 (by omega)
      rw [hE]
      exact (by decide)
    · have eb : b = 1 := hb.resolve_right c2
      subst eb
      rw [g.2.2.1.1]
      have hl : i + C.length ≤ (zTk (M 34) n i1).2.2.2 := by have := hP.1; omega
      refine ⟨fun c3 => ?_, fun c3 => fin (fun _ => c3)⟩
      refine zAdv_call hp g (by rw [c3]; decide) (fun M2 g2 => zv_X8_either_32 _ _ ?_)
      refine zP_call (e := e + 1) hp g2 hl ho he rfl (fun bb M3 i2 C2 g3 hP2 => zv_X8_either_37 _ _ _ ?_)
      have hi2 := g3.2.2.2.1
      have hl2 := hP2.1
      refine zPut_call hp g3 (by rw [List.length_append]; have := hP.1; omega) (fun M4 g4 => zv_X8_either_44 _ _ _ ?_)
      rw [nI_1]
      refine ih (n - i2) (by omega) (t + 1) i2 _ bb M4 rfl (by omega) g4 ?_
      exact zPost_bin (s := 11) hP (by rw [c3]; rfl) (by decide) (by decide) (by decide) rfl (by decide) (by decide) (by decide) (by decide) rfl hi1 (fun t ht hc => by simp only [List.mem_cons, List.not_mem_nil, or_false, not_or] at ht; have hc := hc rfl; unfold zCm at hc; unfold zThr zSg zRank; grind) hP2
theorem zE_X8_either (e : Nat) (as : List Value) (M : ab_M) (N : ab_N) (k : ab_R) (hT : zt_X8_either (e + 1) as M N k) : ab_cs as ≤ 4 ∧ zr_X8_either e k 0 (ab_en as) [] M N := by
  obtain ⟨n, w, i, dn, o, rfl, ho, he, hp, hk⟩ := zt_P_e hT
  refine ⟨Nat.le_of_ble_eq_true rfl, zv_X8_either_0 _ ?_⟩
  refine zP_call (C := []) (e := e + 1) hp (zPf_rf hp) (Nat.le_refl _) ho he rfl (fun b M2 i2 C2 g3 hP2 => zv_X8_either_5 _ _ ?_)
  exact zL_X8_either hp ho he hk (n - i2) 0 i2 C2 b M2 rfl (Nat.zero_le _) g3 (zPost_weak (by decide) hP2)
end
section
/-! the parser's methods: contracts, level by level *)
-/
abbrev zR_P (q e : Nat) : Room := { frames := 7 * e + q + 10, cells := 0, slots := 0, locals := (7 * e + q) * 30 + 300 }
theorem ab_Met_no {l : Launch} {Λ : List ab_L} {cl : List vw_C} {Z : ab_Zt} {y : MethodName} {bytes : ByteArray} {nL : Nat} {ret : Option FieldType} {rm : Room} {T : ab_T} (h : ∀ (as : List Value) (M : ab_M) (N : ab_N) (k : ab_R), ¬ T as M N k) : ab_Met l Λ cl Z y bytes nL ret rm T := fun D cy ad sz as M N k hi hT => absurd hT (h as M N k)
theorem zt_P_0 {r : Nat} {nt isC : Bool} {ex : List Int32} (as : List Value) (M : ab_M) (N : ab_N) (k : ab_R) : ¬ zt_P r nt isC ex 0 as M N k := fun h => by
  obtain ⟨n, w, i, dn, o, -, h1, h2, -⟩ := zt_P_e h
  omega
set_option maxRecDepth 20000 in
theorem zMs_X8_one (l : Launch) (e : Nat) (h_either : ab_Met l zw_C vwCl zZ_C yX8_either cX8_either 4 (some .boolean) (zR_P 6 e) (zt_X8_either e)) (h_one : ab_Met l zw_C vwCl zZ_C yX8_one cX8_one 4 (some .boolean) (zR_P 0 e) (zt_X8_one e)) : ab_Met l zw_C vwCl zZ_C yX8_one cX8_one 4 (some .boolean) (zR_P 0 (e + 1)) (zt_X8_one (e + 1)) := ab_ofRun (G := zg_X8_one e) (P := zp_X8_one) rfl zo_X8_one (by decide +kernel) zl_cl zl_lamC zf_X8_ok zs_tabOK zc_X8_ok ab_Sta_nil (List.forall_mem_cons.mpr ⟨ab_callV zZ_C_ok (zM_X8_advance l) (ab_in 440 (by decide +kernel) rfl) (show Cond.methodLink RX8 34 yX8_advance ∈ ab_B from ab_in 437 (by decide +kernel) rfl) (ab_in 439 (by decide +kernel) rfl) (ab_inS (List.mem_of_getElem? (i := 0) (by decide +kernel)) rfl) (ab_in 5 (by decide +kernel) rfl) (by unfold ab_yok; decide +kernel) ⟨rfl, rfl⟩ (by constructor <;> (dsimp only; omega)) zV_X8_advance, List.forall_mem_cons.mpr ⟨ab_callV zZ_C_ok h_either (ab_in 468 (by decide +kernel) rfl) (show Cond.methodLink RX8 43 yX8_either ∈ ab_B from ab_in 465 (by decide +kernel) rfl) (ab_in 467 (by decide +kernel) rfl) (ab_inS (List.mem_of_getElem? (i := 4) (by decide +kernel)) rfl) (ab_in 5 (by decide +kernel) rfl) (by unfold ab_yok; decide +kernel) ⟨rfl, rfl⟩ (by constructor <;> (dsimp only; omega)) (zV_X8_either e), List.forall_mem_cons.mpr ⟨ab_callV zZ_C_ok (zM_X8_put l) (ab_in 496 (by decide +kernel) rfl) (show Cond.methodLink RX8 53 yX8_put ∈ ab_B from ab_in 493 (by decide +kernel) rfl) (ab_in 495 (by decide +kernel) rfl) (ab_inS (List.mem_of_getElem? (i := 11) (by decide +kernel)) rfl) (ab_in 5 (by decide +kernel) rfl) (by unfold ab_yok; decide +kernel) ⟨rfl, rfl⟩ (by constructor <;> (dsimp only; omega)) zV_X8_put, List.forall_mem_cons.mpr ⟨ab_callV zZ_C_ok h_one (ab_in 492 (by decide +kernel) rfl) (show Cond.methodLink RX8 69 yX8_one ∈ ab_B from ab_in 489 (by decide +kernel) rfl) (ab_in 491 (by decide +kernel) rfl) (ab_inS (List.mem_of_getElem? (i := 10) (by decide +kernel)) rfl) (ab_in 5 (by decide +kernel) rfl) (by unfold ab_yok; decide +kernel) ⟨rfl, rfl⟩ (by constructor <;> (dsimp only; omega)) (zV_X8_one e), List.forall_mem_nil _⟩⟩⟩⟩) (List.forall_mem_nil _) (zE_X8_one e)
set_option maxRecDepth 20000 in
theorem zMs_X8_term (l : Launch) (e : Nat) (h_one : ab_Met l zw_C vwCl zZ_C yX8_one cX8_one 4 (some .boolean) (zR_P 0 (e + 1)) (zt_X8_one (e + 1))) : ab_Met l zw_C vwCl zZ_C yX8_term cX8_term 4 (some .boolean) (zR_P 1 (e + 1)) (zt_X8_term (e + 1)) := ab_ofRun (G := zg_X8_term e) (P := zp_X8_term) rfl zo_X8_term (by decide +kernel) zl_cl zl_lamC zf_X8_ok zs_tabOK zc_X8_ok ab_Sta_nil (List.forall_mem_cons.mpr ⟨ab_callV zZ_C_ok (zM_X8_advance l) (ab_in 440 (by decide +kernel) rfl) (show Cond.methodLink RX8 34 yX8_advance ∈ ab_B from ab_in 437 (by decide +kernel) rfl) (ab_in 439 (by decide +kernel) rfl) (ab_inS (List.mem_of_getElem? (i := 0) (by decide +kernel)) rfl) (ab_in 5 (by decide +kernel) rfl) (by unfold ab_yok; decide +kernel) ⟨rfl, rfl⟩ (by constructor <;> (dsimp only; omega)) zV_X8_advance, List.forall_mem_cons.mpr ⟨ab_callV zZ_C_ok (zM_X8_put l) (ab_in 496 (by decide +kernel) rfl) (show Cond.methodLink RX8 53 yX8_put ∈ ab_B from ab_in 493 (by decide +kernel) rfl) (ab_in 495 (by decide +kernel) rfl) (ab_inS (List.mem_of_getElem? (i := 11) (by decide +kernel)) rfl) (ab_in 5 (by decide +kernel) rfl) (by unfold ab_yok; decide +kernel) ⟨rfl, rfl⟩ (by constructor <;> (dsimp only; omega)) zV_X8_put, List.forall_mem_cons.mpr ⟨ab_callV zZ_C_ok h_one (ab_in 492 (by decide +kernel) rfl) (show Cond.methodLink RX8 69 yX8_one ∈ ab_B from ab_in 489 (by decide +kernel) rfl) (ab_in 491 (by decide +kernel) rfl) (ab_inS (List.mem_of_getElem? (i := 10) (by decide +kernel)) rfl) (ab_in 5 (by decide +kernel) rfl) (by unfold ab_yok; decide +kernel) ⟨rfl, rfl⟩ (by constructor <;> (dsimp only; omega)) (zV_X8_one (e + 1)), List.forall_mem_nil _⟩⟩⟩) (List.forall_mem_nil _) (zE_X8_term e)
set_option maxRecDepth 20000 in
theorem zMs_X8_sum (l : Launch) (e : Nat) (h_term : ab_Met l zw_C vwCl zZ_C yX8_term cX8_term 4 (some .boolean) (zR_P 1 (e + 1)) (zt_X8_term (e + 1))) : ab_Met l zw_C vwCl zZ_C yX8_sum cX8_sum 5 (some .boolean) (zR_P 2 (e + 1)) (zt_X8_sum (e + 1)) := ab_ofRun (G := zg_X8_sum e) (P := zp_X8_sum) rfl zo_X8_sum (by decide +kernel) zl_cl zl_lamC zf_X8_ok zs_tabOK zc_X8_ok ab_Sta_nil (List.forall_mem_cons.mpr ⟨ab_callV zZ_C_ok (zM_X8_advance l) (ab_in 440 (by decide +kernel) rfl) (show Cond.methodLink RX8 34 yX8_advance ∈ ab_B from ab_in 437 (by decide +kernel) rfl) (ab_in 439 (by decide +kernel) rfl) (ab_inS (List.mem_of_getElem? (i := 0) (by decide +kernel)) rfl) (ab_in 5 (by decide +kernel) rfl) (by unfold ab_yok; decide +kernel) ⟨rfl, rfl⟩ (by constructor <;> (dsimp only; omega)) zV_X8_advance, List.forall_mem_cons.mpr ⟨ab_callV zZ_C_ok (zM_X8_put l) (ab_in 496 (by decide +kernel) rfl) (show Cond.methodLink RX8 53 yX8_put ∈ ab_B from ab_in 493 (by decide +kernel) rfl) (ab_in 495 (by decide +kernel) rfl) (ab_inS (List.mem_of_getElem? (i := 11) (by decide +kernel)) rfl) (ab_in 5 (by decide +kernel) rfl) (by unfold ab_yok; decide +kernel) ⟨rfl, rfl⟩ (by constructor <;> (dsimp only; omega)) zV_X8_put, List.forall_mem_cons.mpr ⟨ab_callV zZ_C_ok h_term (ab_in 488 (by decide +kernel) rfl) (show Cond.methodLink RX8 66 yX8_term ∈ ab_B from ab_in 485 (by decide +kernel) rfl) (ab_in 487 (by decide +kernel) rfl) (ab_inS (List.mem_of_getElem? (i := 9) (by decide +kernel)) rfl) (ab_in 5 (by decide +kernel) rfl) (by unfold ab_yok; decide +kernel) ⟨rfl, rfl⟩ (by constructor <;> (dsimp only; omega)) (zV_X8_term (e + 1)), List.forall_mem_nil _⟩⟩⟩) (List.forall_mem_nil _) (zE_X8_sum e)
set_option maxRecDepth 20000 in
theorem zMs_X8_comparison (l : Launch) (e : Nat) (h_sum : ab_Met l zw_C vwCl zZ_C yX8_sum cX8_sum 5 (some .boolean) (zR_P 2 (e + 1)) (zt_X8_sum (e + 1))) : ab_Met l zw_C vwCl zZ_C yX8_comparison cX8_comparison 4 (some .boolean) (zR_P 3 (e + 1)) (zt_X8_comparison (e + 1)) := ab_ofRun (G := zg_X8_comparison e) (P := zp_X8_comparison) rfl zo_X8_comparison (by decide +kernel) zl_cl zl_lamC zf_X8_ok zs_tabOK zc_X8_ok ab_Sta_nil (List.forall_mem_cons.mpr ⟨ab_callV zZ_C_ok (zM_X8_advance l) (ab_in 440 (by decide +kernel) rfl) (show Cond.methodLink RX8 34 yX8_advance ∈ ab_B from ab_in 437 (by decide +kernel) rfl) (ab_in 439 (by decide +kernel) rfl) (ab_inS (List.mem_of_getElem? (i := 0) (by decide +kernel)) rfl) (ab_in 5 (by decide +kernel) rfl) (by unfold ab_yok; decide +kernel) ⟨rfl, rfl⟩ (by constructor <;> (dsimp only; omega)) zV_X8_advance, List.forall_mem_cons.mpr ⟨ab_callV zZ_C_ok (zM_X8_put l) (ab_in 496 (by decide +kernel) rfl) (show Cond.methodLink RX8 53 yX8_put ∈ ab_B from ab_in 493 (by decide +kernel) rfl) (ab_in 495 (by decide +kernel) rfl) (ab_inS (List.mem_of_getElem? (i := 11) (by decide +kernel)) rfl) (ab_in 5 (by decide +kernel) rfl) (by unfold ab_yok; decide +kernel) ⟨rfl, rfl⟩ (by constructor <;> (dsimp only; omega)) zV_X8_put, List.forall_mem_cons.mpr ⟨ab_callV zZ_C_ok h_sum (ab_in 484 (by decide +kernel) rfl) (show Cond.methodLink RX8 63 yX8_sum ∈ ab_B from ab_in 481 (by decide +kernel) rfl) (ab_in 483 (by decide +kernel) rfl) (ab_inS (List.mem_of_getElem? (i := 8) (by decide +kernel)) rfl) (ab_in 5 (by decide +kernel) rfl) (by unfold ab_yok; decide +kernel) ⟨rfl, rfl⟩ (by constructor <;> (dsimp only; omega)) (zV_X8_sum (e + 1)), List.forall_mem_nil _⟩⟩⟩) (List.forall_mem_nil _) (zE_X8_comparison e)
set_option maxRecDepth 20000 in
theorem zMs_X8_negation (l : Launch) (e : Nat) (h_negation : ab_Met l zw_C vwCl zZ_C yX8_negation cX8_negation 3 (some .boolean) (zR_P 4 e) (zt_X8_negation e)) (h_comparison : ab_Met l zw_C vwCl zZ_C yX8_comparison cX8_comparison 4 (some .boolean) (zR_P 3 (e + 1)) (zt_X8_comparison (e + 1))) : ab_Met l zw_C vwCl zZ_C yX8_negation cX8_negation 3 (some .boolean) (zR_P 4 (e + 1)) (zt_X8_negation (e + 1)) := ab_ofRun (G := zg_X8_negation e) (P := zp_X8_negation) rfl zo_X8_negation (by decide +kernel) zl_cl zl_lamC zf_X8_ok zs_tabOK zc_X8_ok ab_Sta_nil (List.forall_mem_cons.mpr ⟨ab_callV zZ_C_ok (zM_X8_advance l) (ab_in 440 (by decide +kernel) rfl) (show Cond.methodLink RX8 34 yX8_advance ∈ ab_B from ab_in 437 (by decide +kernel) rfl) (ab_in 439 (by decide +kernel) rfl) (ab_inS (List.mem_of_getElem? (i := 0) (by decide +kernel)) rfl) (ab_in 5 (by decide +kernel) rfl) (by unfold ab_yok; decide +kernel) ⟨rfl, rfl⟩ (by constructor <;> (dsimp only; omega)) zV_X8_advance, List.forall_mem_cons.mpr ⟨ab_callV zZ_C_ok (zM_X8_put l) (ab_in 496 (by decide +kernel) rfl) (show Cond.methodLink RX8 53 yX8_put ∈ ab_B from ab_in 493 (by decide +kernel) rfl) (ab_in 495 (by decide +kernel) rfl) (ab_inS (List.mem_of_getElem? (i := 11) (by decide +kernel)) rfl) (ab_in 5 (by decide +kernel) rfl) (by unfold ab_yok; decide +kernel) ⟨rfl, rfl⟩ (by constructor <;> (dsimp only; omega)) zV_X8_put, List.forall_mem_cons.mpr ⟨ab_callV zZ_C_ok h_negation (ab_in 476 (by decide +kernel) rfl) (show Cond.methodLink RX8 57 yX8_negation ∈ ab_B from ab_in 473 (by decide +kernel) rfl) (ab_in 475 (by decide +kernel) rfl) (ab_inS (List.mem_of_getElem? (i := 6) (by decide +kernel)) rfl) (ab_in 5 (by decide +kernel) rfl) (by unfold ab_yok; decide +kernel) ⟨rfl, rfl⟩ (by constructor <;> (dsimp only; omega)) (zV_X8_negation e), List.forall_mem_cons.mpr ⟨ab_callV zZ_C_ok h_comparison (ab_in 480 (by decide +kernel) rfl) (show Cond.methodLink RX8 60 yX8_comparison ∈ ab_B from ab_in 477 (by decide +kernel) rfl) (ab_in 479 (by decide +kernel) rfl) (ab_inS (List.mem_of_getElem? (i := 7) (by decide +kernel)) rfl) (ab_in 5 (by decide +kernel) rfl) (by unfold ab_yok; decide +kernel) ⟨rfl, rfl⟩ (by constructor <;> (dsimp only; omega)) (zV_X8_comparison (e + 1)), List.forall_mem_nil _⟩⟩⟩⟩) (List.forall_mem_nil _) (zE_X8_negation e)
set_option maxRecDepth 20000 in
theorem zMs_X8_both (l : Launch) (e : Nat) (h_negation : ab_Met l zw_C vwCl zZ_C yX8_negation cX8_negation 3 (some .boolean) (zR_P 4 (e + 1)) (zt_X8_negation (e + 1))) : ab_Met l zw_C vwCl zZ_C yX8_both cX8_both 4 (some .boolean) (zR_P 5 (e + 1)) (zt_X8_both (e + 1)) := ab_ofRun (G := zg_X8_both e) (P := zp_X8_both) rfl zo_X8_both (by decide +kernel) zl_cl zl_lamC zf_X8_ok zs_tabOK zc_X8_ok ab_Sta_nil (List.forall_mem_cons.mpr ⟨ab_callV zZ_C_ok (zM_X8_advance l) (ab_in 440 (by decide +kernel) rfl) (show Cond.methodLink RX8 34 yX8_advance ∈ ab_B from ab_in 437 (by decide +kernel) rfl) (ab_in 439 (by decide +kernel) rfl) (ab_inS (List.mem_of_getElem? (i := 0) (by decide +kernel)) rfl) (ab_in 5 (by decide +kernel) rfl) (by unfold ab_yok; decide +kernel) ⟨rfl, rfl⟩ (by constructor <;> (dsimp only; omega)) zV_X8_advance, List.forall_mem_cons.mpr ⟨ab_callV zZ_C_ok (zM_X8_put l) (ab_in 496 (by decide +kernel) rfl) (show Cond.methodLink RX8 53 yX8_put ∈ ab_B from ab_in 493 (by decide +kernel) rfl) (ab_in 495 (by decide +kernel) rfl) (ab_inS (List.mem_of_getElem? (i := 11) (by decide +kernel)) rfl) (ab_in 5 (by decide +kernel) rfl) (by unfold ab_yok; decide +kernel) ⟨rfl, rfl⟩ (by constructor <;> (dsimp only; omega)) zV_X8_put, List.forall_mem_cons.mpr ⟨ab_callV zZ_C_ok h_negation (ab_in 476 (by decide +kernel) rfl) (show Cond.methodLink RX8 57 yX8_negation ∈ ab_B from ab_in 473 (by decide +kernel) rfl) (ab_in 475 (by decide +kernel) rfl) (ab_inS (List.mem_of_getElem? (i := 6) (by decide +kernel)) rfl) (ab_in 5 (by decide +kernel) rfl) (by unfold ab_yok; decide +kernel) ⟨rfl, rfl⟩ (by constructor <;> (dsimp only; omega)) (zV_X8_negation (e + 1)), List.forall_mem_nil _⟩⟩⟩) (List.forall_mem_nil _) (zE_X8_both e)
set_option maxRecDepth 20000 in
theorem zMs_X8_either (l : Launch) (e : Nat) (h_both : ab_Met l zw_C vwCl zZ_C yX8_both cX8_both 4 (some .boolean) (zR_P 5 (e + 1)) (zt_X8_both (e + 1))) : ab_Met l zw_C vwCl zZ_C yX8_either cX8_either 4 (some .boolean) (zR_P 6 (e + 1)) (zt_X8_either (e + 1)) := ab_ofRun (G := zg_X8_either e) (P := zp_X8_either) rfl zo_X8_either (by decide +kernel) zl_cl zl_lamC zf_X8_ok zs_tabOK zc_X8_ok ab_Sta_nil (List.forall_mem_cons.mpr ⟨ab_callV zZ_C_ok (zM_X8_advance l) (ab_in 440 (by decide +kernel) rfl) (show Cond.methodLink RX8 34 yX8_advance ∈ ab_B from ab_in 437 (by decide +kernel) rfl) (ab_in 439 (by decide +kernel) rfl) (ab_inS (List.mem_of_getElem? (i := 0) (by decide +kernel)) rfl) (ab_in 5 (by decide +kernel) rfl) (by unfold ab_yok; decide +kernel) ⟨rfl, rfl⟩ (by constructor <;> (dsimp only; omega)) zV_X8_advance, List.forall_mem_cons.mpr ⟨ab_callV zZ_C_ok h_both (ab_in 472 (by decide +kernel) rfl) (show Cond.methodLink RX8 50 yX8_both ∈ ab_B from ab_in 469 (by decide +kernel) rfl) (ab_in 471 (by decide +kernel) rfl) (ab_inS (List.mem_of_getElem? (i := 5) (by decide +kernel)) rfl) (ab_in 5 (by decide +kernel) rfl) (by unfold ab_yok; decide +kernel) ⟨rfl, rfl⟩ (by constructor <;> (dsimp only; omega)) (zV_X8_both (e + 1)), List.forall_mem_cons.mpr ⟨ab_callV zZ_C_ok (zM_X8_put l) (ab_in 496 (by decide +kernel) rfl) (show Cond.methodLink RX8 53 yX8_put ∈ ab_B from ab_in 493 (by decide +kernel) rfl) (ab_in 495 (by decide +kernel) rfl) (ab_inS (List.mem_of_getElem? (i := 11) (by decide +kernel)) rfl) (ab_in 5 (by decide +kernel) rfl) (by unfold ab_yok; decide +kernel) ⟨rfl, rfl⟩ (by constructor <;> (dsimp only; omega)) zV_X8_put, List.forall_mem_nil _⟩⟩⟩) (List.forall_mem_nil _) (zE_X8_either e)
theorem zM_X8_P (l : Launch) : ∀ e : Nat, ab_Met l zw_C vwCl zZ_C yX8_one cX8_one 4 (some .boolean) (zR_P 0 e) (zt_X8_one e) ∧ ab_Met l zw_C vwCl zZ_C yX8_term cX8_term 4 (some .boolean) (zR_P 1 e) (zt_X8_term e) ∧ ab_Met l zw_C vwCl zZ_C yX8_sum cX8_sum 5 (some .boolean) (zR_P 2 e) (zt_X8_sum e) ∧ ab_Met l zw_C vwCl zZ_C yX8_comparison cX8_comparison 4 (some .boolean) (zR_P 3 e) (zt_X8_comparison e) ∧ ab_Met l zw_C vwCl zZ_C yX8_negation cX8_negation 3 (some .boolean) (zR_P 4 e) (zt_X8_negation e) ∧ ab_Met l zw_C vwCl zZ_C yX8_both cX8_both 4 (some .boolean) (zR_P 5 e) (zt_X8_both e) ∧ ab_Met l zw_C vwCl zZ_C yX8_either cX8_either 4 (some .boolean) (zR_P 6 e) (zt_X8_either e)
  | 0 => ⟨ab_Met_no (zt_P_0 (r := _)), ab_Met_no (zt_P_0 (r := _)), ab_Met_no (zt_P_0 (r := _)), ab_Met_no (zt_P_0 (r := _)), ab_Met_no (zt_P_0 (r := _)), ab_Met_no (zt_P_0 (r := _)), ab_Met_no (zt_P_0 (r := _))⟩
  | e + 1 => by
    obtain ⟨i1, i2, i3, i4, i5, i6, i7⟩ := zM_X8_P l e
    have a1 := zMs_X8_one l e i7 i1
    have a2 := zMs_X8_term l e a1
    have a3 := zMs_X8_sum l e a2
    have a4 := zMs_X8_comparison l e a3
    have a5 := zMs_X8_negation l e i5 a4
    have a6 := zMs_X8_both l e a5
    exact ⟨a1, a2, a3, a4, a5, a6, zMs_X8_either l e a6⟩
abbrev zR_X8_either : Room := zR_P 6 6
theorem zM_X8_either (l : Launch) : ab_Met l zw_C vwCl zZ_C yX8_either cX8_either 4 (some .boolean) zR_X8_either (zt_X8_either 6) := (zM_X8_P l 6).2.2.2.2.2.2
end
section
/-! a text is read *)
-/
abbrev zTr : Type := Nat ⊕ List (List Int32)
/-- the parts that are left, from i on -/
def zTx (B : Nat → Int32) (n : Nat) : Nat → Nat → zTr → Prop
  | 0, i, res => ((zTk B n i).1 = -1 ∧ res = .inr []) ∨ (¬ (zTk B n i).1 = -1 ∧ res = .inl (zTk B n i).2.2.1)
  | r + 1, i, res => ((zTk B n i).1 = nI (9 - r) ∧ ((∃ p, zR B n (zTk B n i).2.2.2 [] [] true (.inl p) ∧ res = .inl p) ∨ ∃ (i2 : Nat) (O : List Int32), zR B n (zTk B n i).2.2.2 [] [] true (.inr (i2, O)) ∧ ((∃ p, zTx B n r i2 (.inl p) ∧ res = .inl p) ∨ ∃ l, zTx B n r i2 (.inr l) ∧ res = .inr (O :: l)))) ∨ (¬ (zTk B n i).1 = nI (9 - r) ∧ res = .inl (zTk B n i).2.2.1)
def zRead (M : ab_M) (n w : Nat) (res : zTr) (o : Option Value) (M2 : ab_M) : Prop := zFr [3, 4, 31, 32] M M2 ∧ M2 4 2 = M 4 2 ∧ (∀ j, j < w * 160 → M2 31 j = M 31 j) ∧ (∀ j, j < w * 3 → M2 32 j = M 32 j) ∧ (∀ j, j ≠ 2 → M2 3 j = M 3 j) ∧ ((∃ p, res = .inl p ∧ p ≤ n ∧ o = some (.int (-100 - nI p)) ∧ M2 3 2 = M 3 2) ∨ ∃ O0 O1 O2 : List Int32, res = .inr [O0, O1, O2] ∧ o = some (.int (nI w)) ∧ M2 3 2 = nI (w + 1) ∧ O0.length + O1.length + O2.length ≤ 160 ∧ M2 32 (w * 3) = nI (w * 160 + O0.length) ∧ M2 32 (w * 3 + 1) = nI (w * 160 + O0.length + O1.length) ∧ M2 32 (w * 3 + 2) = nI (w * 160 + O0.length + O1.length + O2.length) ∧ ∀ (j : Nat) (x : Int32), (O0 ++ O1 ++ O2)[j]? = some x → M2 31 (w * 160 + j) = x)
def zt_X8_read : ab_T := fun as M N k => match as with
  | [.ref q] => q = 4 ∧ ∃ n w : Nat, zTp M n ∧ M 3 2 = nI w ∧ w < 6 ∧ ∀ (res : zTr) (o : Option Value) (M2 : ab_M), zTx (M 34) n 3 0 res → zRead M n w res o M2 → k o M2 N
  | _ => False
theorem zt_X8_read_mono : ab_mono zt_X8_read := fun as M N k k2 hk h => by
  unfold zt_X8_read at h ⊢
  split at h
  · obtain ⟨a, n, w, b, c, d, f⟩ := h
    exact ⟨a, n, w, b, c, d, fun res o M2 p q => hk _ _ _ (f res o M2 p q)⟩
  · exact h
theorem zV_X8_read : ab_recv zw_C vwCl RX8 zt_X8_read := fun as M N k h => by
  unfold zt_X8_read at h
  split at h
  · obtain ⟨rfl, -⟩ := h
    exact ⟨_, _, _, _, _, _, rfl, rfl, rfl⟩
  · exact h.elim
theorem zAdv_raw {M1 : ab_M} {N : ab_N} {k : ab_R} {n j : Nat} (hT : zTp M1 n) (hj : j ≤ n) (h6 : M1 4 6 = nI j) (hk : ∀ f : Nat → Int32, f 2 = M1 4 2 → f 7 = M1 4 7 → zLa f (M1 34) n j → k none (ab_u M1 4 f) N) : zt_X8_advance [.ref 4] M1 N k := by
  refine ab_m0_i ⟨n, j, hT, hj, h6⟩ ?_
  rintro o M2 N2 ⟨rfl, rfl, f, rfl, f2, f7, hf⟩
  exact hk f f2 f7 (hf n j hT.1 hj hT.2.1 h6)
def zp_X8_read : ab_P := [(0, .aload_n 0, 1, [0], []),
  (1, .getfield 19, 4, [], []),
  (4, .getfield 23, 7, [], []),
  (7, .bipush 6, 9, [], [6]),
  (9, .if_icmp .lt 6, 12, [15], []),
  (12, .bipush (-4), 14, [], [(-4)]),
  (14, .ireturn, 15, [], []),
  (15, .aload_n 0, 16, [0], []),
  (16, .iconst 0, 17, [], [0]),
  (17, .putfield 28, 20, [], []),
  (20, .aload_n 0, 21, [0], []),
  (21, .aload_n 0, 22, [0], []),
  (22, .getfield 19, 25, [], []),
  (25, .getfield 23, 28, [], []),
  (28, .sipush 160, 31, [], [160]),
  (31, .imul, 32, [], []),
  (32, .putfield 31, 35, [], []),
  (35, .aload_n 0, 36, [0], []),
  (36, .invokevirtual 34, 39, [], []),
  (39, .iconst 0, 40, [], [0]),
  (40, .istore_n 1, 41, [1], []),
  (41, .iload_n 1, 42, [1], []),
  (42, .iconst 3, 43, [], [3]),
  (43, .if_icmp .ge 84, 46, [127], []),
  (46, .aload_n 0, 47, [0], []),
  (47, .getfield 37, 50, [], []),
  (50, .bipush 7, 52, [], [7]),
  (52, .iload_n 1, 53, [1], []),
  (53, .iadd, 54, [], []),
  (54, .if_icmp .eq 11, 57, [65], []),
  (57, .bipush (-100), 59, [], [(-100)]),
  (59, .aload_n 0, 60, [0], []),
  (60, .getfield 40, 63, [], []),
  (63, .isub, 64, [], []),
  (64, .ireturn, 65, [], []),
  (65, .aload_n 0, 66, [0], []),
  (66, .invokevirtual 34, 69, [], []),
  (69, .aload_n 0, 70, [0], []),
  (70, .iconst 0, 71, [], [0]),
  (71, .invokevirtual 43, 74, [], []),
  (74, .ifCond .eq 12, 77, [86], []),
  (77, .aload_n 0, 78, [0], []),
  (78, .getfield 37, 81, [], []),
  (81, .bipush 59, 83, [], [59]),
  (83, .if_icmp .eq 11, 86, [94], []),
  (86, .bipush (-100), 88, [], [(-100)]),
  (88, .aload_n 0, 89, [0], []),
  (89, .getfield 40, 92, [], []),
  (92, .isub, 93, [], []),
  (93, .ireturn, 94, [], []),
  (94, .aload_n 0, 95, [0], []),
  (95, .getfield 19, 98, [], []),
  (98, .getfield 47, 101, [], []),
  (101, .aload_n 0, 102, [0], []),
  (102, .getfield 19, 105, [], []),
  (105, .getfield 23, 108, [], []),
  (108, .iconst 3, 109, [], [3]),
  (109, .imul, 110, [], []),
  (110, .iload_n 1, 111, [1], []),
  (111, .iadd, 112, [], []),
  (112, .aload_n 0, 113, [0], []),
  (113, .getfield 31, 116, [], []),
  (116, .iastore, 117, [], []),
  (117, .aload_n 0, 118, [0], []),
  (118, .invokevirtual 34, 121, [], []),
  (121, .iinc 1 1, 124, [], [1]),
  (124, .goto (-83), 127, [41], []),
  (127, .aload_n 0, 128, [0], []),
  (128, .getfield 37, 131, [], []),
  (131, .iconst (-1), 132, [], [(-1)]),
  (132, .if_icmp .eq 11, 135, [143], []),
  (135, .bipush (-100), 137, [], [(-100)]),
  (137, .aload_n 0, 138, [0], []),
  (138, .getfield 40, 141, [], []),
  (141, .isub, 142, [], []),
  (142, .ireturn, 143, [], []),
  (143, .aload_n 0, 144, [0], []),
  (144, .getfield 19, 147, [], []),
  (147, .dup, 148, [], []),
  (148, .getfield 23, 151, [], []),
  (151, .iconst 1, 152, [], [1]),
  (152, .iadd, 153, [], []),
  (153, .putfield 23, 156, [], []),
  (156, .aload_n 0, 157, [0], []),
  (157, .getfield 19, 160, [], []),
  (160, .getfield 23, 163, [], []),
  (163, .iconst 1, 164, [], [1]),
  (164, .isub, 165, [], []),
  (165, .ireturn, 166, [], [])]
theorem zo_X8_read : ab_ok cX8_read zp_X8_read = true := by decide +kernel
def zg_X8_read : ab_G := (zw_C, zs_tab, zf_X8, zc_X8, [], [(34, 1, zt_X8_advance), (43, 2, zt_X8_either 6)], [])
theorem zm_X8_read : ab_MG zg_X8_read := ab_MGof (List.forall_mem_cons.mpr ⟨zt_X8_advance_mono, List.forall_mem_cons.mpr ⟨zt_X8_either_mono _, List.forall_mem_nil _⟩⟩) (List.forall_mem_nil _)
abbrev zr_X8_read (Q : ab_R) : ab_K := ab_Run zg_X8_read zp_X8_read (some .int) 2 Q
set_option maxRecDepth 20000 in
theorem zv_X8_read_0 {Q : ab_R} {M : ab_M} {N : ab_N}  (h : ((M 3 2) < (6 : Int32) → let z1 : Nat → Int32 := upd (M 4) 6 (0 : Int32); let z2 : Nat → Int32 := upd (z1) 7 ((M 3 2) * (160 : Int32)); zt_X8_advance [.ref 4] (ab_u (ab_u M 4 z1) 4 z2) N (fun r M2 N2 => zr_X8_read Q 39 [some (.ref 4), none] (ab_ol r []) M2 N2)) ∧ (¬ ((M 3 2) < (6 : Int32)) → Q (some (.int (-4 : Int32))) M N)) : zr_X8_read Q 0 [some (.ref 4)] [] M N := ab_Run_s zm_X8_read (sp := [(39, [true, false]), (41, [true, true]), (69, [true, true]), (74, [true, true]), (121, [true, true])]) 91 h
set_option maxRecDepth 20000 in
theorem zv_X8_read_39 {Q : ab_R} {M : ab_M} {N : ab_N}  (h : zr_X8_read Q 41 [some (.ref 4), some (.int (0 : Int32))] [] M N) : zr_X8_read Q 39 [some (.ref 4), none] [] M N := ab_Run_s zm_X8_read (sp := [(39, [true, false]), (41, [true, true]), (69, [true, true]), (74, [true, true]), (121, [true, true])]) 91 h
set_option maxRecDepth 20000 in
theorem zv_X8_read_41 {Q : ab_R} {M : ab_M} {N : ab_N} (l1 : Int32) (h : ((3 : Int32) ≤ l1 → ((M 4 3) = (-1 : Int32) → let z1 : Nat → Int32 := upd (M 3) 2 ((M 3 2) + (1 : Int32)); Q (some (.int ((z1 2) - (1 : Int32)))) (ab_u M 3 z1) N) ∧ (¬ ((M 4 3) = (-1 : Int32)) → Q (some (.int ((-100 : Int32) - (M 4 5)))) M N)) ∧ (¬ ((3 : Int32) ≤ l1) → ((M 4 3) = ((7 : Int32) + l1) → zt_X8_advance [.ref 4] M N (fun r M2 N2 => zr_X8_read Q 69 [some (.ref 4), some (.int l1)] (ab_ol r []) M2 N2)) ∧ (¬ ((M 4 3) = ((7 : Int32) + l1)) → Q (some (.int ((-100 : Int32) - (M 4 5)))) M N))) : zr_X8_read Q 41 [some (.ref 4), some (.int l1)] [] M N := ab_Run_s zm_X8_read (sp := [(39, [true, false]), (41, [true, true]), (69, [true, true]), (74, [true, true]), (121, [true, true])]) 91 h
set_option maxRecDepth 20000 in
theorem zv_X8_read_69 {Q : ab_R} {M : ab_M} {N : ab_N} (l1 : Int32) (h : zt_X8_either 6 [.ref 4, .int (0 : Int32)] M N (fun r M2 N2 => zr_X8_read Q 74 [some (.ref 4), some (.int l1)] (ab_ol r []) M2 N2)) : zr_X8_read Q 69 [some (.ref 4), some (.int l1)] [] M N := ab_Run_s zm_X8_read (sp := [(39, [true, false]), (41, [true, true]), (69, [true, true]), (74, [true, true]), (121, [true, true])]) 91 h
set_option maxRecDepth 20000 in
theorem zv_X8_read_74 {Q : ab_R} {M : ab_M} {N : ab_N} (l1 : Int32) (s0 : Int32) (h : (s0 = 0 → Q (some (.int ((-100 : Int32) - (M 4 5)))) M N) ∧ (¬ (s0 = 0) → ((M 4 3) = (59 : Int32) → vp_in (((M 3 2) * (3 : Int32)) + l1) 18 ∧ (let z1 : Nat → Int32 := upd (M 32) (((M 3 2) * (3 : Int32)) + l1).toNatClampNeg (M 4 7); zt_X8_advance [.ref 4] (ab_u M 32 z1) N (fun r M2 N2 => zr_X8_read Q 121 [some (.ref 4), some (.int l1)] (ab_ol r []) M2 N2))) ∧ (¬ ((M 4 3) = (59 : Int32)) → Q (some (.int ((-100 : Int32) - (M 4 5)))) M N))) : zr_X8_read Q 74 [some (.ref 4), some (.int l1)] [.int s0] M N := ab_Run_s zm_X8_read (sp := [(39, [true, false]), (41, [true, true]), (69, [true, true]), (74, [true, true]), (121, [true, true])]) 91 h
set_option maxRecDepth 20000 in
theorem zv_X8_read_121 {Q : ab_R} {M : ab_M} {N : ab_N} (l1 : Int32) (h : zr_X8_read Q 41 [some (.ref 4), some (.int (l1 + (1 : Int32)))] [] M N) : zr_X8_read Q 121 [some (.ref 4), some (.int l1)] [] M N := ab_Run_s zm_X8_read (sp := [(39, [true, false]), (41, [true, true]), (69, [true, true]), (74, [true, true]), (121, [true, true])]) 91 h
def zRdS (M M1 : ab_M) (n w r i : Nat) (Os : List (List Int32)) : Prop := (∀ c, c ≠ 4 → c ≠ 31 → c ≠ 32 → M1 c = M c) ∧ M1 4 2 = M 4 2 ∧ zLa (M1 4) (M 34) n i ∧ i ≤ n ∧ M1 4 7 = nI (w * 160 + Os.flatten.length) ∧ Os.flatten.length ≤ i ∧ M1 31 = zPut (M 31) (w * 160) Os.flatten ∧ Os.length + r = 3 ∧ (∀ j, j < Os.length → M1 32 (w * 3 + j) = nI (w * 160 + (Os.take (j + 1)).flatten.length)) ∧ ∀ j, j < w * 3 → M1 32 j = M 32 j
def zTg (Os : List (List Int32)) : zTr → zTr
  | .inl p => .inl p
  | .inr l => .inr (Os ++ l)
theorem zL_X8_read {Q : ab_R} {M : ab_M} {N : ab_N} {n w : Nat} (hT : zTp M n) (h3 : M 3 2 = nI w) (hw : w < 6) (hk : ∀ (res : zTr) (o : Option Value) (M2 : ab_M), zTx (M 34) n 3 0 res → zRead M n w res o M2 → Q o M2 N) : ∀ (r i : Nat) (Os : List (List Int32)) (M1 : ab_M), zRdS M M1 n w r i Os → (∀ res, zTx (M 34) n r i res → zTx (M 34) n 3 0 (zTg Os res)) → zr_X8_read Q 41 [some (.ref 4), some (.int (nI Os.length))] [] M1 N := by
  have hn := hT.1
  -- a fault, from anywhere
  have bad : ∀ (M1 : ab_M) (p : Nat), (∀ c, c ≠ 4 → c ≠ 31 → c ≠ 32 → M1 c = M c) → M1 4 2 = M 4 2 → (∀ j, j < w * 160 → M1 31 j = M 31 j) → (∀ j, j < w * 3 → M1 32 j = M 32 j) → p ≤ n → zTx (M 34) n 3 0 (.inl p) → Q (some (.int (-100 - nI p))) M1 N := by
    intro M1 p g1 g2 g3 g4 hp hx
    refine hk _ _ _ hx ⟨fun c hc => ?_, g2, g3, g4, fun j _ => by rw [g1 3 (by decide) (by decide) (by decide)], Or.inl ⟨p, rfl, hp, rfl, by rw [g1 3 (by decide) (by decide) (by decide)]⟩⟩
    simp only [List.mem_cons, List.not_mem_nil, or_false, not_or] at hc
    exact g1 c hc.2.1 hc.2.2.1 hc.2.2.2
  intro r
  induction r with
  | zero =>
    intro i Os M1 g hG
    obtain ⟨g1, g2, g3, g4, g5, g6, g7, g8, g9, g10⟩ := g
    obtain ⟨b1, b2, b3, b4, b5⟩ := zTk_b (M 34) g4
    have l3 : Os.length = 3 := by omega
    rw [l3]
    have gl : ∀ j, j < w * 160 → M1 31 j = M 31 j := fun j hj => by rw [g7, zPut_lo _ _ _ _ (Or.inl hj)]
    refine zv_X8_read_41 _ ⟨fun _ => ?_, fun c => absurd (show nI 3 ≤ nI 3 from nI_le (by omega) (by omega)) c⟩
    rw [g3.1, g3.2.2.1, g1 3 (by decide) (by decide) (by decide), h3]
    refine ⟨fun c => ?_, fun c => bad M1 _ g1 g2 gl g10 b3 (hG (.inl _) (Or.inr ⟨c, rfl⟩))⟩
    intro z1
    match Os, l3 with
    | [O0, O1, O2], _ =>
      have e3 : z1 2 - 1 = nI w := by simp only [z1, upd_eq]; rw [nI_1, nI_pred]
      rw [e3]
      simp only [List.flatten_cons, List.flatten_nil, List.append_nil, List.length_append] at g5 g6 g7
      refine hk _ _ _ (hG (.inr []) (Or.inl ⟨c, rfl⟩)) ⟨fun q hq => ?_, ?_, fun j hj => ?_, fun j hj => ?_, fun j hj => ?_, Or.inr ⟨O0, O1, O2, rfl, rfl, ?_, by omega, ?_, ?_, ?_, ?_⟩⟩
      · simp only [List.mem_cons, List.not_mem_nil, or_false, not_or] at hq
        rw [ab_u_ne _ _ hq.1]
        exact g1 q hq.2.1 hq.2.2.1 hq.2.2.2
      · rw [ab_u_ne _ _ (by decide), g2]
      · rw [ab_u_ne _ _ (by decide)]; exact gl j hj
      · rw [ab_u_ne _ _ (by decide)]; exact g10 j hj
      · rw [ab_u_eq]; simp only [z1]; rw [upd_ne _ _ hj]
      · rw [ab_u_eq]; simp only [z1]; rw [upd_eq, nI_1]
      · rw [ab_u_ne _ _ (by decide)]
        have := g9 0 (by simp)
        simp at this
        exact this
      · rw [ab_u_ne _ _ (by decide)]
        have := g9 1 (by simp)
        simp at this
        rw [this, Nat.add_assoc]
      · rw [ab_u_ne _ _ (by decide)]
        have := g9 2 (by simp)
        simp at this
        rw [this]
        congr 1
        omega
      · intro j x hx
        rw [ab_u_ne _ _ (by decide), g7]
        rw [List.append_assoc] at hx
        exact zPut_in _ _ _ _ _ hx
  | succ r ih =>
    intro i Os M1 g hG
    obtain ⟨g1, g2, g3, g4, g5, g6, g7, g8, g9, g10⟩ := id g
    obtain ⟨b1, b2, b3, b4, b5⟩ := zTk_b (M 34) g4
    have gl : ∀ j, j < w * 160 → M1 31 j = M 31 j := fun j hj => by rw [g7, zPut_lo _ _ _ _ (Or.inl hj)]
    have e34 : M1 34 = M 34 := g1 34 (by decide) (by decide) (by decide)
    have e31 : M1 3 = M 3 := g1 3 (by decide) (by decide) (by decide)
    have hTp1 : zTp M1 n := ⟨hn, by rw [g2, hT.2.1], by rw [e34]; exact hT.2.2⟩
    refine zv_X8_read_41 _ ⟨fun c => absurd c (show ¬ nI 3 ≤ nI Os.length from nI_ge (by omega) (by omega)), fun _ => ?_⟩
    rw [g3.1, g3.2.2.1]
    have e7 : (7 : Int32) + nI Os.length = nI (9 - r) := by
      rw [show (7 : Int32) = nI 7 from rfl, nI_add, show 7 + Os.length = 9 - r by omega]
    rw [e7]
    refine ⟨fun c => ?_, fun c => bad M1 _ g1 g2 gl g10 b3 (hG (.inl _) (Or.inr ⟨c, rfl⟩))⟩
    have hne : ¬ (zTk (M 34) n i).1 = -1 := fun z => nI_m1 (m := 9 - r) (by omega) (c.symm.trans z)
    have hp : zPp M1 n w i (w * 160 + Os.flatten.length) := ⟨hTp1, by rw [e31, h3], hw, by rw [e34]; exact g3, g4, g5, by omega, by omega⟩
    refine zAdv_call hp (zPf_rf hp) (by rw [e34]; exact hne) (fun M2 k2 => zv_X8_read_69 _ ?_)
    rw [e34] at k2
    refine zP_call (e := 6) (o := 0) hp k2 (by simp; omega) (by omega) (by omega) rfl (fun b M3 i2 C k3 hP => zv_X8_read_74 _ _ ?_)
    rw [List.nil_append] at k3
    rw [e34] at hP
    obtain ⟨q1, q2, q3, q4, q5, q6⟩ := k3
    rw [e34] at q3
    have hl2 := hP.1
    obtain ⟨d1, d2, d3, d4, d5⟩ := zTk_b (M 34) q4
    have cn : zCnd 1 true (M 34) n 0 (zTk (M 34) n i).2.2.2 [] true := ⟨trivial, rfl, fun _ => rfl, fun z => absurd z (by decide)⟩
    have a1 : ∀ c, c ≠ 4 → c ≠ 31 → c ≠ 32 → M3 c = M c := fun c x y z => (q1 c x y).trans (g1 c x y z)
    have a2 : M3 4 2 = M 4 2 := q2.trans g2
    have a3 : ∀ j, j < w * 160 → M3 31 j = M 31 j := fun j hj => by rw [q6, zPut_lo _ _ _ _ (Or.inl (by omega))]; exact gl j hj
    have a4 : ∀ j, j < w * 3 → M3 32 j = M 32 j := fun j hj => by rw [q1 32 (by decide) (by decide)]; exact g10 j hj
    have bad2 : zR (M 34) n (zTk (M 34) n i).2.2.2 [] [] true (.inl (zTk (M 34) n i2).2.2.1) → Q (some (.int (-100 - M3 4 5))) M3 N := fun h => by
      rw [q3.2.2.1]
      exact bad M3 _ a1 a2 a3 a4 d3 (hG (.inl _) (Or.inl ⟨c, Or.inl ⟨_, h, rfl⟩⟩))
    refine ⟨fun e0 => ?_, fun e0 => ?_⟩
    · rcases hP.2 with ⟨rfl, -⟩ | ⟨-, hb⟩
      · exact absurd e0 (by decide)
      · exact bad2 (hb [] [] true cn)
    · rcases hP.2 with ⟨rfl, hx, hc, hg⟩ | ⟨z, -⟩
      · rw [q3.1]
        refine ⟨fun c4 => ?_, fun c4 => bad2 ?_⟩
        · have hne2 : ¬ (zTk (M 34) n i2).1 = -1 := by rw [c4]; decide
          have ncm : ¬ zCm (zTk (M 34) n i2).1 := by rw [c4]; unfold zCm; decide
          have yd : zR (M 34) n (zTk (M 34) n i).2.2.2 [] [] true (.inr ((zTk (M 34) n i2).2.2.2, C)) := hg (fun _ => ncm) [] [] true cn _ (zV_low trivial (zA_semi c4))
          have eix : nI w * 3 + nI Os.length = nI (w * 3 + Os.length) := by rw [zN_mul w 3 3, nI_add]
          rw [q1 3 (by decide) (by decide), e31, h3, eix]
          refine ⟨nI_in_ (by omega), ?_⟩
          intro z1
          have ez : z1 = upd (M3 32) (w * 3 + Os.length) (nI (w * 160 + Os.flatten.length + C.length)) := by
            simp only [z1]
            rw [nI_clamp (by omega), q5]
          clear_value z1
          subst ez
          refine zAdv_raw (n := n) (j := (zTk (M 34) n i2).2.2.2) ⟨hn, ?_, ?_⟩ (d5 hne2).2 ?_ (fun f f2 f7 hf => zv_X8_read_121 _ ?_)
          · rw [ab_u_ne _ _ (by decide), a2, hT.2.1]
          · rw [ab_u_ne _ _ (by decide), a1 34 (by decide) (by decide) (by decide)]; exact hT.2.2
          · rw [ab_u_ne _ _ (by decide)]; exact q3.2.2.2
          rw [nI_1]
          have ln : (Os ++ [C]).length = Os.length + 1 := by simp
          rw [← ln]
          have fl : (Os ++ [C]).flatten = Os.flatten ++ C := by simp
          refine ih (zTk (M 34) n i2).2.2.2 (Os ++ [C]) _ ⟨fun q x y z => ?_, ?_, ?_, (d5 hne2).2, ?_, ?_, ?_, by rw [ln]; omega, fun j hj => ?_, fun j hj => ?_⟩ (fun res hres => ?_)
          · rw [ab_u_ne _ _ x, ab_u_ne _ _ z]; exact a1 q x y z
          · rw [ab_u_eq, f2, ab_u_ne _ _ (by decide), a2]
          · rw [ab_u_eq]
            rw [ab_u_ne _ _ (by decide), a1 34 (by decide) (by decide) (by decide)] at hf
            exact hf
          · rw [ab_u_eq, f7, ab_u_ne _ _ (by decide), q5, fl, List.length_append, Nat.add_assoc]
          · rw [fl, List.length_append]; omega
          · rw [ab_u_ne _ _ (by decide), ab_u_ne _ _ (by decide), q6, g7, fl, zPut_app]
          · rw [ab_u_ne _ _ (by decide), ab_u_eq]
            by_cases ej : j = Os.length
            · subst ej
              rw [upd_eq, List.take_of_length_le (by rw [ln]; omega), fl, List.length_append, Nat.add_assoc]
            · rw [upd_ne _ _ (by omega), q1 32 (by decide) (by decide), g9 j (by omega), List.take_append_of_le_length (by omega)]
          · rw [ab_u_ne _ _ (by decide), ab_u_eq, upd_ne _ _ (by omega)]; exact a4 j hj
          · cases res with
            | inl p => exact hG (.inl p) (Or.inl ⟨c, Or.inr ⟨_, _, yd, Or.inl ⟨p, hres, rfl⟩⟩⟩)
            | inr l =>
              have := hG (.inr (C :: l)) (Or.inl ⟨c, Or.inr ⟨_, _, yd, Or.inr ⟨l, hres, rfl⟩⟩⟩)
              simpa [zTg] using this
        · by_cases cm : zCm (zTk (M 34) n i2).1
          · exact hc rfl cm [] [] true cn
          · refine hg (fun _ => cm) [] [] true cn _ (zV_low trivial (zA_top c4 ?_))
            simp only [List.mem_cons, List.not_mem_nil, or_false, not_or] at hx
            unfold zCm at cm
            unfold zSg
            grind
      · exact absurd z e0
theorem zE_X8_read (as : List Value) (M : ab_M) (N : ab_N) (k : ab_R) (hT : zt_X8_read as M N k) : ab_cs as ≤ 2 ∧ zr_X8_read k 0 (ab_en as) [] M N := by
  unfold zt_X8_read at hT
  split at hT
  case h_2 => exact hT.elim
  obtain ⟨rfl, n, w, hT, h3, hw, hk⟩ := hT
  refine ⟨Nat.le_of_ble_eq_true rfl, zv_X8_read_0 ?_⟩
  rw [h3]
  refine ⟨fun _ => ?_, fun c => absurd (show nI w < nI 6 from nI_lt hw (by omega)) c⟩
  intro z1 z2
  have ez : z2 = upd (upd (M 4) 6 0) 7 (nI (w * 160)) := by simp only [z2, z1]; rw [zN_mul w 160 160]
  clear_value z2
  subst ez
  rw [ab_u_u]
  refine zAdv_raw (n := n) (j := 0) ⟨hT.1, by rw [ab_u_eq, upd_ne _ _ (by decide), upd_ne _ _ (by decide), hT.2.1], by rw [ab_u_ne _ _ (by decide)]; exact hT.2.2⟩ (Nat.zero_le _) (by rw [ab_u_eq, upd_ne _ _ (by decide), upd_eq]; rfl) (fun f f2 f7 hf => zv_X8_read_39 ?_)
  rw [ab_u_ne _ _ (by decide)] at hf
  rw [ab_u_eq] at f2 f7
  rw [ab_u_u]
  refine zL_X8_read hT h3 hw hk 3 0 [] _ ⟨fun q x y z => by rw [ab_u_ne _ _ x], by rw [ab_u_eq, f2, upd_ne _ _ (by decide), upd_ne _ _ (by decide)], by rw [ab_u_eq]; exact hf, Nat.zero_le _, by rw [ab_u_eq, f7, upd_eq]; rfl, Nat.le_refl _, by rw [ab_u_ne _ _ (by decide)]; rfl, rfl, fun j hj => absurd hj (by simp), fun j hj => by rw [ab_u_ne _ _ (by decide)]⟩ (fun res hres => ?_)
  cases res with
  | inl p => exact hres
  | inr l => exact hres
abbrev zR_X8_read : Room := { frames := 59, cells := 0, slots := 0, locals := 1763 }
set_option maxRecDepth 20000 in
theorem zM_X8_read (l : Launch) : ab_Met l zw_C vwCl zZ_C yX8_read cX8_read 2 (some .int) zR_X8_read zt_X8_read := ab_ofRun (G := zg_X8_read) (P := zp_X8_read) rfl zo_X8_read (by decide +kernel) zl_cl zl_lamC zf_X8_ok zs_tabOK zc_X8_ok ab_Sta_nil (List.forall_mem_cons.mpr ⟨ab_callV zZ_C_ok (zM_X8_advance l) (ab_in 440 (by decide +kernel) rfl) (ab_in 437 (by decide +kernel) rfl) (ab_in 439 (by decide +kernel) rfl) (ab_inS (List.mem_of_getElem? (i := 0) (by decide +kernel)) rfl) (ab_in 5 (by decide +kernel) rfl) (by unfold ab_yok; decide +kernel) ⟨rfl, rfl⟩ (by decide) zV_X8_advance, List.forall_mem_cons.mpr ⟨ab_callV zZ_C_ok (zM_X8_either l) (ab_in 468 (by decide +kernel) rfl) (ab_in 465 (by decide +kernel) rfl) (ab_in 467 (by decide +kernel) rfl) (ab_inS (List.mem_of_getElem? (i := 4) (by decide +kernel)) rfl) (ab_in 5 (by decide +kernel) rfl) (by unfold ab_yok; decide +kernel) ⟨rfl, rfl⟩ (by decide) (zV_X8_either 6), List.forall_mem_nil _⟩⟩) (List.forall_mem_nil _) zE_X8_read
end
section
/-! the reference: small methods that only look *)
-/
def zt_X12_in : ab_T := ab_pure (fun as M N => match as with
  | [.int v, .int a, .int b] => some (.int (ab_b (a ≤ v ∧ v ≤ b)))
  | _ => none)
theorem zI_X12_in {as : List Value} {M : ab_M} {N : ab_N} {k : ab_R} (hk : zt_X12_in as M N k) : ∃ (v : Int32) (a : Int32) (b : Int32), as = [.int v, .int a, .int b] ∧ k (some (.int (ab_b (a ≤ v ∧ v ≤ b)))) M N := by
  unfold zt_X12_in ab_pure at hk
  dsimp only at hk
  split at hk
  · rename_i v hv
    split at hv
    · cases hv
      exact ⟨_, _, _, rfl, hk⟩
    · cases hv
  · exact hk.elim
def zp_X12_in : ab_P := [(0, .iload_n 0, 1, [0], []),
  (1, .iload_n 1, 2, [1], []),
  (2, .if_icmp .lt 12, 5, [14], []),
  (5, .iload_n 0, 6, [0], []),
  (6, .iload_n 2, 7, [2], []),
  (7, .if_icmp .gt 7, 10, [14], []),
  (10, .iconst 1, 11, [], [1]),
  (11, .goto 4, 14, [15], []),
  (14, .iconst 0, 15, [], [0]),
  (15, .ireturn, 16, [], [])]
theorem zo_X12_in : ab_ok cX12_in zp_X12_in = true := by decide +kernel
def zg_X12_in : ab_G := (zw_M, [], zf_X12, zc_X12, [], [], [])
theorem zm_X12_in : ab_MG zg_X12_in := ab_MGof (List.forall_mem_nil _) (List.forall_mem_nil _)
abbrev zr_X12_in (Q : ab_R) : ab_K := ab_Run zg_X12_in zp_X12_in (some .boolean) 3 Q
set_option maxRecDepth 20000 in
theorem zv_X12_in_0 {Q : ab_R} {M : ab_M} {N : ab_N} (l0 : Int32) (l1 : Int32) (l2 : Int32) (h : (l0 < l1 → narrow .boolean (.int (0 : Int32)) = .int (0 : Int32) ∧ Q (some (.int (0 : Int32))) M N) ∧ (¬ (l0 < l1) → (l2 < l0 → narrow .boolean (.int (0 : Int32)) = .int (0 : Int32) ∧ Q (some (.int (0 : Int32))) M N) ∧ (¬ (l2 < l0) → narrow .boolean (.int (1 : Int32)) = .int (1 : Int32) ∧ Q (some (.int (1 : Int32))) M N))) : zr_X12_in Q 0 [some (.int l0), some (.int l1), some (.int l2)] [] M N := ab_Run_s zm_X12_in (sp := []) 12 h
theorem zH_X12_in (v : Int32) (a : Int32) (b : Int32) {M : ab_M} {N : ab_N} {k : ab_R} (hk : k (some (.int (ab_b (a ≤ v ∧ v ≤ b)))) M N) : zr_X12_in k 0 [some (.int v), some (.int a), some (.int b)] [] M N := by
  refine zv_X12_in_0 _ _ _ ?_
  (repeat' first | exact ab_vpk (by decide) | exact hp | refine And.intro ?_ ?_ | intro _)
  all_goals first | rfl | exact ab_b_n | (refine ab_qi hk ?_; (try unfold ab_b at *); grind) | grind
abbrev zR_X12_in : Room := { frames := 0, cells := 0, slots := 0, locals := 0 }
theorem zE_X12_in (as : List Value) (M : ab_M) (N : ab_N) (k : ab_R) (hk : zt_X12_in as M N k) : ab_cs as ≤ 3 ∧ zr_X12_in k 0 (ab_en as) [] M N := by
  obtain ⟨v, a, b, rfl, hk2⟩ := zI_X12_in hk
  exact ⟨Nat.le_of_ble_eq_true rfl, zH_X12_in v a b hk2⟩
set_option maxRecDepth 20000 in
theorem zM_X12_in (l : Launch) : ab_Met l zw_M vwCl zZ_M yX12_in cX12_in 3 (some .boolean) zR_X12_in zt_X12_in := ab_ofRun (G := zg_X12_in) (P := zp_X12_in) rfl zo_X12_in (by decide +kernel) zl_cl zl_lamM zf_X12_ok ab_Tab_nil zc_X12_ok ab_Sta_nil (List.forall_mem_nil _) (List.forall_mem_nil _) zE_X12_in
def zt_X12_isPiece : ab_T := ab_pure (fun as M N => match as with
  | [.ref r1, .int p] => (match Nat.beq r1 0 with | true => some (.int (ab_b (0 ≤ p ∧ p ≤ (M 0) 7 - 1))) | false => none)
  | _ => none)
theorem zI_X12_isPiece {as : List Value} {M : ab_M} {N : ab_N} {k : ab_R} (hk : zt_X12_isPiece as M N k) : ∃ (p : Int32), as = [.ref 0, .int p] ∧ k (some (.int (ab_b (0 ≤ p ∧ p ≤ (M 0) 7 - 1)))) M N := by
  unfold zt_X12_isPiece ab_pure at hk
  dsimp only at hk
  split at hk
  · rename_i v hv
    split at hv
    · split at hv
      · rename_i hb0
        cases hv
        rw [Nat.eq_of_beq_eq_true hb0]
        exact ⟨_, rfl, hk⟩
      · cases hv
    · cases hv
  · exact hk.elim
def zp_X12_isPiece : ab_P := [(0, .iload_n 1, 1, [1], []),
  (1, .iconst 0, 2, [], [0]),
  (2, .aload_n 0, 3, [0], []),
  (3, .getfield 172, 6, [], []),
  (6, .iconst 1, 7, [], [1]),
  (7, .isub, 8, [], []),
  (8, .invokestatic 175, 11, [], []),
  (11, .ireturn, 12, [], [])]
theorem zo_X12_isPiece : ab_ok cX12_isPiece zp_X12_isPiece = true := by decide +kernel
def zg_X12_isPiece : ab_G := (zw_M, [], zf_X12, zc_X12, [], [], [(175, 3, zt_X12_in)])
theorem zm_X12_isPiece : ab_MG zg_X12_isPiece := ab_MGof (List.forall_mem_nil _) (List.forall_mem_cons.mpr ⟨ab_pure_mono _, List.forall_mem_nil _⟩)
abbrev zr_X12_isPiece (Q : ab_R) : ab_K := ab_Run zg_X12_isPiece zp_X12_isPiece (some .boolean) 2 Q
set_option maxRecDepth 20000 in
theorem zv_X12_isPiece_0 {Q : ab_R} {M : ab_M} {N : ab_N} (l1 : Int32) (h : narrow .boolean (.int (ab_b ((0 : Int32) ≤ l1 ∧ l1 ≤ ((M 0 7) - (1 : Int32))))) = .int (ab_b ((0 : Int32) ≤ l1 ∧ l1 ≤ ((M 0 7) - (1 : Int32)))) ∧ Q (some (.int (ab_b ((0 : Int32) ≤ l1 ∧ l1 ≤ ((M 0 7) - (1 : Int32)))))) M N) : zr_X12_isPiece Q 0 [some (.ref 0), some (.int l1)] [] M N := ab_Run_s zm_X12_isPiece (sp := []) 10 h
theorem zH_X12_isPiece (p : Int32) {M : ab_M} {N : ab_N} {k : ab_R} (hk : k (some (.int (ab_b (0 ≤ p ∧ p ≤ (M 0) 7 - 1)))) M N) : zr_X12_isPiece k 0 [some (.ref 0), some (.int p)] [] M N := by
  refine zv_X12_isPiece_0 _ ?_
  (repeat' first | exact ab_vpk (by decide) | exact hp | refine And.intro ?_ ?_ | intro _)
  all_goals first | rfl | exact ab_b_n | (refine ab_qi hk ?_; (try unfold ab_b at *); grind) | grind
abbrev zR_X12_isPiece : Room := { frames := 1, cells := 0, slots := 0, locals := 22 }
theorem zV_X12_isPiece : ab_recv zw_M vwCl RX12 zt_X12_isPiece := fun as M N k h => by
  obtain ⟨_, rfl, -⟩ := zI_X12_isPiece h
  exact ⟨_, _, _, _, _, _, rfl, rfl, rfl⟩
theorem zE_X12_isPiece (as : List Value) (M : ab_M) (N : ab_N) (k : ab_R) (hk : zt_X12_isPiece as M N k) : ab_cs as ≤ 2 ∧ zr_X12_isPiece k 0 (ab_en as) [] M N := by
  obtain ⟨p, rfl, hk2⟩ := zI_X12_isPiece hk
  exact ⟨Nat.le_of_ble_eq_true rfl, zH_X12_isPiece p hk2⟩
set_option maxRecDepth 20000 in
theorem zM_X12_isPiece (l : Launch) : ab_Met l zw_M vwCl zZ_M yX12_isPiece cX12_isPiece 2 (some .boolean) zR_X12_isPiece zt_X12_isPiece := ab_ofRun (G := zg_X12_isPiece) (P := zp_X12_isPiece) rfl zo_X12_isPiece (by decide +kernel) zl_cl zl_lamM zf_X12_ok ab_Tab_nil zc_X12_ok ab_Sta_nil (List.forall_mem_nil _) (List.forall_mem_cons.mpr ⟨ab_callS zZ_M_ok (zM_X12_in l) (ab_in 1200 (by decide +kernel) rfl) (ab_in 1198 (by decide +kernel) rfl) (ab_in 1199 (by decide +kernel) rfl) (ab_in 17 (by decide +kernel) rfl) (by unfold ab_yok; decide +kernel) ⟨rfl, rfl⟩ (by decide), List.forall_mem_nil _⟩) zE_X12_isPiece
def zt_X12_isMan : ab_T := ab_pure (fun as M N => match as with
  | [.ref r1, .int p] => (match Nat.beq r1 0 with | true => some (.int (ab_b (0 ≤ p ∧ p ≤ (M 0) 12 - 1))) | false => none)
  | _ => none)
theorem zI_X12_isMan {as : List Value} {M : ab_M} {N : ab_N} {k : ab_R} (hk : zt_X12_isMan as M N k) : ∃ (p : Int32), as = [.ref 0, .int p] ∧ k (some (.int (ab_b (0 ≤ p ∧ p ≤ (M 0) 12 - 1)))) M N := by
  unfold zt_X12_isMan ab_pure at hk
  dsimp only at hk
  split at hk
  · rename_i v hv
    split at hv
    · split at hv
      · rename_i hb0
        cases hv
        rw [Nat.eq_of_beq_eq_true hb0]
        exact ⟨_, rfl, hk⟩
      · cases hv
    · cases hv
  · exact hk.elim
def zp_X12_isMan : ab_P := [(0, .iload_n 1, 1, [1], []),
  (1, .iconst 0, 2, [], [0]),
  (2, .aload_n 0, 3, [0], []),
  (3, .getfield 179, 6, [], []),
  (6, .iconst 1, 7, [], [1]),
  (7, .isub, 8, [], []),
  (8, .invokestatic 175, 11, [], []),
  (11, .ireturn, 12, [], [])]
theorem zo_X12_isMan : ab_ok cX12_isMan zp_X12_isMan = true := by decide +kernel
def zg_X12_isMan : ab_G := (zw_M, [], zf_X12, zc_X12, [], [], [(175, 3, zt_X12_in)])
theorem zm_X12_isMan : ab_MG zg_X12_isMan := ab_MGof (List.forall_mem_nil _) (List.forall_mem_cons.mpr ⟨ab_pure_mono _, List.forall_mem_nil _⟩)
abbrev zr_X12_isMan (Q : ab_R) : ab_K := ab_Run zg_X12_isMan zp_X12_isMan (some .boolean) 2 Q
set_option maxRecDepth 20000 in
theorem zv_X12_isMan_0 {Q : ab_R} {M : ab_M} {N : ab_N} (l1 : Int32) (h : narrow .boolean (.int (ab_b ((0 : Int32) ≤ l1 ∧ l1 ≤ ((M 0 12) - (1 : Int32))))) = .int (ab_b ((0 : Int32) ≤ l1 ∧ l1 ≤ ((M 0 12) - (1 : Int32)))) ∧ Q (some (.int (ab_b ((0 : Int32) ≤ l1 ∧ l1 ≤ ((M 0 12) - (1 : Int32)))))) M N) : zr_X12_isMan Q 0 [some (.ref 0), some (.int l1)] [] M N := ab_Run_s zm_X12_isMan (sp := []) 10 h
theorem zH_X12_isMan (p : Int32) {M : ab_M} {N : ab_N} {k : ab_R} (hk : k (some (.int (ab_b (0 ≤ p ∧ p ≤ (M 0) 12 - 1)))) M N) : zr_X12_isMan k 0 [some (.ref 0), some (.int p)] [] M N := by
  refine zv_X12_isMan_0 _ ?_
  (repeat' first | exact ab_vpk (by decide) | exact hp | refine And.intro ?_ ?_ | intro _)
  all_goals first | rfl | exact ab_b_n | (refine ab_qi hk ?_; (try unfold ab_b at *); grind) | grind
abbrev zR_X12_isMan : Room := { frames := 1, cells := 0, slots := 0, locals := 22 }
theorem zV_X12_isMan : ab_recv zw_M vwCl RX12 zt_X12_isMan := fun as M N k h => by
  obtain ⟨_, rfl, -⟩ := zI_X12_isMan h
  exact ⟨_, _, _, _, _, _, rfl, rfl, rfl⟩
theorem zE_X12_isMan (as : List Value) (M : ab_M) (N : ab_N) (k : ab_R) (hk : zt_X12_isMan as M N k) : ab_cs as ≤ 2 ∧ zr_X12_isMan k 0 (ab_en as) [] M N := by
  obtain ⟨p, rfl, hk2⟩ := zI_X12_isMan hk
  exact ⟨Nat.le_of_ble_eq_true rfl, zH_X12_isMan p hk2⟩
set_option maxRecDepth 20000 in
theorem zM_X12_isMan (l : Launch) : ab_Met l zw_M vwCl zZ_M yX12_isMan cX12_isMan 2 (some .boolean) zR_X12_isMan zt_X12_isMan := ab_ofRun (G := zg_X12_isMan) (P := zp_X12_isMan) rfl zo_X12_isMan (by decide +kernel) zl_cl zl_lamM zf_X12_ok ab_Tab_nil zc_X12_ok ab_Sta_nil (List.forall_mem_nil _) (List.forall_mem_cons.mpr ⟨ab_callS zZ_M_ok (zM_X12_in l) (ab_in 1200 (by decide +kernel) rfl) (ab_in 1198 (by decide +kernel) rfl) (ab_in 1199 (by decide +kernel) rfl) (ab_in 17 (by decide +kernel) rfl) (by unfold ab_yok; decide +kernel) ⟨rfl, rfl⟩ (by decide), List.forall_mem_nil _⟩) zE_X12_isMan
def zt_X12_isHour : ab_T := ab_pure (fun as M N => match as with
  | [.ref r1, .int p] => (match Nat.beq r1 0 with | true => some (.int (ab_b (0 ≤ p ∧ p ≤ (M 0) 0 - 1))) | false => none)
  | _ => none)
theorem zI_X12_isHour {as : List Value} {M : ab_M} {N : ab_N} {k : ab_R} (hk : zt_X12_isHour as M N k) : ∃ (p : Int32), as = [.ref 0, .int p] ∧ k (some (.int (ab_b (0 ≤ p ∧ p ≤ (M 0) 0 - 1)))) M N := by
  unfold zt_X12_isHour ab_pure at hk
  dsimp only at hk
  split at hk
  · rename_i v hv
    split at hv
    · split at hv
      · rename_i hb0
        cases hv
        rw [Nat.eq_of_beq_eq_true hb0]
        exact ⟨_, rfl, hk⟩
      · cases hv
    · cases hv
  · exact hk.elim
def zp_X12_isHour : ab_P := [(0, .iload_n 1, 1, [1], []),
  (1, .iconst 0, 2, [], [0]),
  (2, .aload_n 0, 3, [0], []),
  (3, .getfield 7, 6, [], []),
  (6, .iconst 1, 7, [], [1]),
  (7, .isub, 8, [], []),
  (8, .invokestatic 175, 11, [], []),
  (11, .ireturn, 12, [], [])]
theorem zo_X12_isHour : ab_ok cX12_isHour zp_X12_isHour = true := by decide +kernel
def zg_X12_isHour : ab_G := (zw_M, [], zf_X12, zc_X12, [], [], [(175, 3, zt_X12_in)])
theorem zm_X12_isHour : ab_MG zg_X12_isHour := ab_MGof (List.forall_mem_nil _) (List.forall_mem_cons.mpr ⟨ab_pure_mono _, List.forall_mem_nil _⟩)
abbrev zr_X12_isHour (Q : ab_R) : ab_K := ab_Run zg_X12_isHour zp_X12_isHour (some .boolean) 2 Q
set_option maxRecDepth 20000 in
theorem zv_X12_isHour_0 {Q : ab_R} {M : ab_M} {N : ab_N} (l1 : Int32) (h : narrow .boolean (.int (ab_b ((0 : Int32) ≤ l1 ∧ l1 ≤ ((M 0 0) - (1 : Int32))))) = .int (ab_b ((0 : Int32) ≤ l1 ∧ l1 ≤ ((M 0 0) - (1 : Int32)))) ∧ Q (some (.int (ab_b ((0 : Int32) ≤ l1 ∧ l1 ≤ ((M 0 0) - (1 : Int32)))))) M N) : zr_X12_isHour Q 0 [some (.ref 0), some (.int l1)] [] M N := ab_Run_s zm_X12_isHour (sp := []) 10 h
theorem zH_X12_isHour (p : Int32) {M : ab_M} {N : ab_N} {k : ab_R} (hk : k (some (.int (ab_b (0 ≤ p ∧ p ≤ (M 0) 0 - 1)))) M N) : zr_X12_isHour k 0 [some (.ref 0), some (.int p)] [] M N := by
  refine zv_X12_isHour_0 _ ?_
  (repeat' first | exact ab_vpk (by decide) | exact hp | refine And.intro ?_ ?_ | intro _)
  all_goals first | rfl | exact ab_b_n | (refine ab_qi hk ?_; (try unfold ab_b at *); grind) | grind
abbrev zR_X12_isHour : Room := { frames := 1, cells := 0, slots := 0, locals := 22 }
theorem zV_X12_isHour : ab_recv zw_M vwCl RX12 zt_X12_isHour := fun as M N k h => by
  obtain ⟨_, rfl, -⟩ := zI_X12_isHour h
  exact ⟨_, _, _, _, _, _, rfl, rfl, rfl⟩
theorem zE_X12_isHour (as : List Value) (M : ab_M) (N : ab_N) (k : ab_R) (hk : zt_X12_isHour as M N k) : ab_cs as ≤ 2 ∧ zr_X12_isHour k 0 (ab_en as) [] M N := by
  obtain ⟨p, rfl, hk2⟩ := zI_X12_isHour hk
  exact ⟨Nat.le_of_ble_eq_true rfl, zH_X12_isHour p hk2⟩
set_option maxRecDepth 20000 in
theorem zM_X12_isHour (l : Launch) : ab_Met l zw_M vwCl zZ_M yX12_isHour cX12_isHour 2 (some .boolean) zR_X12_isHour zt_X12_isHour := ab_ofRun (G := zg_X12_isHour) (P := zp_X12_isHour) rfl zo_X12_isHour (by decide +kernel) zl_cl zl_lamM zf_X12_ok ab_Tab_nil zc_X12_ok ab_Sta_nil (List.forall_mem_nil _) (List.forall_mem_cons.mpr ⟨ab_callS zZ_M_ok (zM_X12_in l) (ab_in 1200 (by decide +kernel) rfl) (ab_in 1198 (by decide +kernel) rfl) (ab_in 1199 (by decide +kernel) rfl) (ab_in 17 (by decide +kernel) rfl) (by unfold ab_yok; decide +kernel) ⟨rfl, rfl⟩ (by decide), List.forall_mem_nil _⟩) zE_X12_isHour
def zrk (s : Int32) : Int32 := if s = 0 then 0 else if s = 11 then 1 else if s = 12 then 2 else if s = 13 then 3 else if s ≤ 15 then 4 else if s ≤ 17 then 5 else if s = 18 then 6 else 7
def zt_X12_rank : ab_T := ab_pure (fun as M N => match as with
  | [.int s] => some (.int (zrk s))
  | _ => none)
theorem zI_X12_rank {as : List Value} {M : ab_M} {N : ab_N} {k : ab_R} (hk : zt_X12_rank as M N k) : ∃ (s : Int32), as = [.int s] ∧ k (some (.int (zrk s))) M N := by
  unfold zt_X12_rank ab_pure at hk
  dsimp only at hk
  split at hk
  · rename_i v hv
    split at hv
    · cases hv
      exact ⟨_, rfl, hk⟩
    · cases hv
  · exact hk.elim
def zp_X12_rank : ab_P := [(0, .iload_n 0, 1, [0], []),
  (1, .ifCond .ne 7, 4, [8], []),
  (4, .iconst 0, 5, [], [0]),
  (5, .goto 66, 8, [71], []),
  (8, .iload_n 0, 9, [0], []),
  (9, .bipush 11, 11, [], [11]),
  (11, .if_icmp .ne 7, 14, [18], []),
  (14, .iconst 1, 15, [], [1]),
  (15, .goto 56, 18, [71], []),
  (18, .iload_n 0, 19, [0], []),
  (19, .bipush 12, 21, [], [12]),
  (21, .if_icmp .ne 7, 24, [28], []),
  (24, .iconst 2, 25, [], [2]),
  (25, .goto 46, 28, [71], []),
  (28, .iload_n 0, 29, [0], []),
  (29, .bipush 13, 31, [], [13]),
  (31, .if_icmp .ne 7, 34, [38], []),
  (34, .iconst 3, 35, [], [3]),
  (35, .goto 36, 38, [71], []),
  (38, .iload_n 0, 39, [0], []),
  (39, .bipush 15, 41, [], [15]),
  (41, .if_icmp .gt 7, 44, [48], []),
  (44, .iconst 4, 45, [], [4]),
  (45, .goto 26, 48, [71], []),
  (48, .iload_n 0, 49, [0], []),
  (49, .bipush 17, 51, [], [17]),
  (51, .if_icmp .gt 7, 54, [58], []),
  (54, .iconst 5, 55, [], [5]),
  (55, .goto 16, 58, [71], []),
  (58, .iload_n 0, 59, [0], []),
  (59, .bipush 18, 61, [], [18]),
  (61, .if_icmp .ne 8, 64, [69], []),
  (64, .bipush 6, 66, [], [6]),
  (66, .goto 5, 69, [71], []),
  (69, .bipush 7, 71, [], [7]),
  (71, .ireturn, 72, [], [])]
theorem zo_X12_rank : ab_ok cX12_rank zp_X12_rank = true := by decide +kernel
def zg_X12_rank : ab_G := (zw_M, [], zf_X12, zc_X12, [], [], [])
theorem zm_X12_rank : ab_MG zg_X12_rank := ab_MGof (List.forall_mem_nil _) (List.forall_mem_nil _)
abbrev zr_X12_rank (Q : ab_R) : ab_K := ab_Run zg_X12_rank zp_X12_rank (some .int) 1 Q
set_option maxRecDepth 20000 in
theorem zv_X12_rank_0 {Q : ab_R} {M : ab_M} {N : ab_N} (l0 : Int32) (h : (l0 = 0 → Q (some (.int (0 : Int32))) M N) ∧ (¬ (l0 = 0) → (l0 = (11 : Int32) → Q (some (.int (1 : Int32))) M N) ∧ (¬ (l0 = (11 : Int32)) → (l0 = (12 : Int32) → Q (some (.int (2 : Int32))) M N) ∧ (¬ (l0 = (12 : Int32)) → (l0 = (13 : Int32) → Q (some (.int (3 : Int32))) M N) ∧ (¬ (l0 = (13 : Int32)) → ((15 : Int32) < l0 → ((17 : Int32) < l0 → (l0 = (18 : Int32) → Q (some (.int (6 : Int32))) M N) ∧ (¬ (l0 = (18 : Int32)) → Q (some (.int (7 : Int32))) M N)) ∧ (¬ ((17 : Int32) < l0) → Q (some (.int (5 : Int32))) M N)) ∧ (¬ ((15 : Int32) < l0) → Q (some (.int (4 : Int32))) M N)))))) : zr_X12_rank Q 0 [some (.int l0)] [] M N := ab_Run_s zm_X12_rank (sp := []) 38 h
theorem zH_X12_rank (s : Int32) {M : ab_M} {N : ab_N} {k : ab_R} (hk : k (some (.int (zrk s))) M N) : zr_X12_rank k 0 [some (.int s)] [] M N := by
  refine zv_X12_rank_0 _ ?_
  (repeat' first | exact ab_vpk (by decide) | exact hp | refine And.intro ?_ ?_ | intro _)
  all_goals first | rfl | exact ab_b_n | (refine ab_qi hk ?_; (try unfold ab_b at *); grind [ab_b, zrk]) | grind
abbrev zR_X12_rank : Room := { frames := 0, cells := 0, slots := 0, locals := 0 }
theorem zE_X12_rank (as : List Value) (M : ab_M) (N : ab_N) (k : ab_R) (hk : zt_X12_rank as M N k) : ab_cs as ≤ 1 ∧ zr_X12_rank k 0 (ab_en as) [] M N := by
  obtain ⟨s, rfl, hk2⟩ := zI_X12_rank hk
  exact ⟨Nat.le_of_ble_eq_true rfl, zH_X12_rank s hk2⟩
set_option maxRecDepth 20000 in
theorem zM_X12_rank (l : Launch) : ab_Met l zw_M vwCl zZ_M yX12_rank cX12_rank 1 (some .int) zR_X12_rank zt_X12_rank := ab_ofRun (G := zg_X12_rank) (P := zp_X12_rank) rfl zo_X12_rank (by decide +kernel) zl_cl zl_lamM zf_X12_ok ab_Tab_nil zc_X12_ok ab_Sta_nil (List.forall_mem_nil _) (List.forall_mem_nil _) zE_X12_rank
def zj2 (c a b : Int32) : Int32 := if c = 11 then ab_b (¬ a = 0 ∨ ¬ b = 0) else if c = 12 then ab_b (¬ a = 0 ∧ ¬ b = 0) else if c = 14 then ab_b (a < b) else if c = 15 then ab_b (a = b) else if c = 16 then a + b else if c = 17 then a - b else a * b
def zt_X12_two : ab_T := ab_pure (fun as M N => match as with
  | [.int c, .int a, .int b] => some (.int (zj2 c a b))
  | _ => none)
theorem zI_X12_two {as : List Value} {M : ab_M} {N : ab_N} {k : ab_R} (hk : zt_X12_two as M N k) : ∃ (c : Int32) (a : Int32) (b : Int32), as = [.int c, .int a, .int b] ∧ k (some (.int (zj2 c a b))) M N := by
  unfold zt_X12_two ab_pure at hk
  dsimp only at hk
  split at hk
  · rename_i v hv
    split at hv
    · cases hv
      exact ⟨_, _, _, rfl, hk⟩
    · cases hv
  · exact hk.elim
def zp_X12_two : ab_P := [(0, .iload_n 0, 1, [0], []),
  (1, .tableswitch 101 11 17 #[43, 57, 101, 71, 82, 93, 97], 44, [102, 44, 58, 102, 72, 83, 94, 98], [11, 12, 13, 14, 15, 16, 17]),
  (44, .iload_n 1, 45, [1], []),
  (45, .ifCond .ne 7, 48, [52], []),
  (48, .iload_n 2, 49, [2], []),
  (49, .ifCond .eq 7, 52, [56], []),
  (52, .iconst 1, 53, [], [1]),
  (53, .goto 4, 56, [57], []),
  (56, .iconst 0, 57, [], [0]),
  (57, .ireturn, 58, [], []),
  (58, .iload_n 1, 59, [1], []),
  (59, .ifCond .eq 11, 62, [70], []),
  (62, .iload_n 2, 63, [2], []),
  (63, .ifCond .eq 7, 66, [70], []),
  (66, .iconst 1, 67, [], [1]),
  (67, .goto 4, 70, [71], []),
  (70, .iconst 0, 71, [], [0]),
  (71, .ireturn, 72, [], []),
  (72, .iload_n 1, 73, [1], []),
  (73, .iload_n 2, 74, [2], []),
  (74, .if_icmp .ge 7, 77, [81], []),
  (77, .iconst 1, 78, [], [1]),
  (78, .goto 4, 81, [82], []),
  (81, .iconst 0, 82, [], [0]),
  (82, .ireturn, 83, [], []),
  (83, .iload_n 1, 84, [1], []),
  (84, .iload_n 2, 85, [2], []),
  (85, .if_icmp .ne 7, 88, [92], []),
  (88, .iconst 1, 89, [], [1]),
  (89, .goto 4, 92, [93], []),
  (92, .iconst 0, 93, [], [0]),
  (93, .ireturn, 94, [], []),
  (94, .iload_n 1, 95, [1], []),
  (95, .iload_n 2, 96, [2], []),
  (96, .iadd, 97, [], []),
  (97, .ireturn, 98, [], []),
  (98, .iload_n 1, 99, [1], []),
  (99, .iload_n 2, 100, [2], []),
  (100, .isub, 101, [], []),
  (101, .ireturn, 102, [], []),
  (102, .iload_n 1, 103, [1], []),
  (103, .iload_n 2, 104, [2], []),
  (104, .imul, 105, [], []),
  (105, .ireturn, 106, [], [])]
theorem zo_X12_two : ab_ok cX12_two zp_X12_two = true := by decide +kernel
def zg_X12_two : ab_G := (zw_M, [], zf_X12, zc_X12, [], [], [])
theorem zm_X12_two : ab_MG zg_X12_two := ab_MGof (List.forall_mem_nil _) (List.forall_mem_nil _)
abbrev zr_X12_two (Q : ab_R) : ab_K := ab_Run zg_X12_two zp_X12_two (some .int) 3 Q
set_option maxRecDepth 20000 in
theorem zv_X12_two_0 {Q : ab_R} {M : ab_M} {N : ab_N} (l0 : Int32) (l1 : Int32) (l2 : Int32) (h : (l0 = 11 → (l1 = 0 → (l2 = 0 → Q (some (.int (0 : Int32))) M N) ∧ (¬ (l2 = 0) → Q (some (.int (1 : Int32))) M N)) ∧ (¬ (l1 = 0) → Q (some (.int (1 : Int32))) M N)) ∧ (¬ l0 = 11 → (l0 = 12 → (l1 = 0 → Q (some (.int (0 : Int32))) M N) ∧ (¬ (l1 = 0) → (l2 = 0 → Q (some (.int (0 : Int32))) M N) ∧ (¬ (l2 = 0) → Q (some (.int (1 : Int32))) M N))) ∧ (¬ l0 = 12 → (l0 = 13 → Q (some (.int (l1 * l2))) M N) ∧ (¬ l0 = 13 → (l0 = 14 → (l2 ≤ l1 → Q (some (.int (0 : Int32))) M N) ∧ (¬ (l2 ≤ l1) → Q (some (.int (1 : Int32))) M N)) ∧ (¬ l0 = 14 → (l0 = 15 → (l1 = l2 → Q (some (.int (1 : Int32))) M N) ∧ (¬ (l1 = l2) → Q (some (.int (0 : Int32))) M N)) ∧ (¬ l0 = 15 → (l0 = 16 → Q (some (.int (l1 + l2))) M N) ∧ (¬ l0 = 16 → (l0 = 17 → Q (some (.int (l1 - l2))) M N) ∧ (¬ l0 = 17 → Q (some (.int (l1 * l2))) M N)))))))) : zr_X12_two Q 0 [some (.int l0), some (.int l1), some (.int l2)] [] M N := ab_Run_s zm_X12_two (sp := []) 46 h
theorem zH_X12_two (c : Int32) (a : Int32) (b : Int32) {M : ab_M} {N : ab_N} {k : ab_R} (hk : k (some (.int (zj2 c a b))) M N) : zr_X12_two k 0 [some (.int c), some (.int a), some (.int b)] [] M N := by
  refine zv_X12_two_0 _ _ _ ?_
  (repeat' first | exact ab_vpk (by decide) | exact hp | refine And.intro ?_ ?_ | intro _)
  all_goals first | rfl | exact ab_b_n | (refine ab_qi hk ?_; (try unfold ab_b at *); grind [ab_b, zj2]) | grind
abbrev zR_X12_two : Room := { frames := 0, cells := 0, slots := 0, locals := 0 }
theorem zE_X12_two (as : List Value) (M : ab_M) (N : ab_N) (k : ab_R) (hk : zt_X12_two as M N k) : ab_cs as ≤ 3 ∧ zr_X12_two k 0 (ab_en as) [] M N := by
  obtain ⟨c, a, b, rfl, hk2⟩ := zI_X12_two hk
  exact ⟨Nat.le_of_ble_eq_true rfl, zH_X12_two c a b hk2⟩
set_option maxRecDepth 20000 in
theorem zM_X12_two (l : Launch) : ab_Met l zw_M vwCl zZ_M yX12_two cX12_two 3 (some .int) zR_X12_two zt_X12_two := ab_ofRun (G := zg_X12_two) (P := zp_X12_two) rfl zo_X12_two (by decide +kernel) zl_cl zl_lamM zf_X12_ok ab_Tab_nil zc_X12_ok ab_Sta_nil (List.forall_mem_nil _) (List.forall_mem_nil _) zE_X12_two
def zTow2 (f t v : Int32) : Int32 := if f < t then f + (if t - f < v then t - f else v) else f - (if f - t < v then f - t else v)
def zt_X12_towards : ab_T := ab_pure (fun as M N => match as with
  | [.int f, .int t, .int v] => some (.int (zTow2 f t v))
  | _ => none)
theorem zI_X12_towards {as : List Value} {M : ab_M} {N : ab_N} {k : ab_R} (hk : zt_X12_towards as M N k) : ∃ (f : Int32) (t : Int32) (v : Int32), as = [.int f, .int t, .int v] ∧ k (some (.int (zTow2 f t v))) M N := by
  unfold zt_X12_towards ab_pure at hk
  dsimp only at hk
  split at hk
  · rename_i v hv
    split at hv
    · cases hv
      exact ⟨_, _, _, rfl, hk⟩
    · cases hv
  · exact hk.elim
def zp_X12_towards : ab_P := [(0, .iload_n 0, 1, [0], []),
  (1, .iload_n 1, 2, [1], []),
  (2, .if_icmp .ge 22, 5, [24], []),
  (5, .iload_n 0, 6, [0], []),
  (6, .iload_n 1, 7, [1], []),
  (7, .iload_n 0, 8, [0], []),
  (8, .isub, 9, [], []),
  (9, .iload_n 2, 10, [2], []),
  (10, .if_icmp .ge 9, 13, [19], []),
  (13, .iload_n 1, 14, [1], []),
  (14, .iload_n 0, 15, [0], []),
  (15, .isub, 16, [], []),
  (16, .goto 4, 19, [20], []),
  (19, .iload_n 2, 20, [2], []),
  (20, .iadd, 21, [], []),
  (21, .goto 19, 24, [40], []),
  (24, .iload_n 0, 25, [0], []),
  (25, .iload_n 0, 26, [0], []),
  (26, .iload_n 1, 27, [1], []),
  (27, .isub, 28, [], []),
  (28, .iload_n 2, 29, [2], []),
  (29, .if_icmp .ge 9, 32, [38], []),
  (32, .iload_n 0, 33, [0], []),
  (33, .iload_n 1, 34, [1], []),
  (34, .isub, 35, [], []),
  (35, .goto 4, 38, [39], []),
  (38, .iload_n 2, 39, [2], []),
  (39, .isub, 40, [], []),
  (40, .ireturn, 41, [], [])]
theorem zo_X12_towards : ab_ok cX12_towards zp_X12_towards = true := by decide +kernel
def zg_X12_towards : ab_G := (zw_M, [], zf_X12, zc_X12, [], [], [])
theorem zm_X12_towards : ab_MG zg_X12_towards := ab_MGof (List.forall_mem_nil _) (List.forall_mem_nil _)
abbrev zr_X12_towards (Q : ab_R) : ab_K := ab_Run zg_X12_towards zp_X12_towards (some .int) 3 Q
set_option maxRecDepth 20000 in
theorem zv_X12_towards_0 {Q : ab_R} {M : ab_M} {N : ab_N} (l0 : Int32) (l1 : Int32) (l2 : Int32) (h : (l1 ≤ l0 → (l2 ≤ (l0 - l1) → Q (some (.int (l0 - l2))) M N) ∧ (¬ (l2 ≤ (l0 - l1)) → Q (some (.int (l0 - (l0 - l1)))) M N)) ∧ (¬ (l1 ≤ l0) → (l2 ≤ (l1 - l0) → Q (some (.int (l0 + l2))) M N) ∧ (¬ (l2 ≤ (l1 - l0)) → Q (some (.int (l0 + (l1 - l0)))) M N))) : zr_X12_towards Q 0 [some (.int l0), some (.int l1), some (.int l2)] [] M N := ab_Run_s zm_X12_towards (sp := []) 31 h
theorem zH_X12_towards (f : Int32) (t : Int32) (v : Int32) {M : ab_M} {N : ab_N} {k : ab_R} (hk : k (some (.int (zTow2 f t v))) M N) : zr_X12_towards k 0 [some (.int f), some (.int t), some (.int v)] [] M N := by
  refine zv_X12_towards_0 _ _ _ ?_
  (repeat' first | exact ab_vpk (by decide) | exact hp | refine And.intro ?_ ?_ | intro _)
  all_goals first | rfl | exact ab_b_n | (refine ab_qi hk ?_; (try unfold ab_b at *); grind [ab_b, zTow2]) | grind
abbrev zR_X12_towards : Room := { frames := 0, cells := 0, slots := 0, locals := 0 }
theorem zE_X12_towards (as : List Value) (M : ab_M) (N : ab_N) (k : ab_R) (hk : zt_X12_towards as M N k) : ab_cs as ≤ 3 ∧ zr_X12_towards k 0 (ab_en as) [] M N := by
  obtain ⟨f, t, v, rfl, hk2⟩ := zI_X12_towards hk
  exact ⟨Nat.le_of_ble_eq_true rfl, zH_X12_towards f t v hk2⟩
set_option maxRecDepth 20000 in
theorem zM_X12_towards (l : Launch) : ab_Met l zw_M vwCl zZ_M yX12_towards cX12_towards 3 (some .int) zR_X12_towards zt_X12_towards := ab_ofRun (G := zg_X12_towards) (P := zp_X12_towards) rfl zo_X12_towards (by decide +kernel) zl_cl zl_lamM zf_X12_ok ab_Tab_nil zc_X12_ok ab_Sta_nil (List.forall_mem_nil _) (List.forall_mem_nil _) zE_X12_towards
def zt_X12_isUnder : ab_T := ab_pure (fun as M N => match as with
  | [.int x, .int o] => some (.int (ab_b (o = 0 ∨ x = o ∨ (o = 1 ∧ (x = 4 ∨ x = 5)))))
  | _ => none)
theorem zI_X12_isUnder {as : List Value} {M : ab_M} {N : ab_N} {k : ab_R} (hk : zt_X12_isUnder as M N k) : ∃ (x : Int32) (o : Int32), as = [.int x, .int o] ∧ k (some (.int (ab_b (o = 0 ∨ x = o ∨ (o = 1 ∧ (x = 4 ∨ x = 5)))))) M N := by
  unfold zt_X12_isUnder ab_pure at hk
  dsimp only at hk
  split at hk
  · rename_i v hv
    split at hv
    · cases hv
      exact ⟨_, _, rfl, hk⟩
    · cases hv
  · exact hk.elim
def zp_X12_isUnder : ab_P := [(0, .iload_n 1, 1, [1], []),
  (1, .ifCond .eq 23, 4, [24], []),
  (4, .iload_n 0, 5, [0], []),
  (5, .iload_n 1, 6, [1], []),
  (6, .if_icmp .eq 18, 9, [24], []),
  (9, .iload_n 1, 10, [1], []),
  (10, .iconst 1, 11, [], [1]),
  (11, .if_icmp .ne 17, 14, [28], []),
  (14, .iload_n 0, 15, [0], []),
  (15, .iconst 4, 16, [], [4]),
  (16, .if_icmp .eq 8, 19, [24], []),
  (19, .iload_n 0, 20, [0], []),
  (20, .iconst 5, 21, [], [5]),
  (21, .if_icmp .ne 7, 24, [28], []),
  (24, .iconst 1, 25, [], [1]),
  (25, .goto 4, 28, [29], []),
  (28, .iconst 0, 29, [], [0]),
  (29, .ireturn, 30, [], [])]
theorem zo_X12_isUnder : ab_ok cX12_isUnder zp_X12_isUnder = true := by decide +kernel
def zg_X12_isUnder : ab_G := (zw_M, [], zf_X12, zc_X12, [], [], [])
theorem zm_X12_isUnder : ab_MG zg_X12_isUnder := ab_MGof (List.forall_mem_nil _) (List.forall_mem_nil _)
abbrev zr_X12_isUnder (Q : ab_R) : ab_K := ab_Run zg_X12_isUnder zp_X12_isUnder (some .boolean) 2 Q
set_option maxRecDepth 20000 in
theorem zv_X12_isUnder_0 {Q : ab_R} {M : ab_M} {N : ab_N} (l0 : Int32) (l1 : Int32) (h : (l1 = 0 → narrow .boolean (.int (1 : Int32)) = .int (1 : Int32) ∧ Q (some (.int (1 : Int32))) M N) ∧ (¬ (l1 = 0) → (l0 = l1 → narrow .boolean (.int (1 : Int32)) = .int (1 : Int32) ∧ Q (some (.int (1 : Int32))) M N) ∧ (¬ (l0 = l1) → (l1 = (1 : Int32) → (l0 = (4 : Int32) → narrow .boolean (.int (1 : Int32)) = .int (1 : Int32) ∧ Q (some (.int (1 : Int32))) M N) ∧ (¬ (l0 = (4 : Int32)) → (l0 = (5 : Int32) → narrow .boolean (.int (1 : Int32)) = .int (1 : Int32) ∧ Q (some (.int (1 : Int32))) M N) ∧ (¬ (l0 = (5 : Int32)) → narrow .boolean (.int (0 : Int32)) = .int (0 : Int32) ∧ Q (some (.int (0 : Int32))) M N))) ∧ (¬ (l1 = (1 : Int32)) → narrow .boolean (.int (0 : Int32)) = .int (0 : Int32) ∧ Q (some (.int (0 : Int32))) M N)))) : zr_X12_isUnder Q 0 [some (.int l0), some (.int l1)] [] M N := ab_Run_s zm_X12_isUnder (sp := []) 20 h
theorem zH_X12_isUnder (x : Int32) (o : Int32) {M : ab_M} {N : ab_N} {k : ab_R} (hk : k (some (.int (ab_b (o = 0 ∨ x = o ∨ (o = 1 ∧ (x = 4 ∨ x = 5)))))) M N) : zr_X12_isUnder k 0 [some (.int x), some (.int o)] [] M N := by
  refine zv_X12_isUnder_0 _ _ ?_
  (repeat' first | exact ab_vpk (by decide) | exact hp | refine And.intro ?_ ?_ | intro _)
  all_goals first | rfl | exact ab_b_n | (refine ab_qi hk ?_; (try unfold ab_b at *); grind) | grind
abbrev zR_X12_isUnder : Room := { frames := 0, cells := 0, slots := 0, locals := 0 }
theorem zE_X12_isUnder (as : List Value) (M : ab_M) (N : ab_N) (k : ab_R) (hk : zt_X12_isUnder as M N k) : ab_cs as ≤ 2 ∧ zr_X12_isUnder k 0 (ab_en as) [] M N := by
  obtain ⟨x, o, rfl, hk2⟩ := zI_X12_isUnder hk
  exact ⟨Nat.le_of_ble_eq_true rfl, zH_X12_isUnder x o hk2⟩
set_option maxRecDepth 20000 in
theorem zM_X12_isUnder (l : Launch) : ab_Met l zw_M vwCl zZ_M yX12_isUnder cX12_isUnder 2 (some .boolean) zR_X12_isUnder zt_X12_isUnder := ab_ofRun (G := zg_X12_isUnder) (P := zp_X12_isUnder) rfl zo_X12_isUnder (by decide +kernel) zl_cl zl_lamM zf_X12_ok ab_Tab_nil zc_X12_ok ab_Sta_nil (List.forall_mem_nil _) (List.forall_mem_nil _) zE_X12_isUnder
def zt_X12_isVillage : ab_T := ab_pure (fun as M N => match as with
  | [.ref r1, .int p, .int h] => (match Nat.beq r1 0 with | true => some (.int (ab_b (0 ≤ (M 0) 5 ∧ p < (M 0) 3 ∧ (M 0) 5 + (M 0) 4 ≤ h))) | false => none)
  | _ => none)
theorem zI_X12_isVillage {as : List Value} {M : ab_M} {N : ab_N} {k : ab_R} (hk : zt_X12_isVillage as M N k) : ∃ (p : Int32) (h : Int32), as = [.ref 0, .int p, .int h] ∧ k (some (.int (ab_b (0 ≤ (M 0) 5 ∧ p < (M 0) 3 ∧ (M 0) 5 + (M 0) 4 ≤ h)))) M N := by
  unfold zt_X12_isVillage ab_pure at hk
  dsimp only at hk
  split at hk
  · rename_i v hv
    split at hv
    · split at hv
      · rename_i hb0
        cases hv
        rw [Nat.eq_of_beq_eq_true hb0]
        exact ⟨_, _, rfl, hk⟩
      · cases hv
    · cases hv
  · exact hk.elim
def zp_X12_isVillage : ab_P := [(0, .aload_n 0, 1, [0], []),
  (1, .getfield 22, 4, [], []),
  (4, .ifCond .lt 28, 7, [32], []),
  (7, .iload_n 1, 8, [1], []),
  (8, .aload_n 0, 9, [0], []),
  (9, .getfield 16, 12, [], []),
  (12, .if_icmp .ge 20, 15, [32], []),
  (15, .iload_n 2, 16, [2], []),
  (16, .aload_n 0, 17, [0], []),
  (17, .getfield 22, 20, [], []),
  (20, .aload_n 0, 21, [0], []),
  (21, .getfield 19, 24, [], []),
  (24, .iadd, 25, [], []),
  (25, .if_icmp .lt 7, 28, [32], []),
  (28, .iconst 1, 29, [], [1]),
  (29, .goto 4, 32, [33], []),
  (32, .iconst 0, 33, [], [0]),
  (33, .ireturn, 34, [], [])]
theorem zo_X12_isVillage : ab_ok cX12_isVillage zp_X12_isVillage = true := by decide +kernel
def zg_X12_isVillage : ab_G := (zw_M, [], zf_X12, zc_X12, [], [], [])
theorem zm_X12_isVillage : ab_MG zg_X12_isVillage := ab_MGof (List.forall_mem_nil _) (List.forall_mem_nil _)
abbrev zr_X12_isVillage (Q : ab_R) : ab_K := ab_Run zg_X12_isVillage zp_X12_isVillage (some .boolean) 3 Q
set_option maxRecDepth 20000 in
theorem zv_X12_isVillage_0 {Q : ab_R} {M : ab_M} {N : ab_N} (l1 : Int32) (l2 : Int32) (h : ((M 0 5) < 0 → narrow .boolean (.int (0 : Int32)) = .int (0 : Int32) ∧ Q (some (.int (0 : Int32))) M N) ∧ (¬ ((M 0 5) < 0) → ((M 0 3) ≤ l1 → narrow .boolean (.int (0 : Int32)) = .int (0 : Int32) ∧ Q (some (.int (0 : Int32))) M N) ∧ (¬ ((M 0 3) ≤ l1) → (l2 < ((M 0 5) + (M 0 4)) → narrow .boolean (.int (0 : Int32)) = .int (0 : Int32) ∧ Q (some (.int (0 : Int32))) M N) ∧ (¬ (l2 < ((M 0 5) + (M 0 4))) → narrow .boolean (.int (1 : Int32)) = .int (1 : Int32) ∧ Q (some (.int (1 : Int32))) M N)))) : zr_X12_isVillage Q 0 [some (.ref 0), some (.int l1), some (.int l2)] [] M N := ab_Run_s zm_X12_isVillage (sp := []) 20 h
theorem zH_X12_isVillage (p : Int32) (h : Int32) {M : ab_M} {N : ab_N} {k : ab_R} (hk : k (some (.int (ab_b (0 ≤ (M 0) 5 ∧ p < (M 0) 3 ∧ (M 0) 5 + (M 0) 4 ≤ h)))) M N) : zr_X12_isVillage k 0 [some (.ref 0), some (.int p), some (.int h)] [] M N := by
  refine zv_X12_isVillage_0 _ _ ?_
  (repeat' first | exact ab_vpk (by decide) | exact hp | refine And.intro ?_ ?_ | intro _)
  all_goals first | rfl | exact ab_b_n | (refine ab_qi hk ?_; (try unfold ab_b at *); grind) | grind
abbrev zR_X12_isVillage : Room := { frames := 0, cells := 0, slots := 0, locals := 0 }
theorem zV_X12_isVillage : ab_recv zw_M vwCl RX12 zt_X12_isVillage := fun as M N k h => by
  obtain ⟨_, _, rfl, -⟩ := zI_X12_isVillage h
  exact ⟨_, _, _, _, _, _, rfl, rfl, rfl⟩
theorem zE_X12_isVillage (as : List Value) (M : ab_M) (N : ab_N) (k : ab_R) (hk : zt_X12_isVillage as M N k) : ab_cs as ≤ 3 ∧ zr_X12_isVillage k 0 (ab_en as) [] M N := by
  obtain ⟨p, h, rfl, hk2⟩ := zI_X12_isVillage hk
  exact ⟨Nat.le_of_ble_eq_true rfl, zH_X12_isVillage p h hk2⟩
set_option maxRecDepth 20000 in
theorem zM_X12_isVillage (l : Launch) : ab_Met l zw_M vwCl zZ_M yX12_isVillage cX12_isVillage 3 (some .boolean) zR_X12_isVillage zt_X12_isVillage := ab_ofRun (G := zg_X12_isVillage) (P := zp_X12_isVillage) rfl zo_X12_isVillage (by decide +kernel) zl_cl zl_lamM zf_X12_ok ab_Tab_nil zc_X12_ok ab_Sta_nil (List.forall_mem_nil _) (List.forall_mem_nil _) zE_X12_isVillage
def zt_X12_doesLook : ab_T := ab_pp (fun as M N => match as with
  | [.ref r1, .int m, .int h] => (match Nat.beq r1 0 with | true => some ((vp_in m 5 ∧ ¬ (M 10) m.toNatClampNeg + 2 = 0), (.int (ab_b (¬ m = (M 0) 30 ∧ (¬ (M 6) m.toNatClampNeg = 5 ∨ ¬ h - h / ((M 10) m.toNatClampNeg + 2) * ((M 10) m.toNatClampNeg + 2) = (M 10) m.toNatClampNeg + 1))))) | false => none)
  | _ => none)
theorem zI_X12_doesLook {as : List Value} {M : ab_M} {N : ab_N} {k : ab_R} (hk : zt_X12_doesLook as M N k) : ∃ (m : Int32) (h : Int32), as = [.ref 0, .int m, .int h] ∧ (vp_in m 5 ∧ ¬ (M 10) m.toNatClampNeg + 2 = 0) ∧ k (some (.int (ab_b (¬ m = (M 0) 30 ∧ (¬ (M 6) m.toNatClampNeg = 5 ∨ ¬ h - h / ((M 10) m.toNatClampNeg + 2) * ((M 10) m.toNatClampNeg + 2) = (M 10) m.toNatClampNeg + 1))))) M N := by
  unfold zt_X12_doesLook ab_pp at hk
  dsimp only at hk
  split at hk
  · rename_i v hv
    split at hv
    · split at hv
      · rename_i hb0
        cases hv
        rw [Nat.eq_of_beq_eq_true hb0]
        exact ⟨_, _, rfl, hk⟩
      · cases hv
    · cases hv
  · exact hk.elim
def zp_X12_doesLook : ab_P := [(0, .iload_n 1, 1, [1], []),
  (1, .aload_n 0, 2, [0], []),
  (2, .getfield 77, 5, [], []),
  (5, .if_icmp .eq 38, 8, [43], []),
  (8, .aload_n 0, 9, [0], []),
  (9, .getfield 41, 12, [], []),
  (12, .iload_n 1, 13, [1], []),
  (13, .iaload, 14, [], []),
  (14, .iconst 5, 15, [], [5]),
  (15, .if_icmp .ne 24, 18, [39], []),
  (18, .iload_n 2, 19, [2], []),
  (19, .aload_n 0, 20, [0], []),
  (20, .getfield 53, 23, [], []),
  (23, .iload_n 1, 24, [1], []),
  (24, .iaload, 25, [], []),
  (25, .iconst 2, 26, [], [2]),
  (26, .iadd, 27, [], []),
  (27, .irem, 28, [], []),
  (28, .aload_n 0, 29, [0], []),
  (29, .getfield 53, 32, [], []),
  (32, .iload_n 1, 33, [1], []),
  (33, .iaload, 34, [], []),
  (34, .iconst 1, 35, [], [1]),
  (35, .iadd, 36, [], []),
  (36, .if_icmp .eq 7, 39, [43], []),
  (39, .iconst 1, 40, [], [1]),
  (40, .goto 4, 43, [44], []),
  (43, .iconst 0, 44, [], [0]),
  (44, .ireturn, 45, [], [])]
theorem zo_X12_doesLook : ab_ok cX12_doesLook zp_X12_doesLook = true := by decide +kernel
def zg_X12_doesLook : ab_G := (zw_M, [], zf_X12, zc_X12, [], [], [])
theorem zm_X12_doesLook : ab_MG zg_X12_doesLook := ab_MGof (List.forall_mem_nil _) (List.forall_mem_nil _)
abbrev zr_X12_doesLook (Q : ab_R) : ab_K := ab_Run zg_X12_doesLook zp_X12_doesLook (some .boolean) 3 Q
set_option maxRecDepth 20000 in
theorem zv_X12_doesLook_0 {Q : ab_R} {M : ab_M} {N : ab_N} (l1 : Int32) (l2 : Int32) (h : (l1 = (M 0 30) → narrow .boolean (.int (0 : Int32)) = .int (0 : Int32) ∧ Q (some (.int (0 : Int32))) M N) ∧ (¬ (l1 = (M 0 30)) → vp_in l1 5 ∧ (((M 6 l1.toNatClampNeg) = (5 : Int32) → vp_in l1 5 ∧ (¬ ((M 10 l1.toNatClampNeg) + (2 : Int32)) = 0 ∧ (vp_in l1 5 ∧ (((l2 - l2 / ((M 10 l1.toNatClampNeg) + (2 : Int32)) * ((M 10 l1.toNatClampNeg) + (2 : Int32))) = ((M 10 l1.toNatClampNeg) + (1 : Int32)) → narrow .boolean (.int (0 : Int32)) = .int (0 : Int32) ∧ Q (some (.int (0 : Int32))) M N) ∧ (¬ ((l2 - l2 / ((M 10 l1.toNatClampNeg) + (2 : Int32)) * ((M 10 l1.toNatClampNeg) + (2 : Int32))) = ((M 10 l1.toNatClampNeg) + (1 : Int32))) → narrow .boolean (.int (1 : Int32)) = .int (1 : Int32) ∧ Q (some (.int (1 : Int32))) M N))))) ∧ (¬ ((M 6 l1.toNatClampNeg) = (5 : Int32)) → narrow .boolean (.int (1 : Int32)) = .int (1 : Int32) ∧ Q (some (.int (1 : Int32))) M N)))) : zr_X12_doesLook Q 0 [some (.ref 0), some (.int l1), some (.int l2)] [] M N := ab_Run_s zm_X12_doesLook (sp := []) 31 h
theorem zH_X12_doesLook (m : Int32) (h : Int32) {M : ab_M} {N : ab_N} {k : ab_R} (hp : vp_in m 5 ∧ ¬ (M 10) m.toNatClampNeg + 2 = 0) (hk : k (some (.int (ab_b (¬ m = (M 0) 30 ∧ (¬ (M 6) m.toNatClampNeg = 5 ∨ ¬ h - h / ((M 10) m.toNatClampNeg + 2) * ((M 10) m.toNatClampNeg + 2) = (M 10) m.toNatClampNeg + 1))))) M N) : zr_X12_doesLook k 0 [some (.ref 0), some (.int m), some (.int h)] [] M N := by
  obtain ⟨hp, hp2⟩ := hp
  refine zv_X12_doesLook_0 _ _ ?_
  (repeat' first | exact ab_vpk (by decide) | exact hp | exact hp2 | refine And.intro ?_ ?_ | intro _)
  all_goals first | rfl | exact ab_b_n | (refine ab_qi hk ?_; (try unfold ab_b at *); grind) | grind
abbrev zR_X12_doesLook : Room := { frames := 0, cells := 0, slots := 0, locals := 0 }
theorem zV_X12_doesLook : ab_recv zw_M vwCl RX12 zt_X12_doesLook := fun as M N k h => by
  obtain ⟨_, _, rfl, -⟩ := zI_X12_doesLook h
  exact ⟨_, _, _, _, _, _, rfl, rfl, rfl⟩
theorem zE_X12_doesLook (as : List Value) (M : ab_M) (N : ab_N) (k : ab_R) (hk : zt_X12_doesLook as M N k) : ab_cs as ≤ 3 ∧ zr_X12_doesLook k 0 (ab_en as) [] M N := by
  obtain ⟨m, h, rfl, hp, hk2⟩ := zI_X12_doesLook hk
  exact ⟨Nat.le_of_ble_eq_true rfl, zH_X12_doesLook m h hp hk2⟩
set_option maxRecDepth 20000 in
theorem zM_X12_doesLook (l : Launch) : ab_Met l zw_M vwCl zZ_M yX12_doesLook cX12_doesLook 3 (some .boolean) zR_X12_doesLook zt_X12_doesLook := ab_ofRun (G := zg_X12_doesLook) (P := zp_X12_doesLook) rfl zo_X12_doesLook (by decide +kernel) zl_cl zl_lamM zf_X12_ok ab_Tab_nil zc_X12_ok ab_Sta_nil (List.forall_mem_nil _) (List.forall_mem_nil _) zE_X12_doesLook
def zSgR (t : Int32) : Int32 := if t = 4 then 11 else if t = 5 then 12 else if t = 60 then 14 else if t = 61 then 15 else if t = 43 then 16 else if t = 45 then 17 else if t = 42 then 18 else -1
def zt_X12_signOf : ab_T := ab_pure (fun as M N => match as with
  | [.ref r1] => (match Nat.beq r1 0 with | true => some (.int (zSgR ((M 0) 52))) | false => none)
  | _ => none)
theorem zI_X12_signOf {as : List Value} {M : ab_M} {N : ab_N} {k : ab_R} (hk : zt_X12_signOf as M N k) : as = [.ref 0] ∧ k (some (.int (zSgR ((M 0) 52)))) M N := by
  unfold zt_X12_signOf ab_pure at hk
  dsimp only at hk
  split at hk
  · rename_i v hv
    split at hv
    · split at hv
      · rename_i hb0
        cases hv
        rw [Nat.eq_of_beq_eq_true hb0]
        exact ⟨rfl, hk⟩
      · cases hv
    · cases hv
  · exact hk.elim
def zp_X12_signOf : ab_P := [(0, .aload_n 0, 1, [0], []),
  (1, .getfield 207, 4, [], []),
  (4, .iconst 4, 5, [], [4]),
  (5, .if_icmp .ne 8, 8, [13], []),
  (8, .bipush 11, 10, [], [11]),
  (10, .goto 87, 13, [97], []),
  (13, .aload_n 0, 14, [0], []),
  (14, .getfield 207, 17, [], []),
  (17, .iconst 5, 18, [], [5]),
  (18, .if_icmp .ne 8, 21, [26], []),
  (21, .bipush 12, 23, [], [12]),
  (23, .goto 74, 26, [97], []),
  (26, .aload_n 0, 27, [0], []),
  (27, .getfield 207, 30, [], []),
  (30, .bipush 60, 32, [], [60]),
  (32, .if_icmp .ne 8, 35, [40], []),
  (35, .bipush 14, 37, [], [14]),
  (37, .goto 60, 40, [97], []),
  (40, .aload_n 0, 41, [0], []),
  (41, .getfield 207, 44, [], []),
  (44, .bipush 61, 46, [], [61]),
  (46, .if_icmp .ne 8, 49, [54], []),
  (49, .bipush 15, 51, [], [15]),
  (51, .goto 46, 54, [97], []),
  (54, .aload_n 0, 55, [0], []),
  (55, .getfield 207, 58, [], []),
  (58, .bipush 43, 60, [], [43]),
  (60, .if_icmp .ne 8, 63, [68], []),
  (63, .bipush 16, 65, [], [16]),
  (65, .goto 32, 68, [97], []),
  (68, .aload_n 0, 69, [0], []),
  (69, .getfield 207, 72, [], []),
  (72, .bipush 45, 74, [], [45]),
  (74, .if_icmp .ne 8, 77, [82], []),
  (77, .bipush 17, 79, [], [17]),
  (79, .goto 18, 82, [97], []),
  (82, .aload_n 0, 83, [0], []),
  (83, .getfield 207, 86, [], []),
  (86, .bipush 42, 88, [], [42]),
  (88, .if_icmp .ne 8, 91, [96], []),
  (91, .bipush 18, 93, [], [18]),
  (93, .goto 4, 96, [97], []),
  (96, .iconst (-1), 97, [], [(-1)]),
  (97, .ireturn, 98, [], [])]
theorem zo_X12_signOf : ab_ok cX12_signOf zp_X12_signOf = true := by decide +kernel
def zg_X12_signOf : ab_G := (zw_M, [], zf_X12, zc_X12, [], [], [])
theorem zm_X12_signOf : ab_MG zg_X12_signOf := ab_MGof (List.forall_mem_nil _) (List.forall_mem_nil _)
abbrev zr_X12_signOf (Q : ab_R) : ab_K := ab_Run zg_X12_signOf zp_X12_signOf (some .int) 1 Q
set_option maxRecDepth 20000 in
theorem zv_X12_signOf_0 {Q : ab_R} {M : ab_M} {N : ab_N}  (h : ((M 0 52) = (4 : Int32) → Q (some (.int (11 : Int32))) M N) ∧ (¬ ((M 0 52) = (4 : Int32)) → ((M 0 52) = (5 : Int32) → Q (some (.int (12 : Int32))) M N) ∧ (¬ ((M 0 52) = (5 : Int32)) → ((M 0 52) = (60 : Int32) → Q (some (.int (14 : Int32))) M N) ∧ (¬ ((M 0 52) = (60 : Int32)) → ((M 0 52) = (61 : Int32) → Q (some (.int (15 : Int32))) M N) ∧ (¬ ((M 0 52) = (61 : Int32)) → ((M 0 52) = (43 : Int32) → Q (some (.int (16 : Int32))) M N) ∧ (¬ ((M 0 52) = (43 : Int32)) → ((M 0 52) = (45 : Int32) → Q (some (.int (17 : Int32))) M N) ∧ (¬ ((M 0 52) = (45 : Int32)) → ((M 0 52) = (42 : Int32) → Q (some (.int (18 : Int32))) M N) ∧ (¬ ((M 0 52) = (42 : Int32)) → Q (some (.int (-1 : Int32))) M N)))))))) : zr_X12_signOf Q 0 [some (.ref 0)] [] M N := ab_Run_s zm_X12_signOf (sp := []) 46 h
theorem zH_X12_signOf  {M : ab_M} {N : ab_N} {k : ab_R} (hk : k (some (.int (zSgR ((M 0) 52)))) M N) : zr_X12_signOf k 0 [some (.ref 0)] [] M N := by
  refine zv_X12_signOf_0  ?_
  (repeat' first | exact ab_vpk (by decide) | exact hp | refine And.intro ?_ ?_ | intro _)
  all_goals first | rfl | exact ab_b_n | (refine ab_qi hk ?_; (try unfold ab_b at *); grind [ab_b, zSgR]) | grind
abbrev zR_X12_signOf : Room := { frames := 0, cells := 0, slots := 0, locals := 0 }
theorem zV_X12_signOf : ab_recv zw_M vwCl RX12 zt_X12_signOf := fun as M N k h => by
  obtain ⟨rfl, -⟩ := zI_X12_signOf h
  exact ⟨_, _, _, _, _, _, rfl, rfl, rfl⟩
theorem zE_X12_signOf (as : List Value) (M : ab_M) (N : ab_N) (k : ab_R) (hk : zt_X12_signOf as M N k) : ab_cs as ≤ 1 ∧ zr_X12_signOf k 0 (ab_en as) [] M N := by
  obtain ⟨rfl, hk2⟩ := zI_X12_signOf hk
  exact ⟨Nat.le_of_ble_eq_true rfl, zH_X12_signOf  hk2⟩
set_option maxRecDepth 20000 in
theorem zM_X12_signOf (l : Launch) : ab_Met l zw_M vwCl zZ_M yX12_signOf cX12_signOf 1 (some .int) zR_X12_signOf zt_X12_signOf := ab_ofRun (G := zg_X12_signOf) (P := zp_X12_signOf) rfl zo_X12_signOf (by decide +kernel) zl_cl zl_lamM zf_X12_ok ab_Tab_nil zc_X12_ok ab_Sta_nil (List.forall_mem_nil _) (List.forall_mem_nil _) zE_X12_signOf
end
section
/-! the reference: a text's worth *)
-/
/-- transformers with what is only thought of: x -/
def ab_lq {α : Type} (pre : α → List Value → ab_M → ab_N → Prop) (post : α → ab_M → ab_N → Option Value → ab_M → ab_N → Prop) : ab_T := fun as M N k => ∃ (x : α) (r : List Value), as = .ref 0 :: r ∧ pre x r M N ∧ ∀ (o : Option Value) (M2 : ab_M) (N2 : ab_N), post x M N o M2 N2 → k o M2 N2
theorem ab_lq_mono {α : Type} (pre : α → List Value → ab_M → ab_N → Prop) (post : α → ab_M → ab_N → Option Value → ab_M → ab_N → Prop) : ab_mono (ab_lq pre post) := fun as M N k k2 hk ⟨x, r, a, b, c⟩ => ⟨x, r, a, b, fun o M2 N2 hp => hk o M2 N2 (c o M2 N2 hp)⟩
theorem ab_lq_v {α : Type} {pre : α → List Value → ab_M → ab_N → Prop} {post : α → ab_M → ab_N → Option Value → ab_M → ab_N → Prop} : ab_recv zw_M vwCl RX12 (ab_lq pre post) := fun as M N k ⟨x, r, a, b, c⟩ => by
  subst a
  exact ⟨_, _, _, _, _, _, rfl, rfl, rfl⟩
def zRc (c : Int32) : Int32 := if 0 ≤ c then 100000 + c else if -7 < c then -1 - c else if c = -7 then 13 else if c = -8 then 19 else if c = -9 then 11 else if c = -10 then 12 else if c = -11 then 14 else if c = -12 then 15 else if c = -13 then 16 else if c = -14 then 17 else 18
def zOkC (c : Int32) : Prop := -15 ≤ c ∧ c ≤ 9999
def zWfH : Nat → List Int32 → Prop
  | h, [] => h = 1
  | h, c :: r => zOkC c ∧ (if -7 < c then zWfH (h + 1) r else if -9 < c then 1 ≤ h ∧ zWfH h r else 2 ≤ h ∧ zWfH (h - 1) r)
def zEvL (nm : Nat → Int32) : List Int32 → List Int32 → List Int32
  | [], st => st
  | c :: r, st => zEvL nm r (zStep nm c st)
theorem zEval_L {code nm : Nat → Int32} : ∀ (C : List Int32) (n : Nat) (st : List Int32), (∀ (j : Nat) (x : Int32), C[j]? = some x → code (n + j) = x) → zEval code nm n C.length st = zEvL nm C st
  | [], n, st, h => rfl
  | c :: r, n, st, h => by
    show zEval code nm (n + 1) r.length (zStep nm (code n) st) = zEvL nm r (zStep nm c st)
    rw [show code n = c from h 0 c rfl]
    refine zEval_L r (n + 1) _ (fun j x hj => ?_)
    rw [show n + 1 + j = n + (j + 1) by omega]
    exact h (j + 1) x hj
def zTextEq (d M : ab_M) (t : Nat) : Prop := ∃ O0 O1 O2 : List Int32, zWfH 0 O0 ∧ zWfH 0 O1 ∧ zWfH 0 O2 ∧ O0.length + O1.length + O2.length ≤ 160 ∧ d 32 (t * 3) = nI (t * 160 + O0.length) ∧ d 32 (t * 3 + 1) = nI (t * 160 + O0.length + O1.length) ∧ d 32 (t * 3 + 2) = nI (t * 160 + O0.length + O1.length + O2.length) ∧ (∀ (j : Nat) (x : Int32), (O0 ++ O1 ++ O2)[j]? = some x → d 31 (t * 160 + j) = x) ∧ M 14 (4 * t) = 0 ∧ M 14 (4 * t + 1) = nI O0.length ∧ M 14 (4 * t + 2) = nI (O0.length + O1.length) ∧ M 14 (4 * t + 3) = nI (O0.length + O1.length + O2.length) ∧ ∀ (j : Nat) (x : Int32), (O0 ++ O1 ++ O2)[j]? = some x → M 13 (200 * t + j) = zRc x
theorem zGet_mid {A B C : List Int32} {j : Nat} {x : Int32} (h : B[j]? = some x) : (A ++ B ++ C)[A.length + j]? = some x := by
  have hj : j < B.length := (List.getElem?_eq_some_iff.mp h).1
  rw [List.append_assoc, List.getElem?_append_right (by omega), Nat.add_sub_cancel_left, List.getElem?_append_left hj]
  exact h
theorem zTextEq_part {d M : ab_M} {w th : Nat} (h : zTextEq d M w) (h3 : d 3 3 = nI w) (hw : w < 6) (hth : th < 3) : ∃ (a : Nat) (O : List Int32), zWfH 0 O ∧ a + O.length ≤ 160 ∧ M 14 (4 * w + th) = nI a ∧ M 14 (4 * w + th + 1) = nI (a + O.length) ∧ (∀ (j : Nat) (x : Int32), O[j]? = some x → M 13 (200 * w + (a + j)) = zRc x) ∧ ∀ nm, zVal d th nm = zTop (zEvL nm O []) := by
  obtain ⟨O0, O1, O2, w0, w1, w2, hl, e0, e1, e2, ec, r0, r1, r2, r3, rc⟩ := h
  have hc : (d 3 3).toNatClampNeg = w := by rw [h3, nI_clamp (by omega)]
  have i0 : ∀ (j : Nat) (x : Int32), O0[j]? = some x → (O0 ++ O1 ++ O2)[0 + j]? = some x := fun j x hj => by
    have hj2 : j < O0.length := (List.getElem?_eq_some_iff.mp hj).1
    rw [Nat.zero_add, List.append_assoc, List.getElem?_append_left hj2]
    exact hj
  have i2 : ∀ (j : Nat) (x : Int32), O2[j]? = some x → (O0 ++ O1 ++ O2)[O0.length + O1.length + j]? = some x := fun j x hj => by
    rw [List.getElem?_append_right (by rw [List.length_append]; omega), List.length_append, Nat.add_sub_cancel_left]
    exact hj
  match th, hth with
  | 0, _ =>
    refine ⟨0, O0, w0, by omega, r0, by rw [Nat.zero_add]; exact r1, fun j x hj => rc _ _ (i0 j x hj), fun nm => ?_⟩
    unfold zVal zFrom zTo
    rw [if_pos rfl, hc, show w * 3 + 0 = w * 3 from rfl, e0, nI_clamp (by omega), show w * 160 + O0.length - w * 160 = O0.length by omega, zEval_L O0 (w * 160) [] (fun j x hj => by rw [← Nat.zero_add j]; exact ec _ _ (i0 j x hj))]
  | 1, _ =>
    refine ⟨O0.length, O1, w1, by omega, r1, r2, fun j x hj => rc _ _ (zGet_mid hj), fun nm => ?_⟩
    unfold zVal zFrom zTo
    rw [if_neg (by decide), hc, show w * 3 + 1 - 1 = w * 3 from rfl, e0, e1, nI_clamp (by omega), nI_clamp (by omega), show w * 160 + O0.length + O1.length - (w * 160 + O0.length) = O1.length by omega, zEval_L O1 _ [] (fun j x hj => by rw [Nat.add_assoc]; exact ec _ _ (zGet_mid hj))]
  | 2, _ =>
    refine ⟨O0.length + O1.length, O2, w2, by omega, r2, r3, fun j x hj => rc _ _ (i2 j x hj), fun nm => ?_⟩
    unfold zVal zFrom zTo
    rw [if_neg (by decide), hc, show w * 3 + 2 - 1 = w * 3 + 1 from rfl, e1, e2, nI_clamp (by omega), nI_clamp (by omega), show w * 160 + O0.length + O1.length + O2.length - (w * 160 + O0.length + O1.length) = O2.length by omega, zEval_L O2 _ [] (fun j x hj => by rw [show w * 160 + O0.length + O1.length + j = w * 160 + (O0.length + O1.length + j) by omega]; exact ec _ _ (i2 j x hj))]
def zLawR (d M : ab_M) : Prop := ∃ w : Nat, w < 6 ∧ d 3 3 = nI w ∧ M 0 24 = nI w ∧ zTextEq d M w
def zt_X12_worth : ab_T := ab_lq (α := ab_M × Nat) (fun x r M _ => r = [.int (nI x.2)] ∧ x.2 < 3 ∧ zLawR x.1 M) (fun x M N o M2 N2 => N2 = N ∧ zFr [26] M M2 ∧ o = some (.int (zVal x.1 x.2 (M 27))))
theorem zt_X12_worth_mono : ab_mono zt_X12_worth := ab_lq_mono _ _
theorem zV_X12_worth : ab_recv zw_M vwCl RX12 zt_X12_worth := ab_lq_v
def zp_X12_worth : ab_P := [(0, .iconst 0, 1, [], [0]),
  (1, .istore_n 2, 2, [2], []),
  (2, .aload_n 0, 3, [0], []),
  (3, .getfield 65, 6, [], []),
  (6, .iconst 4, 7, [], [4]),
  (7, .aload_n 0, 8, [0], []),
  (8, .getfield 193, 11, [], []),
  (11, .imul, 12, [], []),
  (12, .iload_n 1, 13, [1], []),
  (13, .iadd, 14, [], []),
  (14, .iaload, 15, [], []),
  (15, .istore_n 3, 16, [3], []),
  (16, .iload_n 3, 17, [3], []),
  (17, .aload_n 0, 18, [0], []),
  (18, .getfield 65, 21, [], []),
  (21, .iconst 4, 22, [], [4]),
  (22, .aload_n 0, 23, [0], []),
  (23, .getfield 193, 26, [], []),
  (26, .imul, 27, [], []),
  (27, .iload_n 1, 28, [1], []),
  (28, .iadd, 29, [], []),
  (29, .iconst 1, 30, [], [1]),
  (30, .iadd, 31, [], []),
  (31, .iaload, 32, [], []),
  (32, .if_icmp .ge 165, 35, [197], []),
  (35, .aload_n 0, 36, [0], []),
  (36, .getfield 62, 39, [], []),
  (39, .sipush 200, 42, [], [200]),
  (42, .aload_n 0, 43, [0], []),
  (43, .getfield 193, 46, [], []),
  (46, .imul, 47, [], []),
  (47, .iload_n 3, 48, [3], []),
  (48, .iadd, 49, [], []),
  (49, .iaload, 50, [], []),
  (50, .istore 4, 52, [], []),
  (52, .iload 4, 54, [], []),
  (54, .ldc 242, 56, [], []),
  (56, .if_icmp .ge 10, 59, [66], []),
  (59, .iload 4, 61, [], []),
  (61, .bipush 11, 63, [], [11]),
  (63, .if_icmp .ge 37, 66, [100], []),
  (66, .aload_n 0, 67, [0], []),
  (67, .getfield 138, 70, [], []),
  (70, .iload_n 2, 71, [2], []),
  (71, .iload 4, 73, [], []),
  (73, .bipush 11, 75, [], [11]),
  (75, .if_icmp .ge 13, 78, [88], []),
  (78, .aload_n 0, 79, [0], []),
  (79, .getfield 141, 82, [], []),
  (82, .iload 4, 84, [], []),
  (84, .iaload, 85, [], []),
  (85, .goto 8, 88, [93], []),
  (88, .iload 4, 90, [], []),
  (90, .ldc 242, 92, [], []),
  (92, .isub, 93, [], []),
  (93, .iastore, 94, [], []),
  (94, .iinc 2 1, 97, [], [1]),
  (97, .goto 94, 100, [191], []),
  (100, .iload 4, 102, [], []),
  (102, .bipush 13, 104, [], [13]),
  (104, .if_icmp .ne 30, 107, [134], []),
  (107, .aload_n 0, 108, [0], []),
  (108, .getfield 138, 111, [], []),
  (111, .iload_n 2, 112, [2], []),
  (112, .iconst 1, 113, [], [1]),
  (113, .isub, 114, [], []),
  (114, .aload_n 0, 115, [0], []),
  (115, .getfield 138, 118, [], []),
  (118, .iload_n 2, 119, [2], []),
  (119, .iconst 1, 120, [], [1]),
  (120, .isub, 121, [], []),
  (121, .iaload, 122, [], []),
  (122, .ifCond .ne 7, 125, [129], []),
  (125, .iconst 1, 126, [], [1]),
  (126, .goto 4, 129, [130], []),
  (129, .iconst 0, 130, [], [0]),
  (130, .iastore, 131, [], []),
  (131, .goto 60, 134, [191], []),
  (134, .iload 4, 136, [], []),
  (136, .bipush 19, 138, [], [19]),
  (138, .if_icmp .ne 23, 141, [161], []),
  (141, .aload_n 0, 142, [0], []),
  (142, .getfield 138, 145, [], []),
  (145, .iload_n 2, 146, [2], []),
  (146, .iconst 1, 147, [], [1]),
  (147, .isub, 148, [], []),
  (148, .aload_n 0, 149, [0], []),
  (149, .getfield 138, 152, [], []),
  (152, .iload_n 2, 153, [2], []),
  (153, .iconst 1, 154, [], [1]),
  (154, .isub, 155, [], []),
  (155, .iaload, 156, [], []),
  (156, .ineg, 157, [], []),
  (157, .iastore, 158, [], []),
  (158, .goto 33, 161, [191], []),
  (161, .iinc 2 (-1), 164, [], [(-1)]),
  (164, .aload_n 0, 165, [0], []),
  (165, .getfield 138, 168, [], []),
  (168, .iload_n 2, 169, [2], []),
  (169, .iconst 1, 170, [], [1]),
  (170, .isub, 171, [], []),
  (171, .iload 4, 173, [], []),
  (173, .aload_n 0, 174, [0], []),
  (174, .getfield 138, 177, [], []),
  (177, .iload_n 2, 178, [2], []),
  (178, .iconst 1, 179, [], [1]),
  (179, .isub, 180, [], []),
  (180, .iaload, 181, [], []),
  (181, .aload_n 0, 182, [0], []),
  (182, .getfield 138, 185, [], []),
  (185, .iload_n 2, 186, [2], []),
  (186, .iaload, 187, [], []),
  (187, .invokestatic 257, 190, [], []),
  (190, .iastore, 191, [], []),
  (191, .iinc 3 1, 194, [], [1]),
  (194, .goto (-178), 197, [16], []),
  (197, .aload_n 0, 198, [0], []),
  (198, .getfield 138, 201, [], []),
  (201, .iconst 0, 202, [], [0]),
  (202, .iaload, 203, [], []),
  (203, .ireturn, 204, [], [])]
theorem zo_X12_worth : ab_ok cX12_worth zp_X12_worth = true := by decide +kernel
def zg_X12_worth : ab_G := (zw_M, [], zf_X12, zc_X12, [], [], [(257, 3, zt_X12_two)])
theorem zm_X12_worth : ab_MG zg_X12_worth := ab_MGof (List.forall_mem_nil _) (List.forall_mem_cons.mpr ⟨ab_pure_mono _, List.forall_mem_nil _⟩)
abbrev zr_X12_worth (Q : ab_R) : ab_K := ab_Run zg_X12_worth zp_X12_worth (some .int) 5 Q
set_option maxRecDepth 20000 in
theorem zv_X12_worth_0 {Q : ab_R} {M : ab_M} {N : ab_N} (l1 : Int32) (h : vp_in (((4 : Int32) * (M 0 24)) + l1) 24 ∧ (zr_X12_worth Q 16 [some (.ref 0), some (.int l1), some (.int (0 : Int32)), some (.int (M 14 (((4 : Int32) * (M 0 24)) + l1).toNatClampNeg)), none] [] M N)) : zr_X12_worth Q 0 [some (.ref 0), some (.int l1)] [] M N := ab_Run_s zm_X12_worth (sp := [(16, [true, true, true, true, false]), (66, [true, true, true, true, true])]) 123 h
set_option maxRecDepth 20000 in
theorem zv_X12_worth_16 {Q : ab_R} {M : ab_M} {N : ab_N} (l1 : Int32) (l2 : Int32) (l3 : Int32) (h : vp_in ((((4 : Int32) * (M 0 24)) + l1) + (1 : Int32)) 24 ∧ (((M 14 ((((4 : Int32) * (M 0 24)) + l1) + (1 : Int32)).toNatClampNeg) ≤ l3 → vp_in (0 : Int32) 200 ∧ (Q (some (.int (M 26 0))) M N)) ∧ (¬ ((M 14 ((((4 : Int32) * (M 0 24)) + l1) + (1 : Int32)).toNatClampNeg) ≤ l3) → vp_in (((200 : Int32) * (M 0 24)) + l3) 1200 ∧ (((100000 : Int32) ≤ (M 13 (((200 : Int32) * (M 0 24)) + l3).toNatClampNeg) → zr_X12_worth Q 66 [some (.ref 0), some (.int l1), some (.int l2), some (.int l3), some (.int (M 13 (((200 : Int32) * (M 0 24)) + l3).toNatClampNeg))] [] M N) ∧ (¬ ((100000 : Int32) ≤ (M 13 (((200 : Int32) * (M 0 24)) + l3).toNatClampNeg)) → ((11 : Int32) ≤ (M 13 (((200 : Int32) * (M 0 24)) + l3).toNatClampNeg) → ((M 13 (((200 : Int32) * (M 0 24)) + l3).toNatClampNeg) = (13 : Int32) → vp_in (l2 - (1 : Int32)) 200 ∧ (((M 26 (l2 - (1 : Int32)).toNatClampNeg) = 0 → vp_in (l2 - (1 : Int32)) 200 ∧ (let z1 : Nat → Int32 := upd (M 26) (l2 - (1 : Int32)).toNatClampNeg (1 : Int32); zr_X12_worth Q 16 [some (.ref 0), some (.int l1), some (.int l2), some (.int (l3 + (1 : Int32))), none] [] (ab_u M 26 z1) N)) ∧ (¬ ((M 26 (l2 - (1 : Int32)).toNatClampNeg) = 0) → vp_in (l2 - (1 : Int32)) 200 ∧ (let z2 : Nat → Int32 := upd (M 26) (l2 - (1 : Int32)).toNatClampNeg (0 : Int32); zr_X12_worth Q 16 [some (.ref 0), some (.int l1), some (.int l2), some (.int (l3 + (1 : Int32))), none] [] (ab_u M 26 z2) N)))) ∧ (¬ ((M 13 (((200 : Int32) * (M 0 24)) + l3).toNatClampNeg) = (13 : Int32)) → ((M 13 (((200 : Int32) * (M 0 24)) + l3).toNatClampNeg) = (19 : Int32) → vp_in (l2 - (1 : Int32)) 200 ∧ (vp_in (l2 - (1 : Int32)) 200 ∧ (let z3 : Nat → Int32 := upd (M 26) (l2 - (1 : Int32)).toNatClampNeg (-(M 26 (l2 - (1 : Int32)).toNatClampNeg)); zr_X12_worth Q 16 [some (.ref 0), some (.int l1), some (.int l2), some (.int (l3 + (1 : Int32))), none] [] (ab_u M 26 z3) N))) ∧ (¬ ((M 13 (((200 : Int32) * (M 0 24)) + l3).toNatClampNeg) = (19 : Int32)) → vp_in ((l2 + (-1 : Int32)) - (1 : Int32)) 200 ∧ (vp_in (l2 + (-1 : Int32)) 200 ∧ (vp_in ((l2 + (-1 : Int32)) - (1 : Int32)) 200 ∧ (let z4 : Nat → Int32 := upd (M 26) ((l2 + (-1 : Int32)) - (1 : Int32)).toNatClampNeg (zj2 (M 13 (((200 : Int32) * (M 0 24)) + l3).toNatClampNeg) (M 26 ((l2 + (-1 : Int32)) - (1 : Int32)).toNatClampNeg) (M 26 (l2 + (-1 : Int32)).toNatClampNeg)); zr_X12_worth Q 16 [some (.ref 0), some (.int l1), some (.int (l2 + (-1 : Int32))), some (.int (l3 + (1 : Int32))), none] [] (ab_u M 26 z4) N)))))) ∧ (¬ ((11 : Int32) ≤ (M 13 (((200 : Int32) * (M 0 24)) + l3).toNatClampNeg)) → zr_X12_worth Q 66 [some (.ref 0), some (.int l1), some (.int l2), some (.int l3), some (.int (M 13 (((200 : Int32) * (M 0 24)) + l3).toNatClampNeg))] [] M N)))))) : zr_X12_worth Q 16 [some (.ref 0), some (.int l1), some (.int l2), some (.int l3), none] [] M N := ab_Run_s zm_X12_worth (sp := [(16, [true, true, true, true, false]), (66, [true, true, true, true, true])]) 123 h
set_option maxRecDepth 20000 in
theorem zv_X12_worth_66 {Q : ab_R} {M : ab_M} {N : ab_N} (l1 : Int32) (l2 : Int32) (l3 : Int32) (l4 : Int32) (h : ((11 : Int32) ≤ l4 → vp_in l2 200 ∧ (let z1 : Nat → Int32 := upd (M 26) l2.toNatClampNeg (l4 - (100000 : Int32)); zr_X12_worth Q 16 [some (.ref 0), some (.int l1), some (.int (l2 + (1 : Int32))), some (.int (l3 + (1 : Int32))), none] [] (ab_u M 26 z1) N)) ∧ (¬ ((11 : Int32) ≤ l4) → vp_in l4 6 ∧ (vp_in l2 200 ∧ (let z2 : Nat → Int32 := upd (M 26) l2.toNatClampNeg (M 27 l4.toNatClampNeg); zr_X12_worth Q 16 [some (.ref 0), some (.int l1), some (.int (l2 + (1 : Int32))), some (.int (l3 + (1 : Int32))), none] [] (ab_u M 26 z2) N)))) : zr_X12_worth Q 66 [some (.ref 0), some (.int l1), some (.int l2), some (.int l3), some (.int l4)] [] M N := ab_Run_s zm_X12_worth (sp := [(16, [true, true, true, true, false]), (66, [true, true, true, true, true])]) 123 h
theorem zC_c {c : Int32} (h : zOkC c) : (0 ≤ c ∧ c ≤ 9999) ∨ (-7 < c ∧ c < 0) ∨ c = -7 ∨ c = -8 ∨ c = -9 ∨ c = -10 ∨ c = -11 ∨ c = -12 ∨ c = -13 ∨ c = -14 ∨ c = -15 := by
  obtain ⟨h1, h2⟩ := h
  have g1 := Int32.le_iff_toInt_le.mp h1
  have g2 := Int32.le_iff_toInt_le.mp h2
  rw [show (-15 : Int32).toInt = -15 by decide] at g1
  rw [show (9999 : Int32).toInt = 9999 by decide] at g2
  by_cases c0 : 0 ≤ c.toInt
  · exact Or.inl ⟨Int32.le_iff_toInt_le.mpr c0, h2⟩
  by_cases c1 : -7 < c.toInt
  · exact Or.inr (Or.inl ⟨Int32.lt_iff_toInt_lt.mpr c1, Int32.lt_iff_toInt_lt.mpr (by show c.toInt < 0; omega)⟩)
  have e : ∀ z : Int32, c.toInt = z.toInt → c = z := fun z q => Int32.toInt_inj.mp q
  have : c.toInt = -7 ∨ c.toInt = -8 ∨ c.toInt = -9 ∨ c.toInt = -10 ∨ c.toInt = -11 ∨ c.toInt = -12 ∨ c.toInt = -13 ∨ c.toInt = -14 ∨ c.toInt = -15 := by omega
  rcases this with q | q | q | q | q | q | q | q | q
  · exact Or.inr (Or.inr (Or.inl (e _ q)))
  · exact Or.inr (Or.inr (Or.inr (Or.inl (e _ q))))
  · exact Or.inr (Or.inr (Or.inr (Or.inr (Or.inl (e _ q)))))
  · exact Or.inr (Or.inr (Or.inr (Or.inr (Or.inr (Or.inl (e _ q))))))
  · exact Or.inr (Or.inr (Or.inr (Or.inr (Or.inr (Or.inr (Or.inl (e _ q)))))))
  · exact Or.inr (Or.inr (Or.inr (Or.inr (Or.inr (Or.inr (Or.inr (Or.inl (e _ q))))))))
  · exact Or.inr (Or.inr (Or.inr (Or.inr (Or.inr (Or.inr (Or.inr (Or.inr (Or.inl (e _ q)))))))))
  · exact Or.inr (Or.inr (Or.inr (Or.inr (Or.inr (Or.inr (Or.inr (Or.inr (Or.inr (Or.inl (e _ q))))))))))
  · exact Or.inr (Or.inr (Or.inr (Or.inr (Or.inr (Or.inr (Or.inr (Or.inr (Or.inr (Or.inr (e _ q))))))))))
theorem zL_X12_worth {Q : ab_R} {N : ab_N} (M0 : ab_M) (w th en : Nat) (res : Int32) (hw : w < 6) (hth : th < 3) (hen : en ≤ 160) (h24 : M0 0 24 = nI w) (h14 : M0 14 (4 * w + th + 1) = nI en) (hq : ∀ M2, zFr [26] M0 M2 → Q (some (.int res)) M2 N) : ∀ (C : List Int32) (q : Nat) (st : List Int32) (M : ab_M), q + C.length = en → st.length ≤ q → (∀ (j : Nat) (x : Int32), C[j]? = some x → M0 13 (200 * w + (q + j)) = zRc x) → zWfH st.length C → zFr [26] M0 M → zStk (M 26) st.length st → zTop (zEvL (M0 27) C st) = res → zr_X12_worth Q 16 [some (.ref 0), some (.int (nI th)), some (.int (nI st.length)), some (.int (nI q)), none] [] M N := by
  intro C
  induction C with
  | nil =>
    intro q st M hq1 hst hc hwf hF hS hE
    have e1 : 4 * nI w + nI th + 1 = nI (4 * w + th + 1) := by rw [show (4 : Int32) = nI 4 from rfl, pk_mul, nI_add, nI_1]
    refine zv_X12_worth_16 _ _ _ ?_
    rw [hF 0 (by decide), hF 14 (by decide), h24, e1, nI_clamp (by omega), h14]
    refine ⟨nI_in_ (by omega), fun _ => ⟨ab_vpk (by decide), ?_⟩, fun c => absurd (nI_le (by simp at hq1; omega) (by omega)) c⟩
    match st, hwf, hS, hE with
    | [x], _, hS, hE =>
      rw [show M 26 0 = x from hS.1, show x = res from hE]
      exact hq M hF
  | cons c r ih =>
    intro q st M hq1 hst hc hwf hF hS hE
    have hlen : q + r.length + 1 = en := by rw [← hq1, List.length_cons]; omega
    have e1 : 4 * nI w + nI th + 1 = nI (4 * w + th + 1) := by rw [show (4 : Int32) = nI 4 from rfl, pk_mul, nI_add, nI_1]
    have e2 : 200 * nI w + nI q = nI (200 * w + q) := by rw [show (200 : Int32) = nI 200 from rfl, pk_mul, nI_add]
    have ec : M0 13 (200 * w + q) = zRc c := hc 0 c rfl
    have hcn : ∀ (j : Nat) (x : Int32), r[j]? = some x → M0 13 (200 * w + (q + 1 + j)) = zRc x := fun j x hj => by
      rw [show q + 1 + j = q + (j + 1) by omega]
      exact hc (j + 1) x hj
    obtain ⟨hok, hwf⟩ := hwf
    have hE : zTop (zEvL (M0 27) r (zStep (M0 27) c st)) = res := hE
    refine zv_X12_worth_16 _ _ _ ?_
    rw [hF 0 (by decide), hF 14 (by decide), hF 13 (by decide), h24, e1, e2, nI_clamp (by omega), nI_clamp (by omega), h14, ec]
    refine ⟨nI_in_ (by omega), fun c0 => absurd c0 (nI_ge (by omega) (by omega)), fun _ => ⟨nI_in_ (by omega), ?_⟩⟩
    rw [nI_1]
    -- a push
    have push : ∀ v : Int32, -7 < c → zStep (M0 27) c st = v :: st → zr_X12_worth Q 16 [some (.ref 0), some (.int (nI th)), some (.int (nI (st.length + 1))), some (.int (nI q + 1)), none] [] (ab_u M 26 (upd (M 26) st.length v)) N := by
      intro v hc7 hv
      rw [if_pos hc7] at hwf
      rw [hv] at hE
      rw [nI_1]
      exact ih (q + 1) (v :: st) _ (by omega) (by rw [List.length_cons]; omega) hcn hwf (zFr_u hF (by decide) _) ⟨by rw [ab_u_eq, upd_eq], by rw [ab_u_eq]; exact zStk_upd _ hS (Nat.le_refl _)⟩ hE
    -- one on top
    have one : ∀ (x v : Int32) (s : List Int32), st = x :: s → ¬ -7 < c → -9 < c → zStep (M0 27) c (x :: s) = v :: s → zr_X12_worth Q 16 [some (.ref 0), some (.int (nI th)), some (.int (nI st.length)), some (.int (nI (q + 1))), none] [] (ab_u M 26 (upd (M 26) s.length v)) N := by
      intro x v s es hc7 hc9 hv
      rw [if_neg hc7, if_pos hc9] at hwf
      subst es
      rw [hv] at hE
      exact ih (q + 1) (v :: s) _ (by omega) (by simpa using Nat.le_succ_of_le hst) hcn hwf.2 (zFr_u hF (by decide) _) ⟨by rw [ab_u_eq, upd_eq], by rw [ab_u_eq]; exact zStk_upd _ hS.2 (Nat.le_refl _)⟩ hE
    have two : ∀ (x y v : Int32) (s : List Int32), st = y :: x :: s → ¬ -7 < c → ¬ -9 < c → zStep (M0 27) c (y :: x :: s) = v :: s → zr_X12_worth Q 16 [some (.ref 0), some (.int (nI th)), some (.int (nI (s.length + 1))), some (.int (nI (q + 1))), none] [] (ab_u M 26 (upd (M 26) s.length v)) N := by
      intro x y v s es hc7 hc9 hv
      rw [if_neg hc7, if_neg hc9] at hwf
      subst es
      rw [hv] at hE
      exact ih (q + 1) (v :: s) _ (by omega) (by simp only [List.length_cons] at hst ⊢; omega) hcn hwf.2 (zFr_u hF (by decide) _) ⟨by rw [ab_u_eq, upd_eq], by rw [ab_u_eq]; exact zStk_upd _ hS.2.2 (Nat.le_refl _)⟩ hE
    have sub1 : ∀ n : Nat, nI (n + 1) - 1 = nI n := nI_pred
    -- the signs between two
    have bin : c = -9 ∨ c = -10 ∨ c = -11 ∨ c = -12 ∨ c = -13 ∨ c = -14 ∨ c = -15 → ¬ (100000 : Int32) ≤ zRc c ∧ (11 : Int32) ≤ zRc c ∧ ¬ zRc c = 13 ∧ ¬ zRc c = 19 ∧ ¬ -7 < c ∧ ¬ -9 < c ∧ ∀ a b, zj2 (zRc c) a b = zj c a b := by
      rintro (rfl | rfl | rfl | rfl | rfl | rfl | rfl) <;> exact ⟨by decide, by decide, by decide, by decide, by decide, by decide, fun _ _ => rfl⟩
    have hst160 : st.length ≤ 160 := by omega
    rcases zC_c hok with h | h | h | h | h
    · have r1 : zRc c = 100000 + c := by unfold zRc; rw [if_pos h.1]
      have r2 : (100000 : Int32) ≤ 100000 + c := by grind
      have r3 : (11 : Int32) ≤ 100000 + c := by grind
      have r4 : (100000 : Int32) + c - 100000 = c := by grind
      have c7 : -7 < c := by grind
      rw [r1]
      refine ⟨fun _ => zv_X12_worth_66 _ _ _ _ ⟨fun _ => ⟨nI_in_ (by omega), ?_⟩, fun z => absurd r3 z⟩, fun z => absurd r2 z⟩
      rw [nI_clamp (by omega), r4, nI_1]
      exact push c c7 (by unfold zStep; rw [if_pos c7, if_neg (by grind)])
    · have r1 : zRc c = -1 - c := by unfold zRc; rw [if_neg (by grind), if_pos h.1]
      have r2 : ¬ (100000 : Int32) ≤ -1 - c := by grind
      have r3 : ¬ (11 : Int32) ≤ -1 - c := by grind
      have r5 : vp_in (-1 - c) 6 := ab_vp 6 rfl (by grind) (by grind)
      rw [r1]
      refine ⟨fun z => absurd z r2, fun _ => ⟨fun z => absurd z r3, fun _ => zv_X12_worth_66 _ _ _ _ ⟨fun z => absurd z r3, fun _ => ⟨r5, nI_in_ (by omega), ?_⟩⟩⟩⟩
      rw [nI_clamp (by omega), hF 27 (by decide), nI_1]
      exact push _ h.1 (by unfold zStep; rw [if_pos h.1, if_pos h.2])
    · subst h
      rw [if_neg (by decide), if_pos (by decide)] at hwf
      match st, hwf, hS, hst160 with
      | x :: s, hwf, hS, hst160 =>
        rw [List.length_cons] at hst160
        have hx : M 26 s.length = x := hS.1
        rw [List.length_cons, sub1, nI_clamp (show s.length < 2 ^ 31 by omega), hx]
        refine ⟨fun z => absurd z (by decide), fun _ => ⟨fun _ => ⟨fun _ => ⟨nI_in_ (by omega), fun z => ⟨nI_in_ (by omega), ?_⟩, fun z => ⟨nI_in_ (by omega), ?_⟩⟩, fun z => absurd (by decide) z⟩, fun z => absurd (by decide) z⟩⟩
        · exact one x 1 s rfl (by decide) (by decide) (by simp only [zStep, if_neg (show ¬ (-7 : Int32) < -7 by decide), if_pos (show (-9 : Int32) < -7 by decide), if_neg (show ¬ (-7 : Int32) = -8 by decide), if_pos z])
        · exact one x 0 s rfl (by decide) (by decide) (by simp only [zStep, if_neg (show ¬ (-7 : Int32) < -7 by decide), if_pos (show (-9 : Int32) < -7 by decide), if_neg (show ¬ (-7 : Int32) = -8 by decide), if_neg z])
      | [], hwf, _, _ => exact absurd hwf.1 (by decide)
    · subst h
      rw [if_neg (by decide), if_pos (by decide)] at hwf
      match st, hwf, hS, hst160 with
      | x :: s, hwf, hS, hst160 =>
        rw [List.length_cons] at hst160
        have hx : M 26 s.length = x := hS.1
        rw [List.length_cons, sub1, nI_clamp (show s.length < 2 ^ 31 by omega), hx]
        refine ⟨fun z => absurd z (by decide), fun _ => ⟨fun _ => ⟨fun z => absurd z (by decide), fun _ => ⟨fun _ => ⟨nI_in_ (by omega), nI_in_ (by omega), ?_⟩, fun z => absurd (by decide) z⟩⟩, fun z => absurd (by decide) z⟩⟩
        exact one x (-x) s rfl (by decide) (by decide) (by simp only [zStep, if_neg (show ¬ (-7 : Int32) < -8 by decide), if_pos (show (-9 : Int32) < -8 by decide), if_pos])
      | [], hwf, _, _ => exact absurd hwf.1 (by decide)
    · obtain ⟨b1, b2, b3, b4, b5, b6, b7⟩ := bin h
      rw [if_neg b5, if_neg b6] at hwf
      match st, hwf, hS, hst160 with
      | y :: x :: s, hwf, hS, hst160 =>
        simp only [List.length_cons] at hst160
        have hy : M 26 (s.length + 1) = y := hS.1
        have hx : M 26 s.length = x := hS.2.1
        simp only [List.length_cons, pk_m1, sub1]
        rw [nI_clamp (show s.length < 2 ^ 31 by omega), nI_clamp (show s.length + 1 < 2 ^ 31 by omega), hx, hy, b7]
        refine ⟨fun z => absurd z b1, fun _ => ⟨fun _ => ⟨fun z => absurd z b3, fun _ => ⟨fun z => absurd z b4, fun _ => ⟨nI_in_ (by omega), nI_in_ (by omega), nI_in_ (by omega), ?_⟩⟩⟩, fun z => absurd b2 z⟩⟩
        exact two x y (zj c x y) s rfl b5 b6 (by simp only [zStep, if_neg b5, if_neg b6])
      | [_], hwf, _, _ => exact absurd hwf.1 (show ¬ 2 ≤ 1 by decide)
      | [], hwf, _, _ => exact absurd hwf.1 (by decide)
theorem zE_X12_worth (as : List Value) (M : ab_M) (N : ab_N) (k : ab_R) (hT : zt_X12_worth as M N k) : ab_cs as ≤ 5 ∧ zr_X12_worth k 0 (ab_en as) [] M N := by
  obtain ⟨⟨d, th⟩, r, rfl, ⟨rfl, hth, w, hw, h3, h24, hx⟩, hk⟩ := hT
  obtain ⟨a, O, o1, o2, o3, o4, o5, o6⟩ := zTextEq_part hx h3 hw hth
  refine ⟨Nat.le_of_ble_eq_true rfl, zv_X12_worth_0 _ ?_⟩
  have e1 : 4 * nI w + nI th = nI (4 * w + th) := by rw [show (4 : Int32) = nI 4 from rfl, pk_mul, nI_add]
  dsimp only at hth ⊢
  rw [h24, e1, nI_clamp (by omega), o3]
  refine ⟨nI_in_ (by omega), ?_⟩
  refine zL_X12_worth M w th (a + O.length) (zVal d th (M 27)) hw hth o2 h24 o4 (fun M2 hF => hk _ _ _ ⟨rfl, hF, rfl⟩) O a [] M rfl (Nat.zero_le _) o5 o1 (zFr_rf _ _) trivial (o6 (M 27)).symm
abbrev zR_X12_worth : Room := { frames := 1, cells := 0, slots := 0, locals := 22 }
set_option maxRecDepth 20000 in
theorem zM_X12_worth (l : Launch) : ab_Met l zw_M vwCl zZ_M yX12_worth cX12_worth 5 (some .int) zR_X12_worth zt_X12_worth := ab_ofRun (G := zg_X12_worth) (P := zp_X12_worth) rfl zo_X12_worth (by decide +kernel) zl_cl zl_lamM zf_X12_ok ab_Tab_nil zc_X12_ok ab_Sta_nil (List.forall_mem_nil _) (List.forall_mem_cons.mpr ⟨ab_callS zZ_M_ok (zM_X12_two l) (ab_in 1289 (by decide +kernel) rfl) (ab_in 1287 (by decide +kernel) rfl) (ab_in 1288 (by decide +kernel) rfl) (ab_in 17 (by decide +kernel) rfl) (by unfold ab_yok; decide +kernel) ⟨rfl, rfl⟩ (by decide), List.forall_mem_nil _⟩) zE_X12_worth
end
section
/-! the reference: what the law says; how its cells tell a state d *)
-/
/-- what a night sees -/
def zRn (d M : ab_M) : Prop := (d 17 0 = M 0 0 ∧ d 17 1 = M 0 1 ∧ d 17 2 = M 0 2 ∧ d 17 3 = M 0 3 ∧ d 17 4 = M 0 4 ∧ d 1 7 = M 0 5 ∧ d 1 4 = M 0 7 ∧ d 2 6 = M 0 12) ∧ (d 18 = M 1 ∧ d 13 = M 2 ∧ d 14 = M 3 ∧ d 15 = M 4 ∧ d 16 = M 5 ∧ d 25 = M 6 ∧ d 26 = M 7 ∧ d 27 = M 8 ∧ d 28 = M 9 ∧ d 29 = M 10 ∧ d 30 = M 11) ∧ (d 6 7 = M 0 30 ∧ d 6 8 = M 0 27 ∧ (d 6 8 = -1 ∨ (d 6 9 = M 0 28 ∧ d 6 10 = M 0 29)) ∧ d 6 11 = M 0 25 ∧ (d 6 11 = -1 ∨ d 6 12 = M 0 26)) ∧ zLawR d M
/-- a state's numbers -/
def zNI (d : ab_M) : Prop := zI0 d ∧ zI1 d ∧ (∀ p, p < 8 → ∃ s : Nat, s ≤ 3 ∧ d 15 p = nI s) ∧ ∀ p, p < 8 → d 16 p = 0 ∨ d 16 p = 1
def zRN (d M : ab_M) : Prop := zRn d M ∧ zNI d
/-- cells of the reference that a night writes: counters apart -/
abbrev zSc8 : List Nat := [26, 27]
theorem zTextEq_fr {d M M2 : ab_M} {t : Nat} (h : zTextEq d M t) (h13 : M2 13 = M 13) (h14 : M2 14 = M 14) : zTextEq d M2 t := by
  unfold zTextEq at h ⊢
  rw [h13, h14]
  exact h
theorem zRN_fr {d M M2 : ab_M} (h : zRN d M) (h0 : ∀ j, j ≤ 31 → M2 0 j = M 0 j) (hc : ∀ c, 1 ≤ c → c ≤ 24 → M2 c = M c) : zRN d M2 := by
  obtain ⟨⟨⟨a1, a2, a3, a4, a5, a6, a7, a8⟩, ⟨b1, b2, b3, b4, b5, b6, b7, b8, b9, b10, b11⟩, ⟨c1, c2, c3, c4, c5⟩, w, hw, l1, l2, l3⟩, hn⟩ := h
  refine ⟨⟨?_, ?_, ?_, w, hw, l1, ?_, zTextEq_fr l3 (hc 13 (by decide) (by decide)) (hc 14 (by decide) (by decide))⟩, hn⟩
  · rw [h0 0 (by decide), h0 1 (by decide), h0 2 (by decide), h0 3 (by decide), h0 4 (by decide), h0 5 (by decide), h0 7 (by decide), h0 12 (by decide)]
    exact ⟨a1, a2, a3, a4, a5, a6, a7, a8⟩
  · rw [hc 1 (by decide) (by decide), hc 2 (by decide) (by decide), hc 3 (by decide) (by decide), hc 4 (by decide) (by decide), hc 5 (by decide) (by decide), hc 6 (by decide) (by decide), hc 7 (by decide) (by decide), hc 8 (by decide) (by decide), hc 9 (by decide) (by decide), hc 10 (by decide) (by decide), hc 11 (by decide) (by decide)]
    exact ⟨b1, b2, b3, b4, b5, b6, b7, b8, b9, b10, b11⟩
  · rw [h0 30 (by decide), h0 27 (by decide), h0 28 (by decide), h0 29 (by decide), h0 25 (by decide), h0 26 (by decide)]
    exact ⟨c1, c2, c3, c4, c5⟩
  · rw [h0 24 (by decide)]
    exact l2
theorem zRN_zfr {d M M2 : ab_M} {L : List Nat} (h : zRN d M) (hF : zFr L M M2) (hL : ∀ c ∈ L, 25 ≤ c) : zRN d M2 := zRN_fr h (fun j _ => by rw [hF 0 (fun z => by have := hL 0 z; omega)]) (fun c _ h2 => hF c (fun z => by have := hL c z; omega))
def zt_X12_says : ab_T := ab_lq (α := ab_M × Nat × Nat × Nat × Nat × Nat) (fun x r M _ => r = [.int (nI x.2.1), .int (nI x.2.2.1), .int (nI x.2.2.2.1), .int (nI x.2.2.2.2.1), .int (nI x.2.2.2.2.2)] ∧ zRN x.1 M ∧ x.2.1 < 3 ∧ x.2.2.1 < 8 ∧ x.2.2.2.1 < 12 ∧ x.2.2.2.2.1 < 1000)
  (fun x M N o M2 N2 => N2 = N ∧ zFr [26, 27] M M2 ∧ o = some (.int (nI (zAsk x.1 x.2.1 x.2.2.1 x.2.2.2.1 x.2.2.2.2.1 x.2.2.2.2.2))))
theorem zt_X12_says_mono : ab_mono zt_X12_says := ab_lq_mono _ _
theorem zV_X12_says : ab_recv zw_M vwCl RX12 zt_X12_says := ab_lq_v
def zp_X12_says : ab_P := [(0, .aload_n 0, 1, [0], []),
  (1, .getfield 141, 4, [], []),
  (4, .iconst 0, 5, [], [0]),
  (5, .aload_n 0, 6, [0], []),
  (6, .getfield 25, 9, [], []),
  (9, .iload_n 3, 10, [3], []),
  (10, .iaload, 11, [], []),
  (11, .iastore, 12, [], []),
  (12, .aload_n 0, 13, [0], []),
  (13, .getfield 141, 16, [], []),
  (16, .iconst 1, 17, [], [1]),
  (17, .aload_n 0, 18, [0], []),
  (18, .getfield 29, 21, [], []),
  (21, .iload_n 2, 22, [2], []),
  (22, .iaload, 23, [], []),
  (23, .iastore, 24, [], []),
  (24, .aload_n 0, 25, [0], []),
  (25, .getfield 141, 28, [], []),
  (28, .iconst 2, 29, [], [2]),
  (29, .aload_n 0, 30, [0], []),
  (30, .getfield 190, 33, [], []),
  (33, .iastore, 34, [], []),
  (34, .aload_n 0, 35, [0], []),
  (35, .getfield 141, 38, [], []),
  (38, .iconst 3, 39, [], [3]),
  (39, .iload_n 1, 40, [1], []),
  (40, .iconst 2, 41, [], [2]),
  (41, .if_icmp .eq 8, 44, [49], []),
  (44, .iload 4, 46, [], []),
  (46, .goto 27, 49, [73], []),
  (49, .iload 4, 51, [], []),
  (51, .aload_n 0, 52, [0], []),
  (52, .getfield 35, 55, [], []),
  (55, .iload_n 2, 56, [2], []),
  (56, .iaload, 57, [], []),
  (57, .if_icmp .le 15, 60, [72], []),
  (60, .iload 4, 62, [], []),
  (62, .aload_n 0, 63, [0], []),
  (63, .getfield 35, 66, [], []),
  (66, .iload_n 2, 67, [2], []),
  (67, .iaload, 68, [], []),
  (68, .isub, 69, [], []),
  (69, .goto 4, 72, [73], []),
  (72, .iconst 0, 73, [], [0]),
  (73, .iastore, 74, [], []),
  (74, .aload_n 0, 75, [0], []),
  (75, .getfield 141, 78, [], []),
  (78, .iconst 4, 79, [], [4]),
  (79, .aload_n 0, 80, [0], []),
  (80, .getfield 32, 83, [], []),
  (83, .iload_n 2, 84, [2], []),
  (84, .iaload, 85, [], []),
  (85, .iastore, 86, [], []),
  (86, .aload_n 0, 87, [0], []),
  (87, .getfield 141, 90, [], []),
  (90, .iconst 5, 91, [], [5]),
  (91, .iload_n 1, 92, [1], []),
  (92, .iconst 1, 93, [], [1]),
  (93, .if_icmp .ne 8, 96, [101], []),
  (96, .iload 5, 98, [], []),
  (98, .goto 4, 101, [102], []),
  (101, .iconst 0, 102, [], [0]),
  (102, .iastore, 103, [], []),
  (103, .aload_n 0, 104, [0], []),
  (104, .iload_n 1, 105, [1], []),
  (105, .invokevirtual 261, 108, [], []),
  (108, .istore 6, 110, [], []),
  (110, .iload_n 1, 111, [1], []),
  (111, .ifCond .ne 9, 114, [120], []),
  (114, .sipush 200, 117, [], [200]),
  (117, .goto 16, 120, [133], []),
  (120, .iload_n 1, 121, [1], []),
  (121, .iconst 1, 122, [], [1]),
  (122, .if_icmp .ne 8, 125, [130], []),
  (125, .bipush 100, 127, [], [100]),
  (127, .goto 6, 130, [133], []),
  (130, .sipush 999, 133, [], [999]),
  (133, .istore 7, 135, [], []),
  (135, .iload 6, 137, [], []),
  (137, .ifCond .ge 7, 140, [144], []),
  (140, .iconst 0, 141, [], [0]),
  (141, .goto 17, 144, [158], []),
  (144, .iload 6, 146, [], []),
  (146, .iload 7, 148, [], []),
  (148, .if_icmp .le 8, 151, [156], []),
  (151, .iload 7, 153, [], []),
  (153, .goto 5, 156, [158], []),
  (156, .iload 6, 158, [], []),
  (158, .ireturn, 159, [], [])]
theorem zo_X12_says : ab_ok cX12_says zp_X12_says = true := by decide +kernel
def zg_X12_says : ab_G := (zw_M, [], zf_X12, zc_X12, [], [(261, 2, zt_X12_worth)], [])
theorem zm_X12_says : ab_MG zg_X12_says := ab_MGof (List.forall_mem_cons.mpr ⟨zt_X12_worth_mono, List.forall_mem_nil _⟩) (List.forall_mem_nil _)
abbrev zr_X12_says (Q : ab_R) : ab_K := ab_Run zg_X12_says zp_X12_says (some .int) 8 Q
set_option maxRecDepth 20000 in
theorem zv_X12_says_0 {Q : ab_R} {M : ab_M} {N : ab_N} (l1 : Int32) (l2 : Int32) (l3 : Int32) (l4 : Int32) (l5 : Int32) (h : vp_in l3 12 ∧ (vp_in (0 : Int32) 6 ∧ (let z1 : Nat → Int32 := upd (M 27) 0 (M 1 l3.toNatClampNeg); vp_in l2 8 ∧ (vp_in (1 : Int32) 6 ∧ (let z2 : Nat → Int32 := upd (z1) 1 (M 2 l2.toNatClampNeg); vp_in (2 : Int32) 6 ∧ (let z3 : Nat → Int32 := upd (z2) 2 (M 0 2); (l1 = (2 : Int32) → vp_in l2 8 ∧ ((l4 ≤ (M 4 l2.toNatClampNeg) → zr_X12_says Q 73 [some (.ref 0), some (.int l1), some (.int l2), none, none, some (.int l5), none, none] [.int (0 : Int32), .int (3 : Int32), .ref 27] (ab_u (ab_u (ab_u M 27 z1) 27 z2) 27 z3) N) ∧ (¬ (l4 ≤ (M 4 l2.toNatClampNeg)) → vp_in l2 8 ∧ (zr_X12_says Q 73 [some (.ref 0), some (.int l1), some (.int l2), none, none, some (.int l5), none, none] [.int (l4 - (M 4 l2.toNatClampNeg)), .int (3 : Int32), .ref 27] (ab_u (ab_u (ab_u M 27 z1) 27 z2) 27 z3) N)))) ∧ (¬ (l1 = (2 : Int32)) → zr_X12_says Q 73 [some (.ref 0), some (.int l1), some (.int l2), none, none, some (.int l5), none, none] [.int l4, .int (3 : Int32), .ref 27] (ab_u (ab_u (ab_u M 27 z1) 27 z2) 27 z3) N))))))) : zr_X12_says Q 0 [some (.ref 0), some (.int l1), some (.int l2), some (.int l3), some (.int l4), some (.int l5)] [] M N := ab_Run_s zm_X12_says (sp := [(73, [true, true, true, false, false, true, false, false]), (108, [false, true, false, false, false, false, false, false]), (133, [false, false, false, false, false, false, true, false])]) 91 h
set_option maxRecDepth 20000 in
theorem zv_X12_says_73 {Q : ab_R} {M : ab_M} {N : ab_N} (l1 : Int32) (l2 : Int32) (l5 : Int32) (s1 : Int32) (s2 : Int32) (h : vp_in s1 6 ∧ (let z1 : Nat → Int32 := upd (M 27) s1.toNatClampNeg s2; vp_in l2 8 ∧ (vp_in (4 : Int32) 6 ∧ (let z2 : Nat → Int32 := upd (z1) 4 (M 3 l2.toNatClampNeg); (l1 = (1 : Int32) → vp_in (5 : Int32) 6 ∧ (let z3 : Nat → Int32 := upd (z2) 5 l5; zt_X12_worth [.ref 0, .int l1] (ab_u (ab_u (ab_u M 27 z1) 27 z2) 27 z3) N (fun r M2 N2 => zr_X12_says Q 108 [none, some (.int l1), none, none, none, none, none, none] (ab_ol r []) M2 N2))) ∧ (¬ (l1 = (1 : Int32)) → vp_in (5 : Int32) 6 ∧ (let z4 : Nat → Int32 := upd (z2) 5 (0 : Int32); zt_X12_worth [.ref 0, .int l1] (ab_u (ab_u (ab_u M 27 z1) 27 z2) 27 z4) N (fun r M2 N2 => zr_X12_says Q 108 [none, some (.int l1), none, none, none, none, none, none] (ab_ol r []) M2 N2))))))) : zr_X12_says Q 73 [some (.ref 0), some (.int l1), some (.int l2), none, none, some (.int l5), none, none] [.int s2, .int s1, .ref 27] M N := ab_Run_s zm_X12_says (sp := [(73, [true, true, true, false, false, true, false, false]), (108, [false, true, false, false, false, false, false, false]), (133, [false, false, false, false, false, false, true, false])]) 91 h
set_option maxRecDepth 20000 in
theorem zv_X12_says_108 {Q : ab_R} {M : ab_M} {N : ab_N} (l1 : Int32) (s0 : Int32) (h : (l1 = 0 → zr_X12_says Q 133 [none, none, none, none, none, none, some (.int s0), none] [.int (200 : Int32)] M N) ∧ (¬ (l1 = 0) → (l1 = (1 : Int32) → zr_X12_says Q 133 [none, none, none, none, none, none, some (.int s0), none] [.int (100 : Int32)] M N) ∧ (¬ (l1 = (1 : Int32)) → zr_X12_says Q 133 [none, none, none, none, none, none, some (.int s0), none] [.int (999 : Int32)] M N))) : zr_X12_says Q 108 [none, some (.int l1), none, none, none, none, none, none] [.int s0] M N := ab_Run_s zm_X12_says (sp := [(73, [true, true, true, false, false, true, false, false]), (108, [false, true, false, false, false, false, false, false]), (133, [false, false, false, false, false, false, true, false])]) 91 h
set_option maxRecDepth 20000 in
theorem zv_X12_says_133 {Q : ab_R} {M : ab_M} {N : ab_N} (l6 : Int32) (s0 : Int32) (h : (0 ≤ l6 → (l6 ≤ s0 → Q (some (.int l6)) M N) ∧ (¬ (l6 ≤ s0) → Q (some (.int s0)) M N)) ∧ (¬ (0 ≤ l6) → Q (some (.int (0 : Int32))) M N)) : zr_X12_says Q 133 [none, none, none, none, none, none, some (.int l6), none] [.int s0] M N := ab_Run_s zm_X12_says (sp := [(73, [true, true, true, false, false, true, false, false]), (108, [false, true, false, false, false, false, false, false]), (133, [false, false, false, false, false, false, true, false])]) 91 h
theorem zClampR {Q : ab_R} {M : ab_M} {N : ab_N} (m v : Int32) (hm : 0 < m) (h : Q (some (.int (zClamp m v))) M N) : (0 ≤ v → (v ≤ m → Q (some (.int v)) M N) ∧ (¬ (v ≤ m) → Q (some (.int m)) M N)) ∧ (¬ (0 ≤ v) → Q (some (.int (0 : Int32))) M N) := by
  unfold zClamp at h
  refine ⟨fun c => ⟨fun c2 => ?_, fun c2 => ?_⟩, fun c => ?_⟩
  · rw [if_neg (Int32.not_lt.mpr c2)] at h
    by_cases c3 : 0 < v
    · rw [if_pos c3] at h; exact h
    · rw [if_neg c3] at h
      have : v = 0 := by grind
      rw [this]; exact h
  · rw [if_pos (Int32.not_le.mp c2), if_pos hm] at h; exact h
  · rw [if_neg (show ¬ 0 < (if m < v then m else v) by grind)] at h; exact h
theorem zL_X12_says2 {Q : ab_R} {M : ab_M} {N : ab_N} {th : Nat} {v : Int32} (hth : th < 3) (h : Q (some (.int (zClamp (zs_MOST_OF_THING th) v))) M N) : zr_X12_says Q 108 [none, some (.int (nI th)), none, none, none, none, none, none] [.int v] M N := by
  refine zv_X12_says_108 _ _ ?_
  rcases (show th = 0 ∨ th = 1 ∨ th = 2 by omega) with rfl | rfl | rfl
  · rw [show zs_MOST_OF_THING 0 = 200 from rfl] at h
    exact ⟨fun _ => zv_X12_says_133 _ _ (zClampR 200 _ (by decide) h), fun z => absurd nI_0 z⟩
  · rw [show zs_MOST_OF_THING 1 = 100 from rfl] at h
    exact ⟨fun z => absurd z (by decide), fun _ => ⟨fun _ => zv_X12_says_133 _ _ (zClampR 100 _ (by decide) h), fun z => absurd (show nI 1 = 1 by decide) z⟩⟩
  · rw [show zs_MOST_OF_THING 2 = 999 from rfl] at h
    exact ⟨fun z => absurd z (by decide), fun _ => ⟨fun z => absurd z (by decide), fun _ => zv_X12_says_133 _ _ (zClampR 999 _ (by decide) h)⟩⟩
theorem zL_X12_says {Q : ab_R} {M : ab_M} {N : ab_N} {d : ab_M} {th p h is by_ : Nat} (hR : zRN d M) (hth : th < 3) (hp : p < 8) (pc : Int32) (hby : (if th = 1 then pc else 0) = nI by_) (F : Nat → Int32) (e0 : F 0 = d 18 h) (e1 : F 1 = d 13 p) (e2 : F 2 = d 17 2) (hk : ∀ M2, zFr [26, 27] M M2 → Q (some (.int (nI (zAskN d th p h is by_)))) M2 N) : zr_X12_says Q 73 [some (.ref 0), some (.int (nI th)), some (.int (nI p)), none, none, some (.int pc), none, none] [.int (nI is), .int (3 : Int32), .ref 27] (ab_u M 27 F) N := by
  obtain ⟨⟨ha, hb, hc, hl⟩, hn⟩ := id hR
  refine zv_X12_says_73 _ _ _ _ _ ?_
  refine ⟨ab_vpk (by decide), ?_⟩
  intro z1
  refine ⟨nI_in_ hp, ab_vpk (by decide), ?_⟩
  intro z2
  have zz : ∀ F5 : Nat → Int32, F5 = upd z2 5 (nI by_) → zt_X12_worth [.ref 0, .int (nI th)] (ab_u (ab_u (ab_u (ab_u M 27 F) 27 z1) 27 z2) 27 F5) N (fun r M2 N2 => zr_X12_says Q 108 [none, some (.int (nI th)), none, none, none, none, none, none] (ab_ol r []) M2 N2) := by
    intro F5 eF
    rw [ab_u_u, ab_u_u, ab_u_u]
    have hl2 : zLawR d (ab_u M 27 F5) := by
      obtain ⟨w, hw, l1, l2, l3⟩ := hl
      exact ⟨w, hw, l1, l2, zTextEq_fr l3 rfl rfl⟩
    refine ⟨(d, th), _, rfl, ⟨rfl, hth, hl2⟩, ?_⟩
    rintro o M2 N2 ⟨rfl, hF, rfl⟩
    have hF2 : zFr [26, 27] M M2 := fun c hcc => by
      rw [hF c (fun z => hcc (by simp at z; simp [z])), ab_u_ne _ _ (fun z => hcc (by simp [z]))]
    have hnm : zVal d th (ab_u M 27 F5 27) = zVal d th (zNm d p h is by_) := by
      unfold zVal
      rw [zEval_nm]
      intro j hj
      have n27 : ab_u M 27 F5 27 = F5 := ab_u_eq _ _ _
      have m3 : ab_u M 27 F 3 = M 3 := ab_u_ne _ _ (by decide)
      rw [n27, eF]
      match j, hj with
      | 0, _ => simp [z2, z1, upd, ab_u_eq, e0, zNm]
      | 1, _ => simp [z2, z1, upd, ab_u_eq, e1, zNm]
      | 2, _ => simp [z2, z1, upd, ab_u_eq, e2, zNm]
      | 3, _ => simp [z2, z1, upd, zNm]
      | 4, _ => simp [z2, z1, upd, zNm, hb.2.2.1, m3, nI_clamp (show p < 2 ^ 31 by omega)]
      | 5, _ => simp [upd, zNm]
    obtain ⟨k1, -⟩ := zClamp_n th hth (zVal d th (zNm d p h is by_))
    have hk2 := hk M2 hF2
    rw [show nI (zAskN d th p h is by_) = zClamp (zs_MOST_OF_THING th) (zVal d th (zNm d p h is by_)) from k1.symm] at hk2
    rw [hnm]
    exact zL_X12_says2 hth hk2
  refine ⟨fun c => ⟨ab_vpk (by decide), ?_⟩, fun c => ⟨ab_vpk (by decide), ?_⟩⟩
  · intro z3
    have et : th = 1 := (nI_eq (by omega) (by decide)).mp (show nI th = nI 1 from c)
    rw [if_pos et] at hby
    exact zz z3 (by rw [← hby])
  · intro z3
    have et : ¬ th = 1 := fun z => c (by rw [z]; rfl)
    rw [if_neg et] at hby
    exact zz z3 (by rw [← hby])
theorem zE_X12_says (as : List Value) (M : ab_M) (N : ab_N) (k : ab_R) (hT : zt_X12_says as M N k) : ab_cs as ≤ 8 ∧ zr_X12_says k 0 (ab_en as) [] M N := by
  obtain ⟨⟨d, th, p, h, st, pc⟩, r, rfl, ⟨rfl, hR, hth, hp, hh, hst⟩, hk⟩ := hT
  dsimp only at hR hth hp hh hst hk ⊢
  refine ⟨Nat.le_of_ble_eq_true rfl, zv_X12_says_0 _ _ _ _ _ ?_⟩
  obtain ⟨⟨ha, hb, hc, hl⟩, hn⟩ := id hR
  obtain ⟨sk, hs1, hs2⟩ := hn.2.2.1 p hp
  have h4 : M 4 (nI p).toNatClampNeg = nI sk := by rw [nI_clamp (by omega), ← hb.2.2.2.1, hs2]
  refine ⟨nI_in_ hh, ab_vpk (by decide), ?_⟩
  intro z1
  refine ⟨nI_in_ hp, ab_vpk (by decide), ?_⟩
  intro z2
  refine ⟨ab_vpk (by decide), ?_⟩
  intro z3
  have hby : (if th = 1 then nI pc else 0) = nI (if th = 1 then pc else 0) := by
    by_cases c : th = 1
    · rw [if_pos c, if_pos c]
    · rw [if_neg c, if_neg c]; rfl
  have go : ∀ is, is = zIs d th p st → zr_X12_says k 73 [some (.ref 0), some (.int (nI th)), some (.int (nI p)), none, none, some (.int (nI pc)), none, none] [.int (nI is), .int (3 : Int32), .ref 27] (ab_u (ab_u (ab_u M 27 z1) 27 z2) 27 z3) N := by
    intro is eis
    subst eis
    rw [ab_u_u, ab_u_u]
    refine zL_X12_says hR hth hp (nI pc) hby z3 ?_ ?_ ?_ (fun M2 hF => hk _ _ _ ⟨rfl, hF, rfl⟩)
    · simp [z3, z2, z1, upd, hb.1, nI_clamp (show h < 2 ^ 31 by omega)]
    · simp [z3, z2, z1, upd, hb.2.1, nI_clamp (show p < 2 ^ 31 by omega)]
    · simp [z3, upd, ha.2.2.1]
  refine ⟨fun c => ⟨nI_in_ hp, ?_⟩, fun c => ?_⟩
  · have et : th = 2 := (nI_eq (by omega) (by decide)).mp (show nI th = nI 2 from c)
    rw [h4]
    refine ⟨fun c2 => ?_, fun c2 => ⟨nI_in_ hp, ?_⟩⟩
    · have : st ≤ sk := (nI_leI (by omega) (by omega)).mp c2
      refine go 0 ?_
      unfold zIs
      rw [if_pos et, hs2, nI_clamp (by omega)]
      omega
    · have : ¬ st ≤ sk := fun z => c2 (nI_le z (by omega))
      rw [pk_sub (by omega)]
      refine go (st - sk) ?_
      unfold zIs
      rw [if_pos et, hs2, nI_clamp (by omega)]
  · have et : ¬ th = 2 := fun z => c (by rw [z]; rfl)
    refine go st ?_
    unfold zIs
    rw [if_neg et]
abbrev zR_X12_says : Room := { frames := 2, cells := 0, slots := 0, locals := 46 }
set_option maxRecDepth 20000 in
theorem zM_X12_says (l : Launch) : ab_Met l zw_M vwCl zZ_M yX12_says cX12_says 8 (some .int) zR_X12_says zt_X12_says := ab_ofRun (G := zg_X12_says) (P := zp_X12_says) rfl zo_X12_says (by decide +kernel) zl_cl zl_lamM zf_X12_ok ab_Tab_nil zc_X12_ok ab_Sta_nil (List.forall_mem_cons.mpr ⟨ab_callV zZ_M_ok (zM_X12_worth l) (ab_in 1286 (by decide +kernel) rfl) (ab_in 1283 (by decide +kernel) rfl) (ab_in 1285 (by decide +kernel) rfl) (ab_inS (List.mem_of_getElem? (i := 38) (by decide +kernel)) rfl) (ab_in 17 (by decide +kernel) rfl) (by unfold ab_yok; decide +kernel) ⟨rfl, rfl⟩ (by decide) zV_X12_worth, List.forall_mem_nil _⟩) (List.forall_mem_nil _) zE_X12_says
end
section
/-! who looks, as bits; where it is most risky, told another way *)
-/
theorem zB_or : ∀ b, b < 256 → ∀ q, q < 8 → nI b ||| ((1 : Int32) <<< (nI q &&& 31)) = nI (b ||| 2 ^ q) := by decide +kernel
theorem zB_bit : ∀ b, b < 256 → ∀ w, w < 8 → decide (((nI b) >>> (nI w &&& 31)) &&& 1 = 0) = !b.testBit w := by decide +kernel
theorem zB_lt : ∀ b, b < 256 → ∀ q, q < 8 → b ||| 2 ^ q < 256 := by decide +kernel
theorem zTow_eq : ∀ a, a < 8 → ∀ b, b < 8 → ∀ c, c < 4 → zTow (nI c) (nI a) (nI b) = zTow2 (nI a) (nI b) (nI c) := by decide +kernel
abbrev zVil (d : ab_M) (p h : Nat) : Prop := 0 ≤ d 1 7 ∧ nI p < d 17 3 ∧ d 1 7 + d 17 4 ≤ nI h
abbrev zMor (d : ab_M) (p h : Nat) : Prop := nI p = d 6 11 ∧ nI h = d 6 12
abbrev zDoes (d : ab_M) (m h : Nat) : Prop := ¬ nI m = d 6 7 ∧ zAwk (d 25 m) (d 29 m) (nI h)
def zOthN (d : ab_M) (h p : Nat) : Nat := ((if zVil d p h then 32 else 0) ||| (if d 16 p = 0 then 0 else 64)) ||| (if zMor d p h then 128 else 0)
def zLkN (d : ab_M) (h : Nat) (pl : Nat → Int32) : Nat → Nat → Nat
  | 0, p => zOthN d h p
  | m + 1, p => if zDoes d m h ∧ pl m = nI p then zLkN d h pl m p ||| 2 ^ m else zLkN d h pl m p
theorem zLk_N {d : ab_M} {h p : Nat} {pl : Nat → Int32} : ∀ n, n ≤ 5 → zLk d h pl n p = nI (zLkN d h pl n p) ∧ zLkN d h pl n p < 256
  | 0, _ => by
    unfold zLk zLkN zOth zOthN
    by_cases c1 : zVil d p h
    · by_cases c2 : d 16 p = 0
      · by_cases c3 : zMor d p h
        · rw [if_pos c3, if_pos c1, if_pos c1, if_pos c2, if_pos c2, if_pos c3]; decide
        · rw [if_neg c3, if_pos c1, if_pos c1, if_pos c2, if_pos c2, if_neg c3]; decide
      · by_cases c3 : zMor d p h
        · rw [if_pos c3, if_pos c1, if_pos c1, if_neg c2, if_neg c2, if_pos c3]; decide
        · rw [if_neg c3, if_pos c1, if_pos c1, if_neg c2, if_neg c2, if_neg c3]; decide
    · by_cases c2 : d 16 p = 0
      · by_cases c3 : zMor d p h
        · rw [if_pos c3, if_neg c1, if_neg c1, if_pos c2, if_pos c2, if_pos c3]; decide
        · rw [if_neg c3, if_neg c1, if_neg c1, if_pos c2, if_pos c2, if_neg c3]; decide
      · by_cases c3 : zMor d p h
        · rw [if_pos c3, if_neg c1, if_neg c1, if_neg c2, if_neg c2, if_pos c3]; decide
        · rw [if_neg c3, if_neg c1, if_neg c1, if_neg c2, if_neg c2, if_neg c3]; decide
  | m + 1, hm => by
    obtain ⟨i1, i2⟩ := zLk_N (d := d) (h := h) (p := p) (pl := pl) m (by omega)
    unfold zLk zLkN
    by_cases c : zDoes d m h ∧ pl m = nI p
    · rw [if_pos c, if_pos c, i1]
      exact ⟨zB_or _ i2 m (by omega), zB_lt _ i2 m (by omega)⟩
    · rw [if_neg c, if_neg c]
      exact ⟨i1, i2⟩
theorem zOthB {A B C : Prop} [Decidable A] [Decidable B] [Decidable C] {w : Nat} (hw : w < 8) : (((if A then 32 else 0) ||| (if B then 0 else 64)) ||| (if C then 128 else 0) : Nat).testBit w = true ↔ (w = 5 ∧ A) ∨ (w = 6 ∧ ¬ B) ∨ (w = 7 ∧ C) := by
  by_cases c1 : A <;> by_cases c2 : B <;> by_cases c3 : C <;> simp only [c1, c2, c3, if_true, if_false, and_true, and_false, or_false, false_or, not_true_eq_false, not_false_eq_true] <;> (revert w; decide)
theorem zOthZ {A B C : Prop} [Decidable A] [Decidable B] [Decidable C] : ¬ (((if A then 32 else 0) ||| (if B then 0 else 64)) ||| (if C then 128 else 0) : Nat) = 0 ↔ A ∨ ¬ B ∨ C := by
  by_cases c1 : A <;> by_cases c2 : B <;> by_cases c3 : C <;> simp [c1, c2, c3]
theorem zOthN_bit {d : ab_M} {h p w : Nat} (hw : w < 8) : (zOthN d h p).testBit w = true ↔ (w = 5 ∧ zVil d p h) ∨ (w = 6 ∧ ¬ d 16 p = 0) ∨ (w = 7 ∧ zMor d p h) := by
  unfold zOthN
  exact zOthB hw
theorem zLkN_bit {d : ab_M} {h p : Nat} {pl : Nat → Int32} {w : Nat} (hw : w < 8) : ∀ n, n ≤ 5 → ((zLkN d h pl n p).testBit w = true ↔ (w < n ∧ zDoes d w h ∧ pl w = nI p) ∨ (w = 5 ∧ zVil d p h) ∨ (w = 6 ∧ ¬ d 16 p = 0) ∨ (w = 7 ∧ zMor d p h))
  | 0, _ => by
    show (zOthN d h p).testBit w = true ↔ _
    rw [zOthN_bit hw]
    constructor
    · exact Or.inr
    · rintro (z | z)
      · exact absurd z.1 (Nat.not_lt_zero _)
      · exact z
  | m + 1, hm => by
    have ih := zLkN_bit (d := d) (h := h) (p := p) (pl := pl) hw m (by omega)
    show (if zDoes d m h ∧ pl m = nI p then zLkN d h pl m p ||| 2 ^ m else zLkN d h pl m p).testBit w = true ↔ _
    by_cases c : zDoes d m h ∧ pl m = nI p
    · rw [if_pos c, Nat.testBit_or, Bool.or_eq_true, ih, Nat.testBit_two_pow]
      simp only [decide_eq_true_eq]
      constructor
      · rintro (z | z)
        · rcases z with z | z
          · exact Or.inl ⟨by omega, z.2⟩
          · exact Or.inr z
        · subst z; exact Or.inl ⟨by omega, c⟩
      · rintro (z | z)
        · by_cases e : w = m
          · exact Or.inr e.symm
          · exact Or.inl (Or.inl ⟨by omega, z.2⟩)
        · exact Or.inl (Or.inr z)
    · rw [if_neg c, ih]
      constructor
      · rintro (z | z)
        · exact Or.inl ⟨by omega, z.2⟩
        · exact Or.inr z
      · rintro (z | z)
        · by_cases e : w = m
          · subst e; exact absurd z.2 c
          · exact Or.inl ⟨by omega, z.2⟩
        · exact Or.inr z
theorem zLkN_0 {d : ab_M} {h p : Nat} {pl : Nat → Int32} : ∀ n, (¬ zLkN d h pl n p = 0 ↔ (zVil d p h ∨ ¬ d 16 p = 0 ∨ zMor d p h) ∨ ∃ m, m < n ∧ zDoes d m h ∧ pl m = nI p)
  | 0 => by
    have h1 : ¬ zOthN d h p = 0 ↔ _ := zOthZ
    refine h1.trans ⟨Or.inl, fun z => z.elim id (fun ⟨m, q, _⟩ => absurd q (Nat.not_lt_zero m))⟩
  | m + 1 => by
    have ih := zLkN_0 (d := d) (h := h) (p := p) (pl := pl) m
    show ¬ (if zDoes d m h ∧ pl m = nI p then zLkN d h pl m p ||| 2 ^ m else zLkN d h pl m p) = 0 ↔ _
    by_cases c : zDoes d m h ∧ pl m = nI p
    · rw [if_pos c]
      constructor
      · exact fun _ => Or.inr ⟨m, Nat.lt_succ_self m, c⟩
      · intro _ z
        have := (Nat.or_eq_zero_iff.mp z).2
        exact absurd this (Nat.pos_iff_ne_zero.mp (Nat.two_pow_pos m))
    · rw [if_neg c, ih]
      constructor
      · rintro (z | ⟨q, h1, h2⟩)
        · exact Or.inl z
        · exact Or.inr ⟨q, by omega, h2⟩
      · rintro (z | ⟨q, h1, h2⟩)
        · exact Or.inl z
        · by_cases e : q = m
          · subst e; exact absurd h2 c
          · exact Or.inr ⟨q, by omega, h2⟩
/-- pieces as bits -/
def zBits (f : Nat → Int32) : Nat → Nat
  | 0 => 0
  | p + 1 => if f p = 0 then zBits f p else zBits f p ||| 2 ^ p
theorem zBits_bit {f : Nat → Int32} {w : Nat} : ∀ n, (zBits f n).testBit w = true ↔ w < n ∧ ¬ f w = 0
  | 0 => by
    show (0 : Nat).testBit w = true ↔ _
    rw [Nat.zero_testBit]
    constructor
    · exact fun z => by cases z
    · exact fun z => absurd z.1 (Nat.not_lt_zero _)
  | p + 1 => by
    have ih := zBits_bit (f := f) (w := w) p
    show (if f p = 0 then zBits f p else zBits f p ||| 2 ^ p).testBit w = true ↔ _
    by_cases c : f p = 0
    · rw [if_pos c, ih]
      constructor
      · exact fun z => ⟨by omega, z.2⟩
      · intro z
        refine ⟨?_, z.2⟩
        rcases Nat.lt_or_ge w p with q | q
        · exact q
        · have : w = p := by omega
          subst this; exact absurd c z.2
    · rw [if_neg c, Nat.testBit_or, Bool.or_eq_true, ih, Nat.testBit_two_pow]
      simp only [decide_eq_true_eq]
      constructor
      · rintro (z | z)
        · exact ⟨by omega, z.2⟩
        · subst z; exact ⟨by omega, c⟩
      · intro z
        by_cases e : w = p
        · exact Or.inr e.symm
        · exact Or.inl ⟨by omega, z.2⟩
theorem zBits_lt {f : Nat → Int32} : ∀ n, n ≤ 8 → zBits f n < 256
  | 0, _ => by show (0 : Nat) < 256; decide
  | p + 1, hp => by
    have ih := zBits_lt (f := f) p (by omega)
    show (if f p = 0 then zBits f p else zBits f p ||| 2 ^ p) < 256
    split
    · exact ih
    · exact zB_lt _ ih p (by omega)
/-- a set of bits that tells the same -/
theorem zBits_eq {f : Nat → Int32} {n B : Nat} (h : ∀ w, B.testBit w = true ↔ w < n ∧ ¬ f w = 0) : B = zBits f n := Nat.eq_of_testBit_eq fun w => by
  have h1 := h w
  have h2 := zBits_bit (f := f) (w := w) n
  cases e : B.testBit w <;> cases e2 : (zBits f n).testBit w <;> simp_all
/-- where it is most risky: the reference's way -/
def zRiskR (D : Nat → Nat) (v f : Int32) (f0 : Nat) : Nat → Nat
  | 0 => f0
  | p + 1 => if zAbs (nI p - f) ≤ v ∧ D (zRiskR D v f f0 p) < D p then p else zRiskR D v f f0 p
theorem zRisk_eq {d : ab_M} {h : Nat} {sc : Nat → Nat} {v : Int32} {f0 : Nat} {D : Nat → Nat} (hD : ∀ p, p < 8 → D p = sc p * zAsk d 0 p h (sc p) 0 ∧ D p < 2 ^ 31) (hv : 0 ≤ v) (hf8 : f0 < 8) : ∀ n, n ≤ 8 →
    (∃ b mx : Nat, b < 8 ∧ zRiskR D v (nI f0) f0 n < 8 ∧ (zRiskF d h sc v (nI f0) n = (nI b, nI mx) ∨ (zRiskF d h sc v (nI f0) n = (nI b, -1) ∧ mx = 0 ∧ b = f0)) ∧ (mx ≤ D f0 → zRiskR D v (nI f0) f0 n = f0) ∧ (D f0 < mx → zRiskR D v (nI f0) f0 n = b ∧ D b = mx) ∧ (zRiskF d h sc v (nI f0) n = (nI b, nI mx) → mx < 2 ^ 31) ∧ (f0 < n → zRiskF d h sc v (nI f0) n = (nI b, nI mx) ∧ D f0 ≤ mx ∧ (mx = D f0 → b = f0)))
  | 0, _ => ⟨f0, 0, hf8, hf8, Or.inr ⟨rfl, rfl, rfl⟩, fun _ => rfl, fun z => absurd z (Nat.not_lt_zero _), fun _ => by decide, fun z => absurd z (Nat.not_lt_zero _)⟩
  | n + 1, hn => by
    obtain ⟨b, mx, hb, hr8, hF, h1, h2, h3, h4⟩ := zRisk_eq hD hv hf8 n (by omega)
    obtain ⟨d1, d2⟩ := hD n (by omega)
    have dr : D (zRiskR D v (nI f0) f0 n) = if mx ≤ D f0 then D f0 else mx := by
      by_cases c : mx ≤ D f0
      · rw [if_pos c, h1 c]
      · rw [if_neg c]
        obtain ⟨e1, e2⟩ := h2 (by omega)
        rw [e1, e2]
    show ∃ b mx : Nat, b < 8 ∧ (if zAbs (nI n - nI f0) ≤ v ∧ D (zRiskR D v (nI f0) f0 n) < D n then n else zRiskR D v (nI f0) f0 n) < 8 ∧ _
    by_cases c : zAbs (nI n - nI f0) ≤ v
    · have eF : zRiskF d h sc v (nI f0) (n + 1) = if ((zRiskF d h sc v (nI f0) n).2 < nI (D n) ∨ (nI (D n) = (zRiskF d h sc v (nI f0) n).2 ∧ nI n = nI f0)) then (nI n, nI (D n)) else zRiskF d h sc v (nI f0) n := by
        rw [zRiskF, if_pos c, d1]
      have eR : zRiskR D v (nI f0) f0 (n + 1) = if D (zRiskR D v (nI f0) f0 n) < D n then n else zRiskR D v (nI f0) f0 n := by
        show (if zAbs (nI n - nI f0) ≤ v ∧ D (zRiskR D v (nI f0) f0 n) < D n then n else zRiskR D v (nI f0) f0 n) = _
        by_cases q : D (zRiskR D v (nI f0) f0 n) < D n
        · rw [if_pos ⟨c, q⟩, if_pos q]
        · rw [if_neg (fun z => q z.2), if_neg q]
      have hnf : nI n = nI f0 ↔ n = f0 := nI_eq (by omega) (by omega)
      -- what the class takes
      have tk : ((zRiskF d h sc v (nI f0) n).2 < nI (D n) ∨ (nI (D n) = (zRiskF d h sc v (nI f0) n).2 ∧ nI n = nI f0)) ↔ ((zRiskF d h sc v (nI f0) n = (nI b, -1)) ∨ mx < D n ∨ (D n = mx ∧ n = f0)) := by
        rcases hF with e | ⟨e, e0, eb⟩
        · have hm := h3 e
          rw [e]
          have n1 : ¬ ((nI b, nI mx) : Int32 × Int32) = (nI b, -1) := fun z => by
            have : nI mx = -1 := congrArg Prod.snd z
            exact nI_m1 hm this
          constructor
          · rintro (z | ⟨z, z2⟩)
            · exact Or.inr (Or.inl ((nI_ltI hm d2).mp z))
            · exact Or.inr (Or.inr ⟨(nI_eq d2 hm).mp z, hnf.mp z2⟩)
          · rintro (z | z | ⟨z, z2⟩)
            · exact absurd z n1
            · exact Or.inl (nI_lt z d2)
            · exact Or.inr ⟨by rw [z], hnf.mpr z2⟩
        · rw [e]
          refine ⟨fun _ => Or.inl rfl, fun _ => Or.inl ?_⟩
          show (-1 : Int32) < nI (D n)
          exact Int32.lt_iff_toInt_lt.mpr (by rw [nI_toInt d2, show (-1 : Int32).toInt = -1 by decide]; omega)
      rw [eF, eR]
      have key : (if zAbs (nI n - nI f0) ≤ v ∧ D (zRiskR D v (nI f0) f0 n) < D n then n else zRiskR D v (nI f0) f0 n) = (if D (zRiskR D v (nI f0) f0 n) < D n then n else zRiskR D v (nI f0) f0 n) := by
        by_cases q : D (zRiskR D v (nI f0) f0 n) < D n
        · rw [if_pos ⟨c, q⟩, if_pos q]
        · rw [if_neg (fun z => q z.2), if_neg q]
      rw [key, dr]
      have r8 : ∀ (c : Prop) [Decidable c], (if c then n else zRiskR D v (nI f0) f0 n) < 8 := fun c _ => by
        split
        · omega
        · exact hr8
      by_cases t : ((zRiskF d h sc v (nI f0) n).2 < nI (D n) ∨ (nI (D n) = (zRiskF d h sc v (nI f0) n).2 ∧ nI n = nI f0))
      · rw [if_pos t]
        have t2 := tk.mp t
        refine ⟨n, D n, by omega, ?_, Or.inl rfl, fun z => ?_, fun z => ?_, fun _ => d2, fun z => ⟨rfl, ?_, ?_⟩⟩
        · exact r8 _
        · -- D n ≤ D f0
          by_cases q : mx ≤ D f0
          · rw [if_pos q, if_neg (by omega), h1 q]
          · rcases t2 with e | e | e
            · rcases hF with e2 | ⟨-, e2, -⟩
              · rw [e2] at e
                have : nI mx = -1 := congrArg Prod.snd e
                exact absurd this (nI_m1 (h3 e2))
              · omega
            · omega
            · obtain ⟨e1, e2⟩ := e
              rw [e2] at e1
              omega
        · by_cases q : mx ≤ D f0
          · rw [if_pos q, if_pos z]; exact ⟨rfl, rfl⟩
          · rw [if_neg q]
            rcases t2 with e | e | e
            · rcases hF with e2 | ⟨-, e2, -⟩
              · rw [e2] at e
                have : nI mx = -1 := congrArg Prod.snd e
                exact absurd this (nI_m1 (h3 e2))
              · omega
            · rw [if_pos e]; exact ⟨rfl, rfl⟩
            · obtain ⟨e1, e2⟩ := e
              rw [e2] at e1
              omega
        · by_cases e : n = f0
          · rw [e]; exact Nat.le_refl _
          · obtain ⟨e1, e2, e3⟩ := h4 (by omega)
            rcases t2 with e4 | e4 | e4
            · rw [e1] at e4
              have : nI mx = -1 := congrArg Prod.snd e4
              exact absurd this (nI_m1 (h3 e1))
            · omega
            · omega
        · intro e
          by_cases e0 : n = f0
          · exact e0
          · obtain ⟨e1, e2, e3⟩ := h4 (by omega)
            rcases t2 with e4 | e4 | e4
            · rw [e1] at e4
              have : nI mx = -1 := congrArg Prod.snd e4
              exact absurd this (nI_m1 (h3 e1))
            · omega
            · exact e4.2
      · rw [if_neg t]
        have t2 := fun z => t (tk.mpr z)
        have hF2 : zRiskF d h sc v (nI f0) n = (nI b, nI mx) := hF.elim id (fun e => absurd (Or.inl e.1) t2)
        have m1 : ¬ mx < D n := fun z => t2 (Or.inr (Or.inl z))
        have m2 : ¬ (D n = mx ∧ n = f0) := fun z => t2 (Or.inr (Or.inr z))
        refine ⟨b, mx, hb, ?_, Or.inl hF2, fun z => ?_, fun z => ?_, h3, fun z => ⟨hF2, ?_, ?_⟩⟩
        · exact r8 _
        · rw [if_pos z, if_neg (by omega)]; exact h1 z
        · rw [if_neg (show ¬ mx ≤ D f0 by omega), if_neg m1]; exact h2 z
        · by_cases e : n = f0
          · rw [e] at m1; omega
          · exact (h4 (by omega)).2.1
        · intro e
          by_cases e0 : n = f0
          · rw [e0] at m2; exact absurd ⟨e.symm, rfl⟩ m2
          · exact (h4 (by omega)).2.2 e
    · have eF : zRiskF d h sc v (nI f0) (n + 1) = zRiskF d h sc v (nI f0) n := by rw [zRiskF, if_neg c]
      have eR : zRiskR D v (nI f0) f0 (n + 1) = zRiskR D v (nI f0) f0 n := by
        show (if zAbs (nI n - nI f0) ≤ v ∧ D (zRiskR D v (nI f0) f0 n) < D n then n else zRiskR D v (nI f0) f0 n) = _
        rw [if_neg (fun z => c z.1)]
      have hne : ¬ n = f0 := fun z => c (by
        rw [z, pk_sub (Nat.le_refl _), Nat.sub_self]
        exact hv)
      rw [eF, eR, if_neg (fun z => c z.1)]
      exact ⟨b, mx, hb, hr8, hF, h1, h2, h3, fun z => h4 (by omega)⟩
theorem zRisk_end {d : ab_M} {h : Nat} {sc : Nat → Nat} {v : Int32} {f0 n : Nat} {D : Nat → Nat} (hD : ∀ p, p < 8 → D p = sc p * zAsk d 0 p h (sc p) 0 ∧ D p < 2 ^ 31) (hv : 0 ≤ v) (hf : f0 < n) (hn : n ≤ 8) : (zRiskF d h sc v (nI f0) n).1 = nI (zRiskR D v (nI f0) f0 n) ∧ zRiskR D v (nI f0) f0 n < 8 := by
  obtain ⟨b, mx, hb, hr, hF, h1, h2, h3, h4⟩ := zRisk_eq hD hv (show f0 < 8 by omega) n hn
  obtain ⟨e1, e2, e3⟩ := h4 hf
  refine ⟨?_, hr⟩
  rw [e1]
  show nI b = _
  by_cases c : mx ≤ D f0
  · rw [h1 c, e3 (by omega)]
  · rw [(h2 (by omega)).1]
end
