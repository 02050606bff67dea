/-! the reference: the night's walk *)
-/
abbrev zSL : List Nat := [26, 27, 28, 29, 30, 31]
def zWkR (d M : ab_M) (n : Nat) : Prop := ∀ h, h < n → (∀ m, m < zMen d → M 28 (12 * m + h) = (zWk d h).1 m) ∧ (∀ p, p < zPcs d → M 30 (12 * p + h) = nI (zSc d h p)) ∧ M 29 h = nI (zBits (zWk d h).2.2.2 (zPcs d))
def zt_X12_walk : ab_T := ab_lq (α := ab_M) (fun x r M _ => r = [] ∧ zRN x M) (fun x M N o M2 N2 => N2 = N ∧ o = none ∧ zFr zSL M M2 ∧ zWkR x M2 (zHrs x))
theorem zt_X12_walk_mono : ab_mono zt_X12_walk := ab_lq_mono _ _
theorem zV_X12_walk : ab_recv zw_M vwCl RX12 zt_X12_walk := ab_lq_v
def zp_X12_walk : ab_P := [(0, .iconst 0, 1, [], [0]),
  (1, .istore_n 1, 2, [1], []),
  (2, .iload_n 1, 3, [1], []),
  (3, .aload_n 0, 4, [0], []),
  (4, .getfield 179, 7, [], []),
  (7, .if_icmp .ge 50, 10, [57], []),
  (10, .aload_n 0, 11, [0], []),
  (11, .getfield 144, 14, [], []),
  (14, .bipush 12, 16, [], [12]),
  (16, .iload_n 1, 17, [1], []),
  (17, .imul, 18, [], []),
  (18, .aload_n 0, 19, [0], []),
  (19, .getfield 41, 22, [], []),
  (22, .iload_n 1, 23, [1], []),
  (23, .iaload, 24, [], []),
  (24, .iconst 4, 25, [], [4]),
  (25, .if_icmp .ne 12, 28, [37], []),
  (28, .aload_n 0, 29, [0], []),
  (29, .getfield 47, 32, [], []),
  (32, .iload_n 1, 33, [1], []),
  (33, .iaload, 34, [], []),
  (34, .goto 9, 37, [43], []),
  (37, .aload_n 0, 38, [0], []),
  (38, .getfield 44, 41, [], []),
  (41, .iload_n 1, 42, [1], []),
  (42, .iaload, 43, [], []),
  (43, .iastore, 44, [], []),
  (44, .aload_n 0, 45, [0], []),
  (45, .getfield 153, 48, [], []),
  (48, .iload_n 1, 49, [1], []),
  (49, .iconst 0, 50, [], [0]),
  (50, .bastore, 51, [], []),
  (51, .iinc 1 1, 54, [], [1]),
  (54, .goto (-52), 57, [2], []),
  (57, .iconst 0, 58, [], [0]),
  (58, .istore_n 1, 59, [1], []),
  (59, .iload_n 1, 60, [1], []),
  (60, .aload_n 0, 61, [0], []),
  (61, .getfield 172, 64, [], []),
  (64, .if_icmp .ge 19, 67, [83], []),
  (67, .aload_n 0, 68, [0], []),
  (68, .getfield 150, 71, [], []),
  (71, .bipush 12, 73, [], [12]),
  (73, .iload_n 1, 74, [1], []),
  (74, .imul, 75, [], []),
  (75, .iconst 1, 76, [], [1]),
  (76, .iastore, 77, [], []),
  (77, .iinc 1 1, 80, [], [1]),
  (80, .goto (-21), 83, [59], []),
  (83, .iconst 0, 84, [], [0]),
  (84, .istore_n 1, 85, [1], []),
  (85, .iload_n 1, 86, [1], []),
  (86, .aload_n 0, 87, [0], []),
  (87, .getfield 7, 90, [], []),
  (90, .if_icmp .ge 186, 93, [276], []),
  (93, .iconst 0, 94, [], [0]),
  (94, .istore_n 2, 95, [2], []),
  (95, .iload_n 2, 96, [2], []),
  (96, .aload_n 0, 97, [0], []),
  (97, .getfield 179, 100, [], []),
  (100, .if_icmp .ge 60, 103, [160], []),
  (103, .aload_n 0, 104, [0], []),
  (104, .getfield 144, 107, [], []),
  (107, .bipush 12, 109, [], [12]),
  (109, .iload_n 2, 110, [2], []),
  (110, .imul, 111, [], []),
  (111, .iload_n 1, 112, [1], []),
  (112, .iadd, 113, [], []),
  (113, .iload_n 2, 114, [2], []),
  (114, .aload_n 0, 115, [0], []),
  (115, .getfield 74, 118, [], []),
  (118, .if_icmp .ne 18, 121, [136], []),
  (121, .iload_n 1, 122, [1], []),
  (122, .aload_n 0, 123, [0], []),
  (123, .getfield 292, 126, [], []),
  (126, .if_icmp .ne 10, 129, [136], []),
  (129, .aload_n 0, 130, [0], []),
  (130, .getfield 295, 133, [], []),
  (133, .goto 14, 136, [147], []),
  (136, .aload_n 0, 137, [0], []),
  (137, .getfield 144, 140, [], []),
  (140, .bipush 12, 142, [], [12]),
  (142, .iload_n 2, 143, [2], []),
  (143, .imul, 144, [], []),
  (144, .iload_n 1, 145, [1], []),
  (145, .iadd, 146, [], []),
  (146, .iaload, 147, [], []),
  (147, .iastore, 148, [], []),
  (148, .aload_n 0, 149, [0], []),
  (149, .iload_n 2, 150, [2], []),
  (150, .iload_n 1, 151, [1], []),
  (151, .invokevirtual 298, 154, [], []),
  (154, .iinc 2 1, 157, [], [1]),
  (157, .goto (-62), 160, [95], []),
  (160, .aload_n 0, 161, [0], []),
  (161, .iload_n 1, 162, [1], []),
  (162, .invokevirtual 302, 165, [], []),
  (165, .iload_n 1, 166, [1], []),
  (166, .iconst 1, 167, [], [1]),
  (167, .iadd, 168, [], []),
  (168, .aload_n 0, 169, [0], []),
  (169, .getfield 7, 172, [], []),
  (172, .if_icmp .ge 98, 175, [270], []),
  (175, .iconst 0, 176, [], [0]),
  (176, .istore_n 2, 177, [2], []),
  (177, .iload_n 2, 178, [2], []),
  (178, .aload_n 0, 179, [0], []),
  (179, .getfield 172, 182, [], []),
  (182, .if_icmp .ge 53, 185, [235], []),
  (185, .aload_n 0, 186, [0], []),
  (186, .getfield 150, 189, [], []),
  (189, .bipush 12, 191, [], [12]),
  (191, .iload_n 2, 192, [2], []),
  (192, .imul, 193, [], []),
  (193, .iload_n 1, 194, [1], []),
  (194, .iadd, 195, [], []),
  (195, .iconst 1, 196, [], [1]),
  (196, .iadd, 197, [], []),
  (197, .aload_n 0, 198, [0], []),
  (198, .getfield 147, 201, [], []),
  (201, .iload_n 1, 202, [1], []),
  (202, .iaload, 203, [], []),
  (203, .iload_n 2, 204, [2], []),
  (204, .ishr, 205, [], []),
  (205, .iconst 1, 206, [], [1]),
  (206, .iand, 207, [], []),
  (207, .iconst 1, 208, [], [1]),
  (208, .if_icmp .ne 7, 211, [215], []),
  (211, .iconst 1, 212, [], [1]),
  (212, .goto 16, 215, [228], []),
  (215, .aload_n 0, 216, [0], []),
  (216, .getfield 150, 219, [], []),
  (219, .bipush 12, 221, [], [12]),
  (221, .iload_n 2, 222, [2], []),
  (222, .imul, 223, [], []),
  (223, .iload_n 1, 224, [1], []),
  (224, .iadd, 225, [], []),
  (225, .iaload, 226, [], []),
  (226, .iconst 1, 227, [], [1]),
  (227, .iadd, 228, [], []),
  (228, .iastore, 229, [], []),
  (229, .iinc 2 1, 232, [], [1]),
  (232, .goto (-55), 235, [177], []),
  (235, .iconst 0, 236, [], [0]),
  (236, .istore_n 2, 237, [2], []),
  (237, .iload_n 2, 238, [2], []),
  (238, .aload_n 0, 239, [0], []),
  (239, .getfield 179, 242, [], []),
  (242, .if_icmp .ge 28, 245, [270], []),
  (245, .aload_n 0, 246, [0], []),
  (246, .getfield 144, 249, [], []),
  (249, .bipush 12, 251, [], [12]),
  (251, .iload_n 2, 252, [2], []),
  (252, .imul, 253, [], []),
  (253, .iload_n 1, 254, [1], []),
  (254, .iadd, 255, [], []),
  (255, .iconst 1, 256, [], [1]),
  (256, .iadd, 257, [], []),
  (257, .aload_n 0, 258, [0], []),
  (258, .iload_n 2, 259, [2], []),
  (259, .iload_n 1, 260, [1], []),
  (260, .invokevirtual 305, 263, [], []),
  (263, .iastore, 264, [], []),
  (264, .iinc 2 1, 267, [], [1]),
  (267, .goto (-30), 270, [237], []),
  (270, .iinc 1 1, 273, [], [1]),
  (273, .goto (-188), 276, [85], []),
  (276, .return_, 277, [], [])]
theorem zo_X12_walk : ab_ok cX12_walk zp_X12_walk = true := by decide +kernel
def zg_X12_walk : ab_G := (zw_M, [], zf_X12, zc_X12, [], [(298, 3, zt_X12_turns), (302, 2, zt_X12_looks), (305, 3, zt_X12_goesTo)], [])
theorem zm_X12_walk : ab_MG zg_X12_walk := ab_MGof (List.forall_mem_cons.mpr ⟨zt_X12_turns_mono, List.forall_mem_cons.mpr ⟨zt_X12_looks_mono, List.forall_mem_cons.mpr ⟨zt_X12_goesTo_mono, List.forall_mem_nil _⟩⟩⟩) (List.forall_mem_nil _)
abbrev zr_X12_walk (Q : ab_R) : ab_K := ab_Run zg_X12_walk zp_X12_walk none 3 Q
set_option maxRecDepth 20000 in
theorem zv_X12_walk_0 {Q : ab_R} {M : ab_M} {N : ab_N}  (h : zr_X12_walk Q 2 [some (.ref 0), some (.int (0 : Int32)), none] [] M N) : zr_X12_walk Q 0 [some (.ref 0)] [] M N := ab_Run_s zm_X12_walk (sp := [(2, [true, true, false]), (59, [true, true, false]), (85, [true, true, false]), (95, [true, true, true]), (136, [true, true, true]), (154, [true, true, true]), (165, [true, true, false]), (177, [true, true, true]), (237, [true, true, true]), (263, [true, true, true])]) 170 h
set_option maxRecDepth 20000 in
theorem zv_X12_walk_2 {Q : ab_R} {M : ab_M} {N : ab_N} (l1 : Int32) (h : ((M 0 12) ≤ l1 → zr_X12_walk Q 59 [some (.ref 0), some (.int (0 : Int32)), none] [] M N) ∧ (¬ ((M 0 12) ≤ l1) → vp_in l1 5 ∧ (((M 6 l1.toNatClampNeg) = (4 : Int32) → vp_in l1 5 ∧ (vp_in ((12 : Int32) * l1) 60 ∧ (let z1 : Nat → Int32 := upd (M 28) ((12 : Int32) * l1).toNatClampNeg (M 8 l1.toNatClampNeg); vp_in l1 5 ∧ (let z2 : Nat → Int32 := upd (M 31) l1.toNatClampNeg (vp_nar .boolean (0 : Int32)); zr_X12_walk Q 2 [some (.ref 0), some (.int (l1 + (1 : Int32))), none] [] (ab_u (ab_u M 28 z1) 31 z2) N)))) ∧ (¬ ((M 6 l1.toNatClampNeg) = (4 : Int32)) → vp_in l1 5 ∧ (vp_in ((12 : Int32) * l1) 60 ∧ (let z3 : Nat → Int32 := upd (M 28) ((12 : Int32) * l1).toNatClampNeg (M 7 l1.toNatClampNeg); vp_in l1 5 ∧ (let z4 : Nat → Int32 := upd (M 31) l1.toNatClampNeg (vp_nar .boolean (0 : Int32)); zr_X12_walk Q 2 [some (.ref 0), some (.int (l1 + (1 : Int32))), none] [] (ab_u (ab_u M 28 z3) 31 z4) N))))))) : zr_X12_walk Q 2 [some (.ref 0), some (.int l1), none] [] M N := ab_Run_s zm_X12_walk (sp := [(2, [true, true, false]), (59, [true, true, false]), (85, [true, true, false]), (95, [true, true, true]), (136, [true, true, true]), (154, [true, true, true]), (165, [true, true, false]), (177, [true, true, true]), (237, [true, true, true]), (263, [true, true, true])]) 170 h
set_option maxRecDepth 20000 in
theorem zv_X12_walk_59 {Q : ab_R} {M : ab_M} {N : ab_N} (l1 : Int32) (h : ((M 0 7) ≤ l1 → zr_X12_walk Q 85 [some (.ref 0), some (.int (0 : Int32)), none] [] M N) ∧ (¬ ((M 0 7) ≤ l1) → vp_in ((12 : Int32) * l1) 96 ∧ (let z1 : Nat → Int32 := upd (M 30) ((12 : Int32) * l1).toNatClampNeg (1 : Int32); zr_X12_walk Q 59 [some (.ref 0), some (.int (l1 + (1 : Int32))), none] [] (ab_u M 30 z1) N))) : zr_X12_walk Q 59 [some (.ref 0), some (.int l1), none] [] M N := ab_Run_s zm_X12_walk (sp := [(2, [true, true, false]), (59, [true, true, false]), (85, [true, true, false]), (95, [true, true, true]), (136, [true, true, true]), (154, [true, true, true]), (165, [true, true, false]), (177, [true, true, true]), (237, [true, true, true]), (263, [true, true, true])]) 170 h
set_option maxRecDepth 20000 in
theorem zv_X12_walk_85 {Q : ab_R} {M : ab_M} {N : ab_N} (l1 : Int32) (h : ((M 0 0) ≤ l1 → Q none M N) ∧ (¬ ((M 0 0) ≤ l1) → zr_X12_walk Q 95 [some (.ref 0), some (.int l1), some (.int (0 : Int32))] [] M N)) : zr_X12_walk Q 85 [some (.ref 0), some (.int l1), none] [] M N := ab_Run_s zm_X12_walk (sp := [(2, [true, true, false]), (59, [true, true, false]), (85, [true, true, false]), (95, [true, true, true]), (136, [true, true, true]), (154, [true, true, true]), (165, [true, true, false]), (177, [true, true, true]), (237, [true, true, true]), (263, [true, true, true])]) 170 h
set_option maxRecDepth 20000 in
theorem zv_X12_walk_95 {Q : ab_R} {M : ab_M} {N : ab_N} (l1 : Int32) (l2 : Int32) (h : ((M 0 12) ≤ l2 → zt_X12_looks [.ref 0, .int l1] M N (fun r M2 N2 => zr_X12_walk Q 165 [some (.ref 0), some (.int l1), none] (ab_ol r []) M2 N2)) ∧ (¬ ((M 0 12) ≤ l2) → (l2 = (M 0 27) → (l1 = (M 0 28) → vp_in (((12 : Int32) * l2) + l1) 60 ∧ (let z1 : Nat → Int32 := upd (M 28) (((12 : Int32) * l2) + l1).toNatClampNeg (M 0 29); zt_X12_turns [.ref 0, .int l2, .int l1] (ab_u M 28 z1) N (fun r M2 N2 => zr_X12_walk Q 154 [some (.ref 0), some (.int l1), some (.int l2)] (ab_ol r []) M2 N2))) ∧ (¬ (l1 = (M 0 28)) → zr_X12_walk Q 136 [some (.ref 0), some (.int l1), some (.int l2)] [.int (((12 : Int32) * l2) + l1), .ref 28] M N)) ∧ (¬ (l2 = (M 0 27)) → zr_X12_walk Q 136 [some (.ref 0), some (.int l1), some (.int l2)] [.int (((12 : Int32) * l2) + l1), .ref 28] M N))) : zr_X12_walk Q 95 [some (.ref 0), some (.int l1), some (.int l2)] [] M N := ab_Run_s zm_X12_walk (sp := [(2, [true, true, false]), (59, [true, true, false]), (85, [true, true, false]), (95, [true, true, true]), (136, [true, true, true]), (154, [true, true, true]), (165, [true, true, false]), (177, [true, true, true]), (237, [true, true, true]), (263, [true, true, true])]) 170 h
set_option maxRecDepth 20000 in
theorem zv_X12_walk_136 {Q : ab_R} {M : ab_M} {N : ab_N} (l1 : Int32) (l2 : Int32) (s1 : Int32) (h : vp_in (((12 : Int32) * l2) + l1) 60 ∧ (vp_in s1 60 ∧ (let z1 : Nat → Int32 := upd (M 28) s1.toNatClampNeg (M 28 (((12 : Int32) * l2) + l1).toNatClampNeg); zt_X12_turns [.ref 0, .int l2, .int l1] (ab_u M 28 z1) N (fun r M2 N2 => zr_X12_walk Q 154 [some (.ref 0), some (.int l1), some (.int l2)] (ab_ol r []) M2 N2)))) : zr_X12_walk Q 136 [some (.ref 0), some (.int l1), some (.int l2)] [.int s1, .ref 28] M N := ab_Run_s zm_X12_walk (sp := [(2, [true, true, false]), (59, [true, true, false]), (85, [true, true, false]), (95, [true, true, true]), (136, [true, true, true]), (154, [true, true, true]), (165, [true, true, false]), (177, [true, true, true]), (237, [true, true, true]), (263, [true, true, true])]) 170 h
set_option maxRecDepth 20000 in
theorem zv_X12_walk_154 {Q : ab_R} {M : ab_M} {N : ab_N} (l1 : Int32) (l2 : Int32) (h : zr_X12_walk Q 95 [some (.ref 0), some (.int l1), some (.int (l2 + (1 : Int32)))] [] M N) : zr_X12_walk Q 154 [some (.ref 0), some (.int l1), some (.int l2)] [] M N := ab_Run_s zm_X12_walk (sp := [(2, [true, true, false]), (59, [true, true, false]), (85, [true, true, false]), (95, [true, true, true]), (136, [true, true, true]), (154, [true, true, true]), (165, [true, true, false]), (177, [true, true, true]), (237, [true, true, true]), (263, [true, true, true])]) 170 h
set_option maxRecDepth 20000 in
theorem zv_X12_walk_165 {Q : ab_R} {M : ab_M} {N : ab_N} (l1 : Int32) (h : ((M 0 0) ≤ (l1 + (1 : Int32)) → zr_X12_walk Q 85 [some (.ref 0), some (.int (l1 + (1 : Int32))), none] [] M N) ∧ (¬ ((M 0 0) ≤ (l1 + (1 : Int32))) → zr_X12_walk Q 177 [some (.ref 0), some (.int l1), some (.int (0 : Int32))] [] M N)) : zr_X12_walk Q 165 [some (.ref 0), some (.int l1), none] [] M N := ab_Run_s zm_X12_walk (sp := [(2, [true, true, false]), (59, [true, true, false]), (85, [true, true, false]), (95, [true, true, true]), (136, [true, true, true]), (154, [true, true, true]), (165, [true, true, false]), (177, [true, true, true]), (237, [true, true, true]), (263, [true, true, true])]) 170 h
set_option maxRecDepth 20000 in
theorem zv_X12_walk_177 {Q : ab_R} {M : ab_M} {N : ab_N} (l1 : Int32) (l2 : Int32) (h : ((M 0 7) ≤ l2 → zr_X12_walk Q 237 [some (.ref 0), some (.int l1), some (.int (0 : Int32))] [] M N) ∧ (¬ ((M 0 7) ≤ l2) → vp_in l1 12 ∧ (((((M 29 l1.toNatClampNeg) >>> (l2 &&& 31)) &&& (1 : Int32)) = (1 : Int32) → vp_in ((((12 : Int32) * l2) + l1) + (1 : Int32)) 96 ∧ (let z1 : Nat → Int32 := upd (M 30) ((((12 : Int32) * l2) + l1) + (1 : Int32)).toNatClampNeg (1 : Int32); zr_X12_walk Q 177 [some (.ref 0), some (.int l1), some (.int (l2 + (1 : Int32)))] [] (ab_u M 30 z1) N)) ∧ (¬ ((((M 29 l1.toNatClampNeg) >>> (l2 &&& 31)) &&& (1 : Int32)) = (1 : Int32)) → vp_in (((12 : Int32) * l2) + l1) 96 ∧ (vp_in ((((12 : Int32) * l2) + l1) + (1 : Int32)) 96 ∧ (let z2 : Nat → Int32 := upd (M 30) ((((12 : Int32) * l2) + l1) + (1 : Int32)).toNatClampNeg ((M 30 (((12 : Int32) * l2) + l1).toNatClampNeg) + (1 : Int32)); zr_X12_walk Q 177 [some (.ref 0), some (.int l1), some (.int (l2 + (1 : Int32)))] [] (ab_u M 30 z2) N)))))) : zr_X12_walk Q 177 [some (.ref 0), some (.int l1), some (.int l2)] [] M N := ab_Run_s zm_X12_walk (sp := [(2, [true, true, false]), (59, [true, true, false]), (85, [true, true, false]), (95, [true, true, true]), (136, [true, true, true]), (154, [true, true, true]), (165, [true, true, false]), (177, [true, true, true]), (237, [true, true, true]), (263, [true, true, true])]) 170 h
set_option maxRecDepth 20000 in
theorem zv_X12_walk_237 {Q : ab_R} {M : ab_M} {N : ab_N} (l1 : Int32) (l2 : Int32) (h : ((M 0 12) ≤ l2 → zr_X12_walk Q 85 [some (.ref 0), some (.int (l1 + (1 : Int32))), none] [] M N) ∧ (¬ ((M 0 12) ≤ l2) → zt_X12_goesTo [.ref 0, .int l2, .int l1] M N (fun r M2 N2 => zr_X12_walk Q 263 [some (.ref 0), some (.int l1), some (.int l2)] (ab_ol r [.int ((((12 : Int32) * l2) + l1) + (1 : Int32)), .ref 28]) M2 N2))) : zr_X12_walk Q 237 [some (.ref 0), some (.int l1), some (.int l2)] [] M N := ab_Run_s zm_X12_walk (sp := [(2, [true, true, false]), (59, [true, true, false]), (85, [true, true, false]), (95, [true, true, true]), (136, [true, true, true]), (154, [true, true, true]), (165, [true, true, false]), (177, [true, true, true]), (237, [true, true, true]), (263, [true, true, true])]) 170 h
set_option maxRecDepth 20000 in
theorem zv_X12_walk_263 {Q : ab_R} {M : ab_M} {N : ab_N} (l1 : Int32) (l2 : Int32) (s1 : Int32) (s2 : Int32) (h : vp_in s1 60 ∧ (let z1 : Nat → Int32 := upd (M 28) s1.toNatClampNeg s2; zr_X12_walk Q 237 [some (.ref 0), some (.int l1), some (.int (l2 + (1 : Int32)))] [] (ab_u M 28 z1) N)) : zr_X12_walk Q 263 [some (.ref 0), some (.int l1), some (.int l2)] [.int s2, .int s1, .ref 28] M N := ab_Run_s zm_X12_walk (sp := [(2, [true, true, false]), (59, [true, true, false]), (85, [true, true, false]), (95, [true, true, true]), (136, [true, true, true]), (154, [true, true, true]), (165, [true, true, false]), (177, [true, true, true]), (237, [true, true, true]), (263, [true, true, true])]) 170 h
theorem zPrev_s (d : ab_M) (h : Nat) : zPrev d (h + 1) = zWk d h := rfl
theorem zBack_r {d M : ab_M} {h m : Nat} {bk : Nat → Int32} {x : Int32} (h26 : d 26 m = M 7 m) (h27 : d 27 m = M 8 m) (hb : M 31 m = bk m) (h0 : h = 0 → bk m = 0) : ab_b (¬ x = M 7 m ∧ (x = M 8 m ∨ ¬ M 31 m = 0)) = zBack d h bk m x := by
  unfold zBack
  rw [← h26, ← h27, hb]
  by_cases c : h = 0
  · rw [h0 c, c]
    by_cases c1 : x = d 26 m
    · rw [ab_b_0.mpr (fun z => z.1 c1), ab_b_0.mpr (fun z => z.1 c1)]
    · by_cases c2 : x = d 27 m
      · rw [ab_b_1.mpr ⟨c1, Or.inl c2⟩, ab_b_1.mpr ⟨c1, Or.inl c2⟩]
      · rw [ab_b_0.mpr (fun z => z.2.elim c2 (fun q => q rfl)), ab_b_0.mpr (fun z => z.2.elim c2 (fun q => q.2 rfl))]
  · by_cases c1 : ¬ x = d 26 m ∧ (x = d 27 m ∨ ¬ bk m = 0)
    · rw [ab_b_1.mpr c1, ab_b_1.mpr ⟨c1.1, c1.2.imp id (fun q => ⟨Nat.pos_of_ne_zero c, q⟩)⟩]
    · rw [ab_b_0.mpr c1, ab_b_0.mpr (fun z => c1 ⟨z.1, z.2.imp id (fun q => q.2)⟩)]
section Walk
variable {Q : ab_R} {N : ab_N} {d M0 : ab_M}
/-- before hour h: hours that were, where they come, the ways back, since when -/
def zPre (d M : ab_M) (h : Nat) : Prop := zWkR d M h ∧ (h < zHrs d → (∀ m, m < zMen d → M 28 (12 * m + h) = zCm0 d h (zPrev d h).1 (zPrev d h).2.1 (zSc d h) m) ∧ (∀ m, m < zMen d → M 31 m = (zPrev d h).2.1 m) ∧ ∀ p, p < zPcs d → M 30 (12 * p + h) = nI (zSc d h p))
theorem zWkR_mv {M M2 : ab_M} {n : Nat} (h : zWkR d M n) (h28 : ∀ m g, m < zMen d → g < n → M2 28 (12 * m + g) = M 28 (12 * m + g)) (h30 : ∀ p g, p < zPcs d → g < n → M2 30 (12 * p + g) = M 30 (12 * p + g)) (h29 : ∀ g, g < n → M2 29 g = M 29 g) : zWkR d M2 n := fun g hg => by
  obtain ⟨a, b, c⟩ := h g hg
  exact ⟨fun m hm => by rw [h28 m g hm hg]; exact a m hm, fun p hp => by rw [h30 p g hp hg]; exact b p hp, by rw [h29 g hg]; exact c⟩
theorem zWk_zero {m : Nat} : (zPrev d 0).2.1 m = 0 := rfl
/-- hour h, men from m on -/
theorem zL_walk_m (hR : zRN d M0) (h : Nat) (hh : h < zHrs d) (kk : ∀ M, zFr zSL M0 M → zWkR d M (h + 1) → (∀ m, m < zMen d → M 31 m = (zWk d h).2.1 m) → zr_X12_walk Q 165 [some (.ref 0), some (.int (nI h)), none] [] M N) :
    ∀ (r m : Nat) (M : ab_M), m + r = zMen d → zFr zSL M0 M → zWkR d M h → (∀ i, i < m → M 28 (12 * i + h) = (zWk d h).1 i ∧ M 31 i = (zWk d h).2.1 i) → (∀ i, m ≤ i → i < zMen d → M 28 (12 * i + h) = zCm0 d h (zPrev d h).1 (zPrev d h).2.1 (zSc d h) i ∧ M 31 i = (zPrev d h).2.1 i) → (∀ p, p < zPcs d → M 30 (12 * p + h) = nI (zSc d h p)) → zr_X12_walk Q 95 [some (.ref 0), some (.int (nI h)), some (.int (nI m))] [] M N := by
  obtain ⟨n1, n2, n3, n4, n5, n6, n7, -⟩ := zNI_n hR
  intro r
  induction r with
  | zero =>
    intro m M hm hF hW h1 h2 h3
    refine zv_X12_walk_95 _ _ ?_
    rw [hF 0 (by decide), n3]
    refine ⟨fun _ => ?_, fun c => absurd (nI_le (by omega) (by omega)) c⟩
    have hpl : ∀ i, i < zMen d → M 28 (12 * i + h) = (zWk d h).1 i ∧ ∃ q, q < zPcs d ∧ (zWk d h).1 i = nI q := fun i hi => ⟨(h1 i (by omega)).1, zWk_nat hR.2.1 hR.2.2.1 hi h⟩
    refine ⟨(d, h, (zWk d h).1), _, rfl, ⟨rfl, zRN_zfr hR hF (by decide), by dsimp only; omega, hpl⟩, ?_⟩
    rintro o M2 N2 ⟨rfl, rfl, rfl⟩
    refine kk _ (zFr_u hF (by decide) _) (fun g hg => ?_) (fun i hi => by rw [ab_u_ne _ _ (by decide)]; exact (h1 i (by omega)).2)
    by_cases e : g = h
    · subst e
      refine ⟨fun i hi => by rw [ab_u_ne _ _ (by decide)]; exact (h1 i (by omega)).1, fun p hp => by rw [ab_u_ne _ _ (by decide)]; exact h3 p hp, ?_⟩
      rw [ab_u_eq, upd_eq, zWk_lk]
    · obtain ⟨a, b, c⟩ := hW g (by omega)
      exact ⟨fun i hi => by rw [ab_u_ne _ _ (by decide)]; exact a i hi, fun p hp => by rw [ab_u_ne _ _ (by decide)]; exact b p hp, by rw [ab_u_eq, upd_ne _ _ e]; exact c⟩
  | succ r ih =>
    intro m M hm hF hW h1 h2 h3
    have hm5 : m < zMen d := by omega
    have hRM := zRN_zfr hR hF (show ∀ c ∈ zSL, 25 ≤ c by decide)
    obtain ⟨a1, a2⟩ := h2 m (Nat.le_refl _) hm5
    -- behind the place
    have turn : ∀ v : Int32, v = (zWk d h).1 m → zt_X12_turns [.ref 0, .int (nI m), .int (nI h)] (ab_u M 28 (upd (M 28) (12 * m + h) v)) N (fun r M2 N2 => zr_X12_walk Q 154 [some (.ref 0), some (.int (nI h)), some (.int (nI m))] (ab_ol r []) M2 N2) := by
      intro v ev
      refine ⟨(m, h, v), _, rfl, ⟨rfl, by dsimp only; omega, by dsimp only; omega, by rw [ab_u_eq, upd_eq]⟩, ?_⟩
      rintro o M2 N2 ⟨rfl, rfl, rfl⟩
      refine zv_X12_walk_154 _ _ ?_
      rw [nI_1]
      dsimp only
      rw [ab_u_ne (k := 28) (j := 31) _ _ (by decide), ab_u_ne (k := 28) (j := 7) _ _ (by decide), ab_u_ne (k := 28) (j := 8) _ _ (by decide)]
      have eb : ab_b (¬ v = M 7 m ∧ (v = M 8 m ∨ ¬ M 31 m = 0)) = (zWk d h).2.1 m := by
        rw [zWk_bk, ← ev]
        exact zBack_r (by rw [hRM.1.2.1.2.2.2.2.2.2.1]) (by rw [hRM.1.2.1.2.2.2.2.2.2.2.1]) a2 (fun z => by rw [z]; rfl)
      rw [eb]
      refine ih (m + 1) _ (by omega) (zFr_u (zFr_u hF (by decide) _) (by decide) _) ?_ ?_ ?_ ?_
      · refine zWkR_mv hW (fun i g hi hg => ?_) (fun p g hp hg => ?_) (fun g hg => ?_)
        · rw [ab_u_ne _ _ (by decide), ab_u_eq, upd_ne _ _ (by omega)]
        · rw [ab_u_ne _ _ (by decide), ab_u_ne _ _ (by decide)]
        · rw [ab_u_ne _ _ (by decide), ab_u_ne _ _ (by decide)]
      · intro i hi
        rw [ab_u_ne _ _ (by decide), ab_u_eq, ab_u_eq]
        by_cases e : i = m
        · subst e
          rw [upd_eq, upd_eq]
          exact ⟨ev, rfl⟩
        · rw [upd_ne _ _ (by omega), upd_ne _ _ e]
          exact h1 i (by omega)
      · intro i hi hi2
        rw [ab_u_ne _ _ (by decide), ab_u_eq, ab_u_eq, upd_ne _ _ (by omega), upd_ne _ _ (by omega)]
        exact h2 i (by omega) hi2
      · intro p hp
        rw [ab_u_ne _ _ (by decide), ab_u_ne _ _ (by decide)]
        exact h3 p hp
    have e28 : (zWk d h).1 m = if nI m = d 6 8 ∧ nI h = d 6 9 then d 6 10 else zCm0 d h (zPrev d h).1 (zPrev d h).2.1 (zSc d h) m := by rw [zWk_pl, zCome_0]
    have tr := zTry_r hRM (show m < 2 ^ 31 by omega) h
    refine zv_X12_walk_95 _ _ ?_
    have hn12 : M 0 12 = nI (zMen d) := by rw [hF 0 (by decide), n3]
    rw [hn12, e12, nI_clamp (show 12 * m + h < 2 ^ 31 by omega)]
    have no : ¬ (nI m = d 6 8 ∧ nI h = d 6 9) → zr_X12_walk Q 136 [some (.ref 0), some (.int (nI h)), some (.int (nI m))] [.int (nI (12 * m + h)), .ref 28] M N := by
      intro c
      refine zv_X12_walk_136 _ _ _ ?_
      rw [e12, nI_clamp (show 12 * m + h < 2 ^ 31 by omega)]
      refine ⟨nI_in_ (by omega), nI_in_ (by omega), ?_⟩
      intro z1
      exact turn _ (by rw [e28, if_neg c, a1])
    refine ⟨fun c => absurd c (nI_ge (by omega) (by omega)), fun _ => ⟨fun c1 => ⟨fun c2 => ⟨nI_in_ (by omega), ?_⟩, fun c2 => no (fun z => c2 (tr.mpr z).2)⟩, fun c1 => no (fun z => c1 (tr.mpr z).1)⟩⟩
    intro z1
    have z := tr.mp ⟨c1, c2⟩
    exact turn _ (by rw [e28, if_pos z]; exact zTry_r2 hRM (show m < 2 ^ 31 by omega) z.1)
/-- behind hour h: since when -/
theorem zL_walk_s (hR : zRN d M0) (h : Nat) (hh : h + 1 < zHrs d) (kk : ∀ M, zFr zSL M0 M → zWkR d M (h + 1) → (∀ m, m < zMen d → M 31 m = (zWk d h).2.1 m) → (∀ p, p < zPcs d → M 30 (12 * p + (h + 1)) = nI (zSc d (h + 1) p)) → zr_X12_walk Q 237 [some (.ref 0), some (.int (nI h)), some (.int (0 : Int32))] [] M N) :
    ∀ (r p : Nat) (M : ab_M), p + r = zPcs d → zFr zSL M0 M → zWkR d M (h + 1) → (∀ m, m < zMen d → M 31 m = (zWk d h).2.1 m) → (∀ i, i < p → M 30 (12 * i + (h + 1)) = nI (zSc d (h + 1) i)) → zr_X12_walk Q 177 [some (.ref 0), some (.int (nI h)), some (.int (nI p))] [] M N := by
  obtain ⟨n1, n2, n3, n4, n5, n6, n7, -⟩ := zNI_n hR
  intro r
  induction r with
  | zero =>
    intro p M hp hF hW h1 h2
    refine zv_X12_walk_177 _ _ ?_
    rw [hF 0 (by decide), n1]
    exact ⟨fun _ => kk M hF hW h1 (fun i hi => h2 i (by omega)), fun c => absurd (nI_le (by omega) (by omega)) c⟩
  | succ r ih =>
    intro p M hp hF hW h1 h2
    have hp8 : p < zPcs d := by omega
    obtain ⟨w1, w2, w3⟩ := hW h (by omega)
    refine zv_X12_walk_177 _ _ ?_
    have hn : M 0 7 = nI (zPcs d) := by rw [hF 0 (by decide), n1]
    rw [hn, e12, nI_1, nI_clamp (show h < 2 ^ 31 by omega), nI_clamp (show 12 * p + h < 2 ^ 31 by omega), nI_clamp (show 12 * p + h + 1 < 2 ^ 31 by omega), w3, w2 p hp8, nI_1, nI_1]
    have hB := zBits_lt (f := (zWk d h).2.2.2) (zPcs d) n2
    have bit := zB_bit _ hB p (by omega)
    have bb := zBits_bit (f := (zWk d h).2.2.2) (w := p) (zPcs d)
    have step : ∀ v : Nat, v = zSc d (h + 1) p → zr_X12_walk Q 177 [some (.ref 0), some (.int (nI h)), some (.int (nI (p + 1)))] [] (ab_u M 30 (upd (M 30) (12 * p + h + 1) (nI v))) N := by
      intro v ev
      refine ih (p + 1) _ (by omega) (zFr_u hF (by decide) _) ?_ (fun m hm => by rw [ab_u_ne _ _ (by decide)]; exact h1 m hm) ?_
      · refine zWkR_mv hW (fun i g hi hg => ?_) (fun q g hq hg => ?_) (fun g hg => ?_)
        · rw [ab_u_ne _ _ (by decide)]
        · rw [ab_u_eq, upd_ne _ _ (by omega)]
        · rw [ab_u_ne _ _ (by decide)]
      · intro i hi
        rw [ab_u_eq]
        by_cases e : i = p
        · subst e
          rw [show 12 * i + (h + 1) = 12 * i + h + 1 by omega, upd_eq, ev]
        · rw [upd_ne _ _ (by omega)]
          exact h2 i (by omega)
    have sc1 : zSc d (h + 1) p = if ¬ (zWk d h).2.2.2 p = 0 then 1 else zSc d h p + 1 := by
      unfold zSc
      rw [zPrev_s, zWk_sc]
      by_cases c : (zWk d h).2.2.2 p = 0
      · rw [if_neg (fun z => z.elim (fun q => by omega) (fun q => q c)), if_neg (fun z => z c)]
        rfl
      · rw [if_pos (Or.inr c), if_pos c]
    have one : ∀ z : Int32, z &&& 1 = 0 ∨ z &&& 1 = 1 := fun z => by
      obtain ⟨j, hj, e⟩ := pk_andE z (m := 1) 1 (by decide)
      rcases (show j = 0 ∨ j = 1 by omega) with q | q
      · rw [e, q]; exact Or.inl rfl
      · rw [e, q]; exact Or.inr rfl
    refine ⟨fun c => absurd c (nI_ge (by omega) (by omega)), fun _ => ⟨nI_in_ (by omega), fun c => ⟨nI_in_ (by omega), ?_⟩, fun c => ⟨nI_in_ (by omega), nI_in_ (by omega), ?_⟩⟩⟩
    · intro z1
      refine step 1 ?_
      rw [sc1, if_pos]
      have t : (zBits (zWk d h).2.2.2 (zPcs d)).testBit p = true := by
        rw [c] at bit
        simpa using bit
      exact (bb.mp t).2
    · intro z1
      refine step (zSc d h p + 1) ?_
      rw [sc1, if_neg]
      intro z
      have t := bb.mpr ⟨hp8, z⟩
      rw [t] at bit
      have q := (one _).resolve_right c
      rw [q] at bit
      exact absurd bit (by decide)
/-- behind hour h: where they come next -/
theorem zL_walk_g (hR : zRN d M0) (h : Nat) (hh : h + 1 < zHrs d) (kk : ∀ M, zFr zSL M0 M → zPre d M (h + 1) → zr_X12_walk Q 85 [some (.ref 0), some (.int (nI (h + 1))), none] [] M N) :
    ∀ (r m : Nat) (M : ab_M), m + r = zMen d → zFr zSL M0 M → zWkR d M (h + 1) → (∀ m, m < zMen d → M 31 m = (zWk d h).2.1 m) → (∀ p, p < zPcs d → M 30 (12 * p + (h + 1)) = nI (zSc d (h + 1) p)) → (∀ i, i < m → M 28 (12 * i + (h + 1)) = zCm0 d (h + 1) (zPrev d (h + 1)).1 (zPrev d (h + 1)).2.1 (zSc d (h + 1)) i) → zr_X12_walk Q 237 [some (.ref 0), some (.int (nI h)), some (.int (nI m))] [] M N := by
  obtain ⟨n1, n2, n3, n4, n5, n6, n7, -⟩ := zNI_n hR
  intro r
  induction r with
  | zero =>
    intro m M hm hF hW h1 h2 h3
    refine zv_X12_walk_237 _ _ ?_
    rw [hF 0 (by decide), n3, nI_1]
    exact ⟨fun _ => kk M hF ⟨hW, fun _ => ⟨fun i hi => h3 i (by omega), h1, h2⟩⟩, fun c => absurd (nI_le (by omega) (by omega)) c⟩
  | succ r ih =>
    intro m M hm hF hW h1 h2 h3
    have hm5 : m < zMen d := by omega
    obtain ⟨w1, w2, w3⟩ := hW h (by omega)
    obtain ⟨f0, hf, ef⟩ := zWk_nat hR.2.1 hR.2.2.1 hm5 h
    refine zv_X12_walk_237 _ _ ?_
    have hn : M 0 12 = nI (zMen d) := by rw [hF 0 (by decide), n3]
    rw [hn, e12, nI_1]
    refine ⟨fun c => absurd c (nI_ge (by omega) (by omega)), fun _ => ?_⟩
    have hsc : ∀ p, p < zPcs d → zSc d (h + 1) p ≤ 12 ∧ M 30 (12 * p + (h + 1)) = nI (zSc d (h + 1) p) := fun p hp => ⟨by have := (zSc_le d p (h + 1)).2; omega, h2 p hp⟩
    refine ⟨(d, m, h, f0, zSc d (h + 1)), _, rfl, ⟨rfl, zRN_zfr hR hF (by decide), hm5, by dsimp only; omega, hf, by rw [w1 m hm5]; exact ef, hsc⟩, ?_⟩
    rintro o M2 N2 ⟨rfl, hF2, ho⟩
    have eo := ho (zWk d h).1 (zWk d h).2.1 ef (h1 m hm5).symm
    subst eo
    refine zv_X12_walk_263 _ _ _ _ ?_
    rw [nI_1 (12 * m + h), nI_clamp (show 12 * m + h + 1 < 2 ^ 31 by omega), nI_1]
    refine ⟨nI_in_ (by omega), ?_⟩
    intro z1
    have g28 : M2 28 = M 28 := hF2 28 (by decide)
    have g29 : M2 29 = M 29 := hF2 29 (by decide)
    have g30 : M2 30 = M 30 := hF2 30 (by decide)
    have g31 : M2 31 = M 31 := hF2 31 (by decide)
    refine ih (m + 1) _ (by omega) (zFr_u (zFr_tr hF (zFr_mono hF2 (by decide))) (by decide) _) ?_ ?_ ?_ ?_
    · refine zWkR_mv hW (fun i g hi hg => ?_) (fun q g hq hg => ?_) (fun g hg => ?_)
      · rw [ab_u_eq]; simp only [z1]; rw [upd_ne _ _ (by omega), g28]
      · rw [ab_u_ne _ _ (by decide), g30]
      · rw [ab_u_ne _ _ (by decide), g29]
    · intro i hi
      rw [ab_u_ne _ _ (by decide), g31]
      exact h1 i hi
    · intro p hp
      rw [ab_u_ne _ _ (by decide), g30]
      exact h2 p hp
    · intro i hi
      rw [ab_u_eq]
      simp only [z1]
      by_cases e : i = m
      · subst e
        rw [show 12 * i + (h + 1) = 12 * i + h + 1 by omega, upd_eq]
        rfl
      · rw [upd_ne _ _ (by omega), g28]
        exact h3 i (by omega)
theorem zL_walk_h (hR : zRN d M0) (kk : ∀ M, zFr zSL M0 M → zWkR d M (zHrs d) → Q none M N) : ∀ (r h : Nat) (M : ab_M), h + r = zHrs d → zFr zSL M0 M → zPre d M h → zr_X12_walk Q 85 [some (.ref 0), some (.int (nI h)), none] [] M N := by
  obtain ⟨n1, n2, n3, n4, n5, n6, n7, -⟩ := zNI_n hR
  intro r
  induction r with
  | zero =>
    intro h M hr hF hP
    refine zv_X12_walk_85 _ ?_
    rw [hF 0 (by decide), n5]
    have eh : h = zHrs d := by omega
    subst eh
    exact ⟨fun _ => kk M hF hP.1, fun c => absurd (nI_le (by omega) (by omega)) c⟩
  | succ r ih =>
    intro h M hr hF hP
    have hh : h < zHrs d := by omega
    obtain ⟨p1, p2, p3⟩ := hP.2 hh
    refine zv_X12_walk_85 _ ?_
    rw [hF 0 (by decide), n5]
    refine ⟨fun c => absurd c (nI_ge (by omega) (by omega)), fun _ => ?_⟩
    refine zL_walk_m hR h hh (fun M1 hF1 hW1 hB1 => ?_) (zMen d) 0 M (by omega) hF hP.1 (fun i hi => absurd hi (Nat.not_lt_zero i)) (fun i _ hi => ⟨p1 i hi, p2 i hi⟩) p3
    refine zv_X12_walk_165 _ ?_
    rw [hF1 0 (by decide), n5, nI_1]
    refine ⟨fun c => ?_, fun c => ?_⟩
    · have hle : zHrs d ≤ h + 1 := (nI_leI (by omega) (by omega)).mp c
      exact ih (h + 1) M1 (by omega) hF1 ⟨hW1, fun z => absurd z (by omega)⟩
    · have hlt : h + 1 < zHrs d := Nat.not_le.mp fun z => c (nI_le z (by omega))
      refine zL_walk_s hR h hlt (fun M2 hF2 hW2 hB2 hS2 => ?_) (zPcs d) 0 M1 (by omega) hF1 hW1 hB1 (fun i hi => absurd hi (Nat.not_lt_zero i))
      exact zL_walk_g hR h hlt (fun M3 hF3 hP3 => ih (h + 1) M3 (by omega) hF3 hP3) (zMen d) 0 M2 (by omega) hF2 hW2 hB2 hS2 (fun i hi => absurd hi (Nat.not_lt_zero i))
end Walk
theorem zL_X12_walk {Q : ab_R} {N : ab_N} {d M0 : ab_M} (hR : zRN d M0) (kk : ∀ M, zFr zSL M0 M → zWkR d M (zHrs d) → Q none M N) : zr_X12_walk Q 0 [some (.ref 0)] [] M0 N := by
  obtain ⟨n1, n2, n3, n4, n5, n6, n7, -⟩ := zNI_n hR
  have nb : vp_nar .boolean (0 : Int32) = 0 := by decide
  have lp : ∀ (r p : Nat) (M : ab_M), p + r = zPcs d → zFr zSL M0 M → (∀ m, m < zMen d → M 28 (12 * m) = zCm0 d 0 (zPrev d 0).1 (zPrev d 0).2.1 (zSc d 0) m ∧ M 31 m = 0) → (∀ i, i < p → M 30 (12 * i) = nI 1) → zr_X12_walk Q 59 [some (.ref 0), some (.int (nI p)), none] [] M N := by
    intro r
    induction r with
    | zero =>
      intro p M hp hF h1 h2
      refine zv_X12_walk_59 _ ?_
      rw [hF 0 (by decide), n1]
      refine ⟨fun _ => ?_, fun c => absurd (nI_le (by omega) (by omega)) c⟩
      refine zL_walk_h hR kk (zHrs d) 0 M (by omega) hF ⟨fun g hg => absurd hg (Nat.not_lt_zero g), fun _ => ⟨fun m hm => (h1 m hm).1, fun m hm => (h1 m hm).2, fun p hp => ?_⟩⟩
      rw [Nat.add_zero, h2 p (by omega)]
      rfl
    | succ r ih =>
      intro p M hp hF h1 h2
      refine zv_X12_walk_59 _ ?_
      have hn : M 0 7 = nI (zPcs d) := by rw [hF 0 (by decide), n1]
      have e : (12 : Int32) * nI p = nI (12 * p) := by rw [show (12 : Int32) = nI 12 from rfl, pk_mul]
      rw [hn, e, nI_clamp (show 12 * p < 2 ^ 31 by omega), nI_1]
      refine ⟨fun c => absurd c (nI_ge (by omega) (by omega)), fun _ => ⟨nI_in_ (by omega), ?_⟩⟩
      intro z1
      refine ih (p + 1) _ (by omega) (zFr_u hF (by decide) _) (fun m hm => by rw [ab_u_ne _ _ (by decide), ab_u_ne _ _ (by decide)]; exact h1 m hm) (fun i hi => ?_)
      rw [ab_u_eq]
      simp only [z1]
      by_cases e : i = p
      · subst e; rw [upd_eq]; rfl
      · rw [upd_ne _ _ (by omega)]; exact h2 i (by omega)
  have lm : ∀ (r m : Nat) (M : ab_M), m + r = zMen d → zFr zSL M0 M → (∀ i, i < m → M 28 (12 * i) = zCm0 d 0 (zPrev d 0).1 (zPrev d 0).2.1 (zSc d 0) i ∧ M 31 i = 0) → zr_X12_walk Q 2 [some (.ref 0), some (.int (nI m)), none] [] M N := by
    intro r
    induction r with
    | zero =>
      intro m M hm hF h1
      refine zv_X12_walk_2 _ ?_
      rw [hF 0 (by decide), n3]
      exact ⟨fun _ => lp (zPcs d) 0 M (by omega) hF (fun i hi => h1 i (by omega)) (fun i hi => absurd hi (Nat.not_lt_zero i)), fun c => absurd (nI_le (by omega) (by omega)) c⟩
    | succ r ih =>
      intro m M hm hF h1
      have hm5 : m < zMen d := by omega
      have hRM := zRN_zfr hR hF (show ∀ c ∈ zSL, 25 ≤ c by decide)
      refine zv_X12_walk_2 _ ?_
      have hn : M 0 12 = nI (zMen d) := by rw [hF 0 (by decide), n3]
      have e : (12 : Int32) * nI m = nI (12 * m) := by rw [show (12 : Int32) = nI 12 from rfl, pk_mul]
      rw [hn, e, nI_clamp (show 12 * m < 2 ^ 31 by omega), nI_clamp (show m < 2 ^ 31 by omega), nI_1, nb]
      have hin : vp_in (nI m) 5 := nI_in_ (by omega)
      have step : ∀ v : Int32, v = zCm0 d 0 (zPrev d 0).1 (zPrev d 0).2.1 (zSc d 0) m → zr_X12_walk Q 2 [some (.ref 0), some (.int (nI (m + 1))), none] [] (ab_u (ab_u M 28 (upd (M 28) (12 * m) v)) 31 (upd (M 31) m 0)) N := by
        intro v ev
        refine ih (m + 1) _ (by omega) (zFr_u (zFr_u hF (by decide) _) (by decide) _) (fun i hi => ?_)
        rw [ab_u_ne _ _ (by decide), ab_u_eq, ab_u_eq]
        by_cases e : i = m
        · subst e
          rw [upd_eq, upd_eq]
          exact ⟨ev, rfl⟩
        · rw [upd_ne _ _ (by omega), upd_ne _ _ e]
          exact h1 i (by omega)
      have c0 : zCm0 d 0 (zPrev d 0).1 (zPrev d 0).2.1 (zSc d 0) m = if d 25 m = 4 then d 27 m else d 26 m := by
        unfold zCm0
        rw [if_pos rfl]
      have r25 : d 25 m = M 6 m := by rw [hRM.1.2.1.2.2.2.2.2.1]
      refine ⟨fun c => absurd c (nI_ge (by omega) (by omega)), fun _ => ⟨hin, fun c => ⟨hin, nI_in_ (by omega), ?_⟩, fun c => ⟨hin, nI_in_ (by omega), ?_⟩⟩⟩
      · intro z1
        refine ⟨hin, ?_⟩
        intro z2
        exact step _ (by rw [c0, r25, if_pos c, hRM.1.2.1.2.2.2.2.2.2.2.1])
      · intro z1
        refine ⟨hin, ?_⟩
        intro z2
        exact step _ (by rw [c0, r25, if_neg c, hRM.1.2.1.2.2.2.2.2.2.1])
  exact zv_X12_walk_0 (lm (zMen d) 0 M0 (by omega) (zFr_rf _ _) (fun i hi => absurd hi (Nat.not_lt_zero i)))
theorem zE_X12_walk (as : List Value) (M : ab_M) (N : ab_N) (k : ab_R) (hT : zt_X12_walk as M N k) : ab_cs as ≤ 3 ∧ zr_X12_walk k 0 (ab_en as) [] M N := by
  obtain ⟨d, r, rfl, ⟨rfl, hR⟩, hk⟩ := hT
  exact ⟨Nat.le_of_ble_eq_true rfl, zL_X12_walk hR (fun M2 hF hW => hk _ _ _ ⟨rfl, rfl, hF, hW⟩)⟩
abbrev zR_X12_walk : Room := { frames := 6, cells := 0, slots := 0, locals := 144 }
set_option maxRecDepth 20000 in
theorem zM_X12_walk (l : Launch) : ab_Met l zw_M vwCl zZ_M yX12_walk cX12_walk 3 none zR_X12_walk zt_X12_walk := ab_ofRun (G := zg_X12_walk) (P := zp_X12_walk) rfl zo_X12_walk (by decide +kernel) zl_cl zl_lamM zf_X12_ok ab_Tab_nil zc_X12_ok ab_Sta_nil (List.forall_mem_cons.mpr ⟨ab_callV zZ_M_ok (zM_X12_turns l) (ab_in 1321 (by decide +kernel) rfl) (ab_in 1318 (by decide +kernel) rfl) (ab_in 1320 (by decide +kernel) rfl) (ab_inS (List.mem_of_getElem? (i := 42) (by decide +kernel)) rfl) (ab_in 17 (by decide +kernel) rfl) (by unfold ab_yok; decide +kernel) ⟨rfl, rfl⟩ (by decide) zV_X12_turns, List.forall_mem_cons.mpr ⟨ab_callV zZ_M_ok (zM_X12_looks l) (ab_in 1325 (by decide +kernel) rfl) (ab_in 1322 (by decide +kernel) rfl) (ab_in 1324 (by decide +kernel) rfl) (ab_inS (List.mem_of_getElem? (i := 43) (by decide +kernel)) rfl) (ab_in 17 (by decide +kernel) rfl) (by unfold ab_yok; decide +kernel) ⟨rfl, rfl⟩ (by decide) zV_X12_looks, List.forall_mem_cons.mpr ⟨ab_callV zZ_M_ok (zM_X12_goesTo l) (ab_in 1337 (by decide +kernel) rfl) (ab_in 1334 (by decide +kernel) rfl) (ab_in 1336 (by decide +kernel) rfl) (ab_inS (List.mem_of_getElem? (i := 46) (by decide +kernel)) rfl) (ab_in 17 (by decide +kernel) rfl) (by unfold ab_yok; decide +kernel) ⟨rfl, rfl⟩ (by decide) zV_X12_goesTo, List.forall_mem_nil _⟩⟩⟩) (List.forall_mem_nil _) zE_X12_walk
