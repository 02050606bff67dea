/-! man of the reference *)
-/
def zt_X12_man : ab_T := ab_lq (α := Nat × Nat × Int32 × Int32 × Int32 × Int32) (fun x r M _ => r = [.int x.2.2.1, .int x.2.2.2.1, .int x.2.2.2.2.1, .int x.2.2.2.2.2] ∧ M 0 7 = nI x.1 ∧ x.1 ≤ 8 ∧ M 0 12 = nI x.2.1 ∧ x.2.1 ≤ 5)
  (fun x M N o M2 N2 => N2 = N ∧ M2 = zMnM M x.1 x.2.1 x.2.2.1 x.2.2.2.1 x.2.2.2.2.1 x.2.2.2.2.2 ∧ o = some (.int (zMnA M x.1 x.2.1 x.2.2.1 x.2.2.2.1 x.2.2.2.2.1 x.2.2.2.2.2)))
theorem zt_X12_man_mono : ab_mono zt_X12_man := ab_lq_mono _ _
theorem zV_X12_man : ab_recv zw_M vwCl RX12 zt_X12_man := ab_lq_v
def zp_X12_man : ab_P := [(0, .iload_n 2, 1, [2], []),
  (1, .ifCond .lt 53, 4, [54], []),
  (4, .aload_n 0, 5, [0], []),
  (5, .iload_n 2, 6, [2], []),
  (6, .bipush 10, 8, [], [10]),
  (8, .idiv, 9, [], []),
  (9, .invokevirtual 182, 12, [], []),
  (12, .ifCond .eq 42, 15, [54], []),
  (15, .aload_n 0, 16, [0], []),
  (16, .iload_n 2, 17, [2], []),
  (17, .bipush 10, 19, [], [10]),
  (19, .irem, 20, [], []),
  (20, .invokevirtual 182, 23, [], []),
  (23, .ifCond .eq 31, 26, [54], []),
  (26, .iload_n 3, 27, [3], []),
  (27, .ifCond .lt 27, 30, [54], []),
  (30, .iload_n 3, 31, [3], []),
  (31, .bipush 10, 33, [], [10]),
  (33, .idiv, 34, [], []),
  (34, .iconst 1, 35, [], [1]),
  (35, .iconst 3, 36, [], [3]),
  (36, .invokestatic 175, 39, [], []),
  (39, .ifCond .eq 15, 42, [54], []),
  (42, .iload_n 3, 43, [3], []),
  (43, .bipush 10, 45, [], [10]),
  (45, .irem, 46, [], []),
  (46, .iconst 5, 47, [], [5]),
  (47, .if_icmp .gt 7, 50, [54], []),
  (50, .iconst 1, 51, [], [1]),
  (51, .goto 4, 54, [55], []),
  (54, .iconst 0, 55, [], [0]),
  (55, .istore 5, 57, [], []),
  (57, .iload_n 1, 58, [1], []),
  (58, .iconst 0, 59, [], [0]),
  (59, .iconst 5, 60, [], [5]),
  (60, .invokestatic 175, 63, [], []),
  (63, .ifCond .eq 23, 66, [86], []),
  (66, .iload 5, 68, [], []),
  (68, .ifCond .eq 18, 71, [86], []),
  (71, .iload_n 1, 72, [1], []),
  (72, .iconst 3, 73, [], [3]),
  (73, .if_icmp .ne 16, 76, [89], []),
  (76, .iload 4, 78, [], []),
  (78, .iconst 0, 79, [], [0]),
  (79, .iconst 3, 80, [], [3]),
  (80, .invokestatic 175, 83, [], []),
  (83, .ifCond .ne 6, 86, [89], []),
  (86, .bipush (-2), 88, [], [(-2)]),
  (88, .ireturn, 89, [], []),
  (89, .iload 4, 91, [], []),
  (91, .iconst 0, 92, [], [0]),
  (92, .iconst 3, 93, [], [3]),
  (93, .invokestatic 175, 96, [], []),
  (96, .ifCond .eq 8, 99, [104], []),
  (99, .iload 4, 101, [], []),
  (101, .goto 4, 104, [105], []),
  (104, .iconst 0, 105, [], [0]),
  (105, .istore 6, 107, [], []),
  (107, .iload_n 1, 108, [1], []),
  (108, .iconst 3, 109, [], [3]),
  (109, .if_icmp .ne 17, 112, [126], []),
  (112, .aload_n 0, 113, [0], []),
  (113, .getfield 98, 116, [], []),
  (116, .iload 6, 118, [], []),
  (118, .iaload, 119, [], []),
  (119, .iconst (-1), 120, [], [(-1)]),
  (120, .if_icmp .ne 6, 123, [126], []),
  (123, .bipush (-11), 125, [], [(-11)]),
  (125, .ireturn, 126, [], []),
  (126, .iload_n 1, 127, [1], []),
  (127, .iconst 3, 128, [], [3]),
  (128, .if_icmp .ne 15, 131, [143], []),
  (131, .aload_n 0, 132, [0], []),
  (132, .getfield 101, 135, [], []),
  (135, .iload 6, 137, [], []),
  (137, .iaload, 138, [], []),
  (138, .bipush 12, 140, [], [12]),
  (140, .if_icmp .ne 7, 143, [147], []),
  (143, .iconst 1, 144, [], [1]),
  (144, .goto 4, 147, [148], []),
  (147, .iconst 0, 148, [], [0]),
  (148, .istore 5, 150, [], []),
  (150, .iconst 0, 151, [], [0]),
  (151, .istore 7, 153, [], []),
  (153, .iload 7, 155, [], []),
  (155, .bipush 12, 157, [], [12]),
  (157, .if_icmp .ge 40, 160, [197], []),
  (160, .iload 5, 162, [], []),
  (162, .ifCond .eq 35, 165, [197], []),
  (165, .iload_n 1, 166, [1], []),
  (166, .iconst 3, 167, [], [3]),
  (167, .if_icmp .ne 30, 170, [197], []),
  (170, .aload_n 0, 171, [0], []),
  (171, .getfield 104, 174, [], []),
  (174, .bipush 40, 176, [], [40]),
  (176, .iload 6, 178, [], []),
  (178, .imul, 179, [], []),
  (179, .iload 7, 181, [], []),
  (181, .iadd, 182, [], []),
  (182, .iaload, 183, [], []),
  (183, .iconst 0, 184, [], [0]),
  (184, .bipush 7, 186, [], [7]),
  (186, .invokestatic 175, 189, [], []),
  (189, .istore 5, 191, [], []),
  (191, .iinc 7 1, 194, [], [1]),
  (194, .goto (-41), 197, [153], []),
  (197, .iload 5, 199, [], []),
  (199, .ifCond .ne 6, 202, [205], []),
  (202, .bipush (-2), 204, [], [(-2)]),
  (204, .ireturn, 205, [], []),
  (205, .aload_n 0, 206, [0], []),
  (206, .getfield 179, 209, [], []),
  (209, .iconst 5, 210, [], [5]),
  (210, .if_icmp .ne 6, 213, [216], []),
  (213, .bipush (-4), 215, [], [(-4)]),
  (215, .ireturn, 216, [], []),
  (216, .aload_n 0, 217, [0], []),
  (217, .getfield 41, 220, [], []),
  (220, .aload_n 0, 221, [0], []),
  (221, .getfield 179, 224, [], []),
  (224, .iload_n 1, 225, [1], []),
  (225, .iastore, 226, [], []),
  (226, .aload_n 0, 227, [0], []),
  (227, .getfield 44, 230, [], []),
  (230, .aload_n 0, 231, [0], []),
  (231, .getfield 179, 234, [], []),
  (234, .iload_n 2, 235, [2], []),
  (235, .bipush 10, 237, [], [10]),
  (237, .idiv, 238, [], []),
  (238, .iastore, 239, [], []),
  (239, .aload_n 0, 240, [0], []),
  (240, .getfield 47, 243, [], []),
  (243, .aload_n 0, 244, [0], []),
  (244, .getfield 179, 247, [], []),
  (247, .iload_n 2, 248, [2], []),
  (248, .bipush 10, 250, [], [10]),
  (250, .irem, 251, [], []),
  (251, .iastore, 252, [], []),
  (252, .aload_n 0, 253, [0], []),
  (253, .getfield 50, 256, [], []),
  (256, .aload_n 0, 257, [0], []),
  (257, .getfield 179, 260, [], []),
  (260, .iload_n 3, 261, [3], []),
  (261, .bipush 10, 263, [], [10]),
  (263, .idiv, 264, [], []),
  (264, .iastore, 265, [], []),
  (265, .aload_n 0, 266, [0], []),
  (266, .getfield 53, 269, [], []),
  (269, .aload_n 0, 270, [0], []),
  (270, .getfield 179, 273, [], []),
  (273, .iload_n 3, 274, [3], []),
  (274, .bipush 10, 276, [], [10]),
  (276, .irem, 277, [], []),
  (277, .iastore, 278, [], []),
  (278, .iconst 0, 279, [], [0]),
  (279, .istore 7, 281, [], []),
  (281, .iload 7, 283, [], []),
  (283, .bipush 12, 285, [], [12]),
  (285, .if_icmp .ge 46, 288, [331], []),
  (288, .aload_n 0, 289, [0], []),
  (289, .getfield 56, 292, [], []),
  (292, .bipush 12, 294, [], [12]),
  (294, .aload_n 0, 295, [0], []),
  (295, .getfield 179, 298, [], []),
  (298, .imul, 299, [], []),
  (299, .iload 7, 301, [], []),
  (301, .iadd, 302, [], []),
  (302, .iload_n 1, 303, [1], []),
  (303, .iconst 3, 304, [], [3]),
  (304, .if_icmp .ne 19, 307, [323], []),
  (307, .aload_n 0, 308, [0], []),
  (308, .getfield 104, 311, [], []),
  (311, .bipush 40, 313, [], [40]),
  (313, .iload 6, 315, [], []),
  (315, .imul, 316, [], []),
  (316, .iload 7, 318, [], []),
  (318, .iadd, 319, [], []),
  (319, .iaload, 320, [], []),
  (320, .goto 4, 323, [324], []),
  (323, .iconst 0, 324, [], [0]),
  (324, .iastore, 325, [], []),
  (325, .iinc 7 1, 328, [], [1]),
  (328, .goto (-47), 331, [281], []),
  (331, .aload_n 0, 332, [0], []),
  (332, .dup, 333, [], []),
  (333, .getfield 179, 336, [], []),
  (336, .iconst 1, 337, [], [1]),
  (337, .iadd, 338, [], []),
  (338, .putfield 179, 341, [], []),
  (341, .aload_n 0, 342, [0], []),
  (342, .getfield 179, 345, [], []),
  (345, .iconst 1, 346, [], [1]),
  (346, .isub, 347, [], []),
  (347, .ireturn, 348, [], [])]
theorem zo_X12_man : ab_ok cX12_man zp_X12_man = true := by decide +kernel
def zg_X12_man : ab_G := (zw_M, [], zf_X12, zc_X12, [], [(182, 2, zt_X12_isPiece)], [(175, 3, zt_X12_in)])
theorem zm_X12_man : ab_MG zg_X12_man := ab_MGof (List.forall_mem_cons.mpr ⟨ab_pure_mono _, List.forall_mem_nil _⟩) (List.forall_mem_cons.mpr ⟨ab_pure_mono _, List.forall_mem_nil _⟩)
abbrev zr_X12_man (Q : ab_R) : ab_K := ab_Run zg_X12_man zp_X12_man (some .int) 8 Q
set_option maxRecDepth 20000 in
theorem zv_X12_man_0 {Q : ab_R} {M : ab_M} {N : ab_N} (l1 : Int32) (l2 : Int32) (l3 : Int32) (l4 : Int32) (h : (l2 < 0 → zr_X12_man Q 55 [some (.ref 0), some (.int l1), some (.int l2), some (.int l3), some (.int l4), none, none, none] [.int (0 : Int32)] M N) ∧ (¬ (l2 < 0) → ¬ (10 : Int32) = 0 ∧ (((ab_b (0 ≤ (l2 / (10 : Int32)) ∧ (l2 / (10 : Int32)) ≤ (M 0) 7 - 1)) = 0 → zr_X12_man Q 55 [some (.ref 0), some (.int l1), some (.int l2), some (.int l3), some (.int l4), none, none, none] [.int (0 : Int32)] M N) ∧ (¬ ((ab_b (0 ≤ (l2 / (10 : Int32)) ∧ (l2 / (10 : Int32)) ≤ (M 0) 7 - 1)) = 0) → ¬ (10 : Int32) = 0 ∧ (((ab_b (0 ≤ (l2 - l2 / (10 : Int32) * (10 : Int32)) ∧ (l2 - l2 / (10 : Int32) * (10 : Int32)) ≤ (M 0) 7 - 1)) = 0 → zr_X12_man Q 55 [some (.ref 0), some (.int l1), some (.int l2), some (.int l3), some (.int l4), none, none, none] [.int (0 : Int32)] M N) ∧ (¬ ((ab_b (0 ≤ (l2 - l2 / (10 : Int32) * (10 : Int32)) ∧ (l2 - l2 / (10 : Int32) * (10 : Int32)) ≤ (M 0) 7 - 1)) = 0) → (l3 < 0 → zr_X12_man Q 55 [some (.ref 0), some (.int l1), some (.int l2), some (.int l3), some (.int l4), none, none, none] [.int (0 : Int32)] M N) ∧ (¬ (l3 < 0) → ¬ (10 : Int32) = 0 ∧ (((ab_b ((1 : Int32) ≤ (l3 / (10 : Int32)) ∧ (l3 / (10 : Int32)) ≤ (3 : Int32))) = 0 → zr_X12_man Q 55 [some (.ref 0), some (.int l1), some (.int l2), some (.int l3), some (.int l4), none, none, none] [.int (0 : Int32)] M N) ∧ (¬ ((ab_b ((1 : Int32) ≤ (l3 / (10 : Int32)) ∧ (l3 / (10 : Int32)) ≤ (3 : Int32))) = 0) → ¬ (10 : Int32) = 0 ∧ (((5 : Int32) < (l3 - l3 / (10 : Int32) * (10 : Int32)) → zr_X12_man Q 55 [some (.ref 0), some (.int l1), some (.int l2), some (.int l3), some (.int l4), none, none, none] [.int (0 : Int32)] M N) ∧ (¬ ((5 : Int32) < (l3 - l3 / (10 : Int32) * (10 : Int32))) → zr_X12_man Q 55 [some (.ref 0), some (.int l1), some (.int l2), some (.int l3), some (.int l4), none, none, none] [.int (1 : Int32)] M N))))))))))) : zr_X12_man Q 0 [some (.ref 0), some (.int l1), some (.int l2), some (.int l3), some (.int l4)] [] M N := ab_Run_s zm_X12_man (sp := [(55, [true, true, true, true, true, false, false, false]), (105, [true, true, true, true, false, false, false, false]), (126, [true, true, true, true, false, false, true, false]), (153, [true, true, true, true, false, true, true, true]), (197, [true, true, true, true, false, true, true, false]), (281, [true, true, false, false, false, false, true, true])]) 196 h
set_option maxRecDepth 20000 in
theorem zv_X12_man_55 {Q : ab_R} {M : ab_M} {N : ab_N} (l1 : Int32) (l2 : Int32) (l3 : Int32) (l4 : Int32) (s0 : Int32) (h : ((ab_b ((0 : Int32) ≤ l1 ∧ l1 ≤ (5 : Int32))) = 0 → Q (some (.int (-2 : Int32))) M N) ∧ (¬ ((ab_b ((0 : Int32) ≤ l1 ∧ l1 ≤ (5 : Int32))) = 0) → (s0 = 0 → Q (some (.int (-2 : Int32))) M N) ∧ (¬ (s0 = 0) → (l1 = (3 : Int32) → ((ab_b ((0 : Int32) ≤ l4 ∧ l4 ≤ (3 : Int32))) = 0 → Q (some (.int (-2 : Int32))) M N) ∧ (¬ ((ab_b ((0 : Int32) ≤ l4 ∧ l4 ≤ (3 : Int32))) = 0) → ((ab_b ((0 : Int32) ≤ l4 ∧ l4 ≤ (3 : Int32))) = 0 → zr_X12_man Q 105 [some (.ref 0), some (.int l1), some (.int l2), some (.int l3), none, none, none, none] [.int (0 : Int32)] M N) ∧ (¬ ((ab_b ((0 : Int32) ≤ l4 ∧ l4 ≤ (3 : Int32))) = 0) → zr_X12_man Q 105 [some (.ref 0), some (.int l1), some (.int l2), some (.int l3), none, none, none, none] [.int l4] M N))) ∧ (¬ (l1 = (3 : Int32)) → ((ab_b ((0 : Int32) ≤ l4 ∧ l4 ≤ (3 : Int32))) = 0 → zr_X12_man Q 105 [some (.ref 0), some (.int l1), some (.int l2), some (.int l3), none, none, none, none] [.int (0 : Int32)] M N) ∧ (¬ ((ab_b ((0 : Int32) ≤ l4 ∧ l4 ≤ (3 : Int32))) = 0) → zr_X12_man Q 105 [some (.ref 0), some (.int l1), some (.int l2), some (.int l3), none, none, none, none] [.int l4] M N))))) : zr_X12_man Q 55 [some (.ref 0), some (.int l1), some (.int l2), some (.int l3), some (.int l4), none, none, none] [.int s0] M N := ab_Run_s zm_X12_man (sp := [(55, [true, true, true, true, true, false, false, false]), (105, [true, true, true, true, false, false, false, false]), (126, [true, true, true, true, false, false, true, false]), (153, [true, true, true, true, false, true, true, true]), (197, [true, true, true, true, false, true, true, false]), (281, [true, true, false, false, false, false, true, true])]) 196 h
set_option maxRecDepth 20000 in
theorem zv_X12_man_105 {Q : ab_R} {M : ab_M} {N : ab_N} (l1 : Int32) (l2 : Int32) (l3 : Int32) (s0 : Int32) (h : (l1 = (3 : Int32) → vp_in s0 4 ∧ (((M 21 s0.toNatClampNeg) = (-1 : Int32) → Q (some (.int (-11 : Int32))) M N) ∧ (¬ ((M 21 s0.toNatClampNeg) = (-1 : Int32)) → zr_X12_man Q 126 [some (.ref 0), some (.int l1), some (.int l2), some (.int l3), none, none, some (.int s0), none] [] M N))) ∧ (¬ (l1 = (3 : Int32)) → zr_X12_man Q 126 [some (.ref 0), some (.int l1), some (.int l2), some (.int l3), none, none, some (.int s0), none] [] M N)) : zr_X12_man Q 105 [some (.ref 0), some (.int l1), some (.int l2), some (.int l3), none, none, none, none] [.int s0] M N := ab_Run_s zm_X12_man (sp := [(55, [true, true, true, true, true, false, false, false]), (105, [true, true, true, true, false, false, false, false]), (126, [true, true, true, true, false, false, true, false]), (153, [true, true, true, true, false, true, true, true]), (197, [true, true, true, true, false, true, true, false]), (281, [true, true, false, false, false, false, true, true])]) 196 h
set_option maxRecDepth 20000 in
theorem zv_X12_man_126 {Q : ab_R} {M : ab_M} {N : ab_N} (l1 : Int32) (l2 : Int32) (l3 : Int32) (l6 : Int32) (h : (l1 = (3 : Int32) → vp_in l6 4 ∧ (((M 22 l6.toNatClampNeg) = (12 : Int32) → zr_X12_man Q 153 [some (.ref 0), some (.int l1), some (.int l2), some (.int l3), none, some (.int (1 : Int32)), some (.int l6), some (.int (0 : Int32))] [] M N) ∧ (¬ ((M 22 l6.toNatClampNeg) = (12 : Int32)) → zr_X12_man Q 153 [some (.ref 0), some (.int l1), some (.int l2), some (.int l3), none, some (.int (0 : Int32)), some (.int l6), some (.int (0 : Int32))] [] M N))) ∧ (¬ (l1 = (3 : Int32)) → zr_X12_man Q 153 [some (.ref 0), some (.int l1), some (.int l2), some (.int l3), none, some (.int (1 : Int32)), some (.int l6), some (.int (0 : Int32))] [] M N)) : zr_X12_man Q 126 [some (.ref 0), some (.int l1), some (.int l2), some (.int l3), none, none, some (.int l6), none] [] M N := ab_Run_s zm_X12_man (sp := [(55, [true, true, true, true, true, false, false, false]), (105, [true, true, true, true, false, false, false, false]), (126, [true, true, true, true, false, false, true, false]), (153, [true, true, true, true, false, true, true, true]), (197, [true, true, true, true, false, true, true, false]), (281, [true, true, false, false, false, false, true, true])]) 196 h
set_option maxRecDepth 20000 in
theorem zv_X12_man_153 {Q : ab_R} {M : ab_M} {N : ab_N} (l1 : Int32) (l2 : Int32) (l3 : Int32) (l5 : Int32) (l6 : Int32) (l7 : Int32) (h : ((12 : Int32) ≤ l7 → zr_X12_man Q 197 [some (.ref 0), some (.int l1), some (.int l2), some (.int l3), none, some (.int l5), some (.int l6), none] [] M N) ∧ (¬ ((12 : Int32) ≤ l7) → (l5 = 0 → zr_X12_man Q 197 [some (.ref 0), some (.int l1), some (.int l2), some (.int l3), none, some (.int l5), some (.int l6), none] [] M N) ∧ (¬ (l5 = 0) → (l1 = (3 : Int32) → vp_in (((40 : Int32) * l6) + l7) 160 ∧ (zr_X12_man Q 153 [some (.ref 0), some (.int l1), some (.int l2), some (.int l3), none, some (.int (ab_b ((0 : Int32) ≤ (M 23 (((40 : Int32) * l6) + l7).toNatClampNeg) ∧ (M 23 (((40 : Int32) * l6) + l7).toNatClampNeg) ≤ (7 : Int32)))), some (.int l6), some (.int (l7 + (1 : Int32)))] [] M N)) ∧ (¬ (l1 = (3 : Int32)) → zr_X12_man Q 197 [some (.ref 0), some (.int l1), some (.int l2), some (.int l3), none, some (.int l5), some (.int l6), none] [] M N)))) : zr_X12_man Q 153 [some (.ref 0), some (.int l1), some (.int l2), some (.int l3), none, some (.int l5), some (.int l6), some (.int l7)] [] M N := ab_Run_s zm_X12_man (sp := [(55, [true, true, true, true, true, false, false, false]), (105, [true, true, true, true, false, false, false, false]), (126, [true, true, true, true, false, false, true, false]), (153, [true, true, true, true, false, true, true, true]), (197, [true, true, true, true, false, true, true, false]), (281, [true, true, false, false, false, false, true, true])]) 196 h
set_option maxRecDepth 20000 in
theorem zv_X12_man_197 {Q : ab_R} {M : ab_M} {N : ab_N} (l1 : Int32) (l2 : Int32) (l3 : Int32) (l5 : Int32) (l6 : Int32) (h : (l5 = 0 → Q (some (.int (-2 : Int32))) M N) ∧ (¬ (l5 = 0) → ((M 0 12) = (5 : Int32) → Q (some (.int (-4 : Int32))) M N) ∧ (¬ ((M 0 12) = (5 : Int32)) → vp_in (M 0 12) 5 ∧ (let z1 : Nat → Int32 := upd (M 6) (M 0 12).toNatClampNeg l1; ¬ (10 : Int32) = 0 ∧ (vp_in (M 0 12) 5 ∧ (let z2 : Nat → Int32 := upd (M 7) (M 0 12).toNatClampNeg (l2 / (10 : Int32)); ¬ (10 : Int32) = 0 ∧ (vp_in (M 0 12) 5 ∧ (let z3 : Nat → Int32 := upd (M 8) (M 0 12).toNatClampNeg (l2 - l2 / (10 : Int32) * (10 : Int32)); ¬ (10 : Int32) = 0 ∧ (vp_in (M 0 12) 5 ∧ (let z4 : Nat → Int32 := upd (M 9) (M 0 12).toNatClampNeg (l3 / (10 : Int32)); ¬ (10 : Int32) = 0 ∧ (vp_in (M 0 12) 5 ∧ (let z5 : Nat → Int32 := upd (M 10) (M 0 12).toNatClampNeg (l3 - l3 / (10 : Int32) * (10 : Int32)); zr_X12_man Q 281 [some (.ref 0), some (.int l1), none, none, none, none, some (.int l6), some (.int (0 : Int32))] [] (ab_u (ab_u (ab_u (ab_u (ab_u M 6 z1) 7 z2) 8 z3) 9 z4) 10 z5) N)))))))))))) : zr_X12_man Q 197 [some (.ref 0), some (.int l1), some (.int l2), some (.int l3), none, some (.int l5), some (.int l6), none] [] M N := ab_Run_s zm_X12_man (sp := [(55, [true, true, true, true, true, false, false, false]), (105, [true, true, true, true, false, false, false, false]), (126, [true, true, true, true, false, false, true, false]), (153, [true, true, true, true, false, true, true, true]), (197, [true, true, true, true, false, true, true, false]), (281, [true, true, false, false, false, false, true, true])]) 196 h
set_option maxRecDepth 20000 in
theorem zv_X12_man_281 {Q : ab_R} {M : ab_M} {N : ab_N} (l1 : Int32) (l6 : Int32) (l7 : Int32) (h : ((12 : Int32) ≤ l7 → let z1 : Nat → Int32 := upd (M 0) 12 ((M 0 12) + (1 : Int32)); Q (some (.int ((z1 12) - (1 : Int32)))) (ab_u M 0 z1) N) ∧ (¬ ((12 : Int32) ≤ l7) → (l1 = (3 : Int32) → vp_in (((40 : Int32) * l6) + l7) 160 ∧ (vp_in (((12 : Int32) * (M 0 12)) + l7) 60 ∧ (let z2 : Nat → Int32 := upd (M 11) (((12 : Int32) * (M 0 12)) + l7).toNatClampNeg (M 23 (((40 : Int32) * l6) + l7).toNatClampNeg); zr_X12_man Q 281 [some (.ref 0), some (.int l1), none, none, none, none, some (.int l6), some (.int (l7 + (1 : Int32)))] [] (ab_u M 11 z2) N))) ∧ (¬ (l1 = (3 : Int32)) → vp_in (((12 : Int32) * (M 0 12)) + l7) 60 ∧ (let z3 : Nat → Int32 := upd (M 11) (((12 : Int32) * (M 0 12)) + l7).toNatClampNeg (0 : Int32); zr_X12_man Q 281 [some (.ref 0), some (.int l1), none, none, none, none, some (.int l6), some (.int (l7 + (1 : Int32)))] [] (ab_u M 11 z3) N)))) : zr_X12_man Q 281 [some (.ref 0), some (.int l1), none, none, none, none, some (.int l6), some (.int l7)] [] M N := ab_Run_s zm_X12_man (sp := [(55, [true, true, true, true, true, false, false, false]), (105, [true, true, true, true, false, false, false, false]), (126, [true, true, true, true, false, false, true, false]), (153, [true, true, true, true, false, true, true, true]), (197, [true, true, true, true, false, true, true, false]), (281, [true, true, false, false, false, false, true, true])]) 196 h
theorem zL_X12_man_b {Q : ab_R} {N : ab_N} {k s : Int32} {mn : Nat} (hm : mn < 5) (g f : Nat → Int32) : ∀ (r i : Nat) (M : ab_M), i + r = 12 → M 11 = zMnT g mn i f → M 0 12 = nI mn → (k = 3 → (0 ≤ s ∧ s ≤ 3) ∧ ∀ j, g j = M 23 (40 * s.toNatClampNeg + j)) → (¬ k = 3 → ∀ j, g j = 0) → Q (some (.int (nI mn))) (ab_u (ab_u M 11 (zMnT g mn 12 f)) 0 (upd (M 0) 12 (nI (mn + 1)))) N → zr_X12_man Q 281 [some (.ref 0), some (.int k), none, none, none, none, some (.int s), some (.int (nI i))] [] M N := by
  intro r
  induction r with
  | zero =>
    intro i M hi hf h12 _ _ hk
    have e : i = 12 := by omega
    subst e
    rw [← hf, ab_u_self] at hk
    refine zv_X12_man_281 _ _ _ ⟨fun _ => ?_, fun z => absurd (nI_le (Nat.le_refl _) (by decide)) z⟩
    rw [h12, nI_1]
    show Q (some (.int (upd (M 0) 12 (nI (mn + 1)) 12 - 1))) _ _
    rw [upd_eq, nI_pred]
    exact hk
  | succ r ih =>
    intro i M hi hf h12 h3 hn3 hk
    refine zv_X12_man_281 _ _ _ ⟨fun z => absurd z (nI_ge (a := i) (b := 12) (by omega) (by decide)), fun _ => ?_⟩
    rw [h12, Int32.mul_comm 12, zN_mul mn 12 12, nI_add, nI_clamp (show mn * 12 + i < 2 ^ 31 by omega), nI_1, Nat.mul_comm mn 12]
    have hin : vp_in (nI (12 * mn + i)) 60 := nI_in_ (by omega)
    refine ⟨fun c => ?_, fun c => ?_⟩
    · obtain ⟨s4, hg⟩ := h3 c
      obtain ⟨q, hq, rfl⟩ := zQ4_n s4
      have cq : (nI q).toNatClampNeg = q := nI_clamp (by omega)
      rw [cq] at hg
      rw [zSh_i, nI_clamp (show 40 * q + i < 2 ^ 31 by omega), ← hg i, hf, zMnT_s]
      refine ⟨nI_in_ (by omega), hin, ?_⟩
      intro z1
      refine ih (i + 1) _ (by omega) (ab_u_eq _ _ _) ?_ ?_ hn3 ?_
      · rw [ab_u_ne _ _ (show (0 : Nat) ≠ 11 by decide)]
        exact h12
      · intro _
        rw [ab_u_ne _ _ (show (23 : Nat) ≠ 11 by decide), cq]
        exact ⟨s4, hg⟩
      · rw [ab_u_u, ab_u_ne _ _ (show (0 : Nat) ≠ 11 by decide)]
        exact hk
    · have e0 : (0 : Int32) = g i := (hn3 c i).symm
      rw [hf]
      refine ⟨hin, ?_⟩
      rw [e0, zMnT_s]
      intro z1
      refine ih (i + 1) _ (by omega) (ab_u_eq _ _ _) ?_ (fun z => absurd z c) hn3 ?_
      · rw [ab_u_ne _ _ (show (0 : Nat) ≠ 11 by decide)]
        exact h12
      · rw [ab_u_u, ab_u_ne _ _ (show (0 : Nat) ≠ 11 by decide)]
        exact hk
theorem zL_X12_man_a {Q : ab_R} {M : ab_M} {N : ab_N} {e r : Int32} {q : Nat} (hq : q < 4) (y : zMnO (fun j => M 23 (40 * q + j)) → zr_X12_man Q 197 [some (.ref 0), some (.int 3), some (.int e), some (.int r), none, some (.int 1), some (.int (nI q)), none] [] M N) (n : ¬ zMnO (fun j => M 23 (40 * q + j)) → zr_X12_man Q 197 [some (.ref 0), some (.int 3), some (.int e), some (.int r), none, some (.int 0), some (.int (nI q)), none] [] M N) : ∀ (m i : Nat), i + m = 12 → (∀ j, j < i → 0 ≤ M 23 (40 * q + j) ∧ M 23 (40 * q + j) ≤ 7) → zr_X12_man Q 153 [some (.ref 0), some (.int 3), some (.int e), some (.int r), none, some (.int 1), some (.int (nI q)), some (.int (nI i))] [] M N := by
  intro m
  induction m with
  | zero =>
    intro i hi hp
    have e : i = 12 := by omega
    subst e
    exact zv_X12_man_153 _ _ _ _ _ _ ⟨fun _ => y hp, fun z => absurd (nI_le (Nat.le_refl _) (by decide)) z⟩
  | succ m ih =>
    intro i hi hp
    refine zv_X12_man_153 _ _ _ _ _ _ ⟨fun z => absurd z (nI_ge (a := i) (b := 12) (by omega) (by decide)), fun _ => ⟨fun z => absurd z (by decide), fun _ => ⟨fun _ => ?_, fun z => absurd rfl z⟩⟩⟩
    rw [zSh_i, nI_clamp (show 40 * q + i < 2 ^ 31 by omega), nI_1]
    refine ⟨nI_in_ (by omega), ?_⟩
    by_cases c : 0 ≤ M 23 (40 * q + i) ∧ M 23 (40 * q + i) ≤ 7
    · have b1 : ab_b (0 ≤ M 23 (40 * q + i) ∧ M 23 (40 * q + i) ≤ 7) = 1 := if_pos c
      rw [b1]
      refine ih (i + 1) (by omega) (fun j hj => ?_)
      by_cases ej : j = i
      · rw [ej]; exact c
      · exact hp j (by omega)
    · have b0 : ab_b (0 ≤ M 23 (40 * q + i) ∧ M 23 (40 * q + i) ≤ 7) = 0 := ab_b_0.mpr c
      rw [b0]
      have no := n (fun z => c (z i (by omega)))
      exact zv_X12_man_153 _ _ _ _ _ _ ⟨fun _ => no, fun _ => ⟨fun _ => no, fun z => absurd rfl z⟩⟩
theorem zE_X12_man (as : List Value) (M : ab_M) (N : ab_N) (k : ab_R) (hT : zt_X12_man as M N k) : ab_cs as ≤ 8 ∧ zr_X12_man k 0 (ab_en as) [] M N := by
  obtain ⟨⟨n, mn, kd, e, r, s⟩, r_, rfl, ⟨rfl, n7, p8, n12, m5⟩, hk⟩ := hT
  dsimp only at n7 p8 n12 m5 hk ⊢
  have hk := hk _ _ _ ⟨rfl, rfl, rfl⟩
  unfold zMnA zMnM at hk
  have bad : ¬ zMnG n kd e r → k (some (.int (-2))) M N := fun z => by
    have nv : ¬ zMnV M n mn kd e r s := fun w => z w.1
    rw [if_neg nv, if_neg z] at hk
    exact hk
  have bx : zMnG n kd e r → ∀ x, kd = 3 → zMnX M s = x → ¬ x = 0 → k (some (.int x)) M N := fun gd x h3 hx h0 => by
    have cc : kd = 3 ∧ ¬ zMnX M s = 0 := ⟨h3, by rw [hx]; exact h0⟩
    have nv : ¬ zMnV M n mn kd e r s := fun w => w.2.1 cc
    rw [if_pos gd, if_pos cc, if_neg nv, hx] at hk
    exact hk
  have b197 : zMnG n kd e r → ∀ t, (kd = 3 → zMnX M s = 0 ∧ t = s) → zr_X12_man k 197 [some (.ref 0), some (.int kd), some (.int e), some (.int r), none, some (.int 1), some (.int t), none] [] M N := fun gd t h3 => by
    have ok : ¬ (kd = 3 ∧ ¬ zMnX M s = 0) := fun z => z.2 (h3 z.1).1
    rw [if_pos gd, if_neg ok] at hk
    refine zv_X12_man_197 _ _ _ _ _ ⟨fun z => absurd z (by decide), fun _ => ?_⟩
    rw [n12]
    refine ⟨fun c => ?_, fun c => ?_⟩
    · have nm : mn = 5 := by
        rcases Nat.lt_or_ge mn 5 with q | q
        · exact absurd (nI_inj32 (a := mn) (b := 5) (by omega) (by decide) c) (by omega)
        · omega
      have nv : ¬ zMnV M n mn kd e r s := fun w => w.2.2 nm
      rw [if_neg nv, if_pos nm] at hk
      exact hk
    · have nm : ¬ mn = 5 := fun z => c (by rw [z]; rfl)
      have vv : zMnV M n mn kd e r s := ⟨gd, ok, nm⟩
      rw [if_pos vv, if_neg nm] at hk
      have hin : vp_in (nI mn) 5 := nI_in_ (by omega)
      rw [nI_clamp (show mn < 2 ^ 31 by omega)]
      refine ⟨hin, ?_⟩
      intro z1
      refine ⟨by decide, hin, ?_⟩
      intro z2
      refine ⟨by decide, hin, ?_⟩
      intro z3
      refine ⟨by decide, hin, ?_⟩
      intro z4
      refine ⟨by decide, hin, ?_⟩
      intro z5
      refine zL_X12_man_b (by omega) (zMnH (M 23) kd s) (M 11) 12 0 _ rfl ?_ n12 ?_ ?_ ?_
      · rw [zMnT_0]
        rfl
      · intro c9
        obtain ⟨x0, rfl⟩ := h3 c9
        unfold zMnX at x0
        by_cases d1 : 0 ≤ t ∧ t ≤ 3
        · refine ⟨d1, fun j => ?_⟩
          unfold zMnH
          rw [if_pos c9]
          rfl
        · rw [if_neg d1] at x0
          exact absurd x0 (by decide)
      · intro c9 j
        unfold zMnH
        rw [if_neg c9]
      · exact hk
  have b105 : zMnG n kd e r → ∀ t, (kd = 3 → (0 ≤ s ∧ s ≤ 3) ∧ t = s) → zr_X12_man k 105 [some (.ref 0), some (.int kd), some (.int e), some (.int r), none, none, none, none] [.int t] M N := fun gd t h3 => by
    refine zv_X12_man_105 _ _ _ _ ⟨fun c => ?_, fun c => ?_⟩
    · obtain ⟨s4, rfl⟩ := h3 c
      obtain ⟨q, hq, rfl⟩ := zQ4_n s4
      have cq : (nI q).toNatClampNeg = q := nI_clamp (by omega)
      have hin : vp_in (nI q) 4 := nI_in_ hq
      rw [cq]
      refine ⟨hin, fun d => ?_, fun d => ?_⟩
      · refine bx gd (-11) c ?_ (by decide)
        unfold zMnX
        rw [if_pos s4, cq, if_pos d]
      · refine zv_X12_man_126 _ _ _ _ ⟨fun _ => ?_, fun z => absurd c z⟩
        rw [cq]
        have xx : zMnX M (nI q) = if M 22 q = nI 12 ∧ zMnO (fun j => M 23 (40 * q + j)) then 0 else -2 := by
          unfold zMnX
          rw [if_pos s4, cq, if_neg d]
        subst c
        have no : ¬ (M 22 q = nI 12 ∧ zMnO (fun j => M 23 (40 * q + j))) → zr_X12_man k 197 [some (.ref 0), some (.int 3), some (.int e), some (.int r), none, some (.int 0), some (.int (nI q)), none] [] M N := fun z =>
          zv_X12_man_197 _ _ _ _ _ ⟨fun _ => bx gd (-2) rfl (by rw [xx, if_neg z]) (by decide), fun z => absurd rfl z⟩
        refine ⟨hin, fun c2 => ?_, fun c2 => ?_⟩
        · exact zL_X12_man_a hq (fun z => b197 gd _ (fun _ => ⟨by rw [xx, if_pos ⟨c2, z⟩], rfl⟩)) (fun z => no (fun w => z w.2)) 12 0 rfl (fun j hj => absurd hj (Nat.not_lt_zero _))
        · have no := no (fun w => c2 w.1)
          exact zv_X12_man_153 _ _ _ _ _ _ ⟨fun _ => no, fun _ => ⟨fun _ => no, fun z => absurd rfl z⟩⟩
    · have y := b197 gd t (fun z => absurd z c)
      exact zv_X12_man_126 _ _ _ _ ⟨fun z => absurd z c, fun _ => zv_X12_man_153 _ _ _ _ _ _ ⟨fun _ => y, fun _ => ⟨fun z => absurd z (by decide), fun _ => ⟨fun z => absurd z c, fun _ => y⟩⟩⟩⟩
  have b55 : ∀ b : Int32, (b = 0 → ¬ zMnG n kd e r) → (¬ b = 0 → (0 ≤ kd ∧ kd ≤ 5) → zMnG n kd e r) → zr_X12_man k 55 [some (.ref 0), some (.int kd), some (.int e), some (.int r), some (.int s), none, none, none] [.int b] M N := fun b h0 h1 => by
    refine zv_X12_man_55 _ _ _ _ _ ⟨fun c => bad (fun z => ab_b_0.mp c z.1.1), fun c => ⟨fun c2 => bad (h0 c2), fun c2 => ?_⟩⟩
    have gd := h1 c2 (zIx0 c)
    refine ⟨fun c3 => ⟨fun c4 => ?_, fun c4 => ⟨fun z => absurd z c4, fun _ => b105 gd s (fun _ => ⟨zIx0 c4, rfl⟩)⟩⟩, fun c3 => ⟨fun _ => b105 gd 0 (fun z => absurd z c3), fun _ => b105 gd s (fun z => absurd z c3)⟩⟩
    refine bx gd (-2) c3 ?_ (by decide)
    unfold zMnX
    rw [if_neg (ab_b_0.mp c4)]
  refine ⟨Nat.le_of_ble_eq_true rfl, zv_X12_man_0 _ _ _ _ ?_⟩
  rw [n7]
  have f0 : ¬ zMnG n kd e r → zr_X12_man k 55 [some (.ref 0), some (.int kd), some (.int e), some (.int r), some (.int s), none, none, none] [.int 0] M N := fun z => b55 0 (fun _ => z) (fun z => absurd rfl z)
  refine ⟨fun c => f0 (fun z => Int32.not_lt.mpr z.1.2.1 c), fun c => ⟨by decide, fun c2 => f0 (fun z => ab_b_0.mp c2 z.2.1.1), fun c2 => ⟨by decide, fun c3 => f0 (fun z => ab_b_0.mp c3 z.2.1.2), fun c3 => ⟨fun c4 => f0 (fun z => Int32.not_lt.mpr z.1.2.2 c4), fun c4 => ⟨by decide, fun c5 => f0 (fun z => ab_b_0.mp c5 z.2.2.1), fun c5 => ⟨by decide, fun c6 => f0 (fun z => Int32.not_lt.mpr z.2.2.2.2 c6), fun c6 => ?_⟩⟩⟩⟩⟩⟩
  exact b55 1 (fun z => absurd z (by decide)) (fun _ z => ⟨⟨z, Int32.not_lt.mp c, Int32.not_lt.mp c4⟩, ⟨zIx0 c2, zIx0 c3⟩, zIx0 c5, zMn_low (Int32.not_lt.mp c4), Int32.not_lt.mp c6⟩)
abbrev zR_X12_man : Room := { frames := 2, cells := 0, slots := 0, locals := 43 }
set_option maxRecDepth 20000 in
theorem zM_X12_man (l : Launch) : ab_Met l zw_M vwCl zZ_M yX12_man cX12_man 8 (some .int) zR_X12_man zt_X12_man := ab_ofRun (G := zg_X12_man) (P := zp_X12_man) rfl zo_X12_man (by decide +kernel) zl_cl zl_lamM zf_X12_ok ab_Tab_nil zc_X12_ok ab_Sta_nil (List.forall_mem_cons.mpr ⟨ab_callV zZ_M_ok (zM_X12_isPiece l) (ab_in 1208 (by decide +kernel) rfl) (ab_in 1205 (by decide +kernel) rfl) (ab_in 1207 (by decide +kernel) rfl) (ab_inS (List.mem_of_getElem? (i := 27) (by decide +kernel)) rfl) (ab_in 17 (by decide +kernel) rfl) (by unfold ab_yok; decide +kernel) ⟨rfl, rfl⟩ (by decide) zV_X12_isPiece, List.forall_mem_nil _⟩) (List.forall_mem_cons.mpr ⟨ab_callS zZ_M_ok (zM_X12_in l) (ab_in 1200 (by decide +kernel) rfl) (ab_in 1198 (by decide +kernel) rfl) (ab_in 1199 (by decide +kernel) rfl) (ab_in 17 (by decide +kernel) rfl) (by unfold ab_yok; decide +kernel) ⟨rfl, rfl⟩ (by decide), List.forall_mem_nil _⟩) zE_X12_man
