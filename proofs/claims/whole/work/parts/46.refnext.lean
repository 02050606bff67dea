/-! the reference: the next token *)
-/
def zTR (t : zTkT) (tok val at_ : Int32) : Prop := (t.1 = -1 ∧ tok = 0 ∧ at_ = nI t.2.2.1) ∨ (¬ t.1 = -1 ∧ at_ = nI t.2.2.2 ∧ ((t.1 = 0 ∧ tok = 1 ∧ val = t.2.1) ∨ (∃ k : Nat, 3 ≤ k ∧ k < 9 ∧ t.1 = nI (k - 2) ∧ tok = 2 ∧ val = nI (k - 3)) ∨ (∃ k : Nat, k < 3 ∧ t.1 = nI (7 + k) ∧ tok = 3 ∧ val = nI k) ∨ (∃ k : Nat, 9 ≤ k ∧ k < 12 ∧ t.1 = nI (k + 1) ∧ tok = nI (k - 5)) ∨ (zSign t.1 ∧ tok = t.1) ∨ (t.1 = -2 ∧ tok = -1)))
def zt_X12_next : ab_T := ab_lq (α := Nat × Nat) (fun x r M N => r = [] ∧ zTpR M N x.1 ∧ x.2 ≤ x.1 ∧ M 0 50 = nI x.2)
  (fun x M N o M2 N2 => N2 = N ∧ o = none ∧ ∃ f : Nat → Int32, M2 = ab_u M 0 f ∧ (∀ j, j ≠ 50 → j ≠ 51 → j ≠ 52 → j ≠ 53 → f j = M 0 j) ∧ f 51 = nI (zTk (M 12) x.1 x.2).2.2.1 ∧ zTR (zTk (M 12) x.1 x.2) (f 52) (f 53) (f 50))
theorem zt_X12_next_mono : ab_mono zt_X12_next := ab_lq_mono _ _
theorem zV_X12_next : ab_recv zw_M vwCl RX12 zt_X12_next := ab_lq_v
def zp_X12_next : ab_P := [(0, .aload_n 0, 1, [0], []),
  (1, .getfield 201, 4, [], []),
  (4, .aload_n 0, 5, [0], []),
  (5, .getfield 196, 8, [], []),
  (8, .if_icmp .ge 44, 11, [52], []),
  (11, .aload_n 0, 12, [0], []),
  (12, .getfield 59, 15, [], []),
  (15, .aload_n 0, 16, [0], []),
  (16, .getfield 201, 19, [], []),
  (19, .iaload, 20, [], []),
  (20, .bipush 32, 22, [], [32]),
  (22, .if_icmp .eq 17, 25, [39], []),
  (25, .aload_n 0, 26, [0], []),
  (26, .getfield 59, 29, [], []),
  (29, .aload_n 0, 30, [0], []),
  (30, .getfield 201, 33, [], []),
  (33, .iaload, 34, [], []),
  (34, .bipush 10, 36, [], [10]),
  (36, .if_icmp .ne 16, 39, [52], []),
  (39, .aload_n 0, 40, [0], []),
  (40, .dup, 41, [], []),
  (41, .getfield 201, 44, [], []),
  (44, .iconst 1, 45, [], [1]),
  (45, .iadd, 46, [], []),
  (46, .putfield 201, 49, [], []),
  (49, .goto (-49), 52, [0], []),
  (52, .aload_n 0, 53, [0], []),
  (53, .aload_n 0, 54, [0], []),
  (54, .getfield 201, 57, [], []),
  (57, .putfield 204, 60, [], []),
  (60, .aload_n 0, 61, [0], []),
  (61, .iconst 0, 62, [], [0]),
  (62, .putfield 207, 65, [], []),
  (65, .aload_n 0, 66, [0], []),
  (66, .iconst 0, 67, [], [0]),
  (67, .putfield 210, 70, [], []),
  (70, .aload_n 0, 71, [0], []),
  (71, .getfield 201, 74, [], []),
  (74, .aload_n 0, 75, [0], []),
  (75, .getfield 196, 78, [], []),
  (78, .if_icmp .ne 4, 81, [82], []),
  (81, .return_, 82, [], []),
  (82, .aload_n 0, 83, [0], []),
  (83, .getfield 59, 86, [], []),
  (86, .aload_n 0, 87, [0], []),
  (87, .getfield 201, 90, [], []),
  (90, .iaload, 91, [], []),
  (91, .istore_n 1, 92, [1], []),
  (92, .iload_n 1, 93, [1], []),
  (93, .bipush 97, 95, [], [97]),
  (95, .bipush 122, 97, [], [122]),
  (97, .invokestatic 175, 100, [], []),
  (100, .ifCond .eq 101, 103, [201], []),
  (103, .aload_n 0, 104, [0], []),
  (104, .invokevirtual 213, 107, [], []),
  (107, .lstore_n 2, 108, [2], []),
  (108, .iconst 0, 109, [], [0]),
  (109, .istore 4, 111, [], []),
  (111, .iload 4, 113, [], []),
  (113, .bipush 12, 115, [], [12]),
  (115, .if_icmp .ge 21, 118, [136], []),
  (118, .aload_n 0, 119, [0], []),
  (119, .getfield 131, 122, [], []),
  (122, .iload 4, 124, [], []),
  (124, .laload, 125, [], []),
  (125, .lload_n 2, 126, [2], []),
  (126, .lcmp, 127, [], []),
  (127, .ifCond .eq 9, 130, [136], []),
  (130, .iinc 4 1, 133, [], [1]),
  (133, .goto (-22), 136, [111], []),
  (136, .aload_n 0, 137, [0], []),
  (137, .iload 4, 139, [], []),
  (139, .iconst 3, 140, [], [3]),
  (140, .if_icmp .ge 7, 143, [147], []),
  (143, .iconst 3, 144, [], [3]),
  (144, .goto 32, 147, [176], []),
  (147, .iload 4, 149, [], []),
  (149, .bipush 9, 151, [], [9]),
  (151, .if_icmp .ge 7, 154, [158], []),
  (154, .iconst 2, 155, [], [2]),
  (155, .goto 21, 158, [176], []),
  (158, .iload 4, 160, [], []),
  (160, .bipush 12, 162, [], [12]),
  (162, .if_icmp .ne 7, 165, [169], []),
  (165, .iconst (-1), 166, [], [(-1)]),
  (166, .goto 10, 169, [176], []),
  (169, .iconst 4, 170, [], [4]),
  (170, .iload 4, 172, [], []),
  (172, .iadd, 173, [], []),
  (173, .bipush 9, 175, [], [9]),
  (175, .isub, 176, [], []),
  (176, .putfield 207, 179, [], []),
  (179, .aload_n 0, 180, [0], []),
  (180, .iload 4, 182, [], []),
  (182, .iconst 3, 183, [], [3]),
  (183, .if_icmp .ge 8, 186, [191], []),
  (186, .iload 4, 188, [], []),
  (188, .goto 7, 191, [195], []),
  (191, .iload 4, 193, [], []),
  (193, .iconst 3, 194, [], [3]),
  (194, .isub, 195, [], []),
  (195, .putfield 210, 198, [], []),
  (198, .goto 189, 201, [387], []),
  (201, .iload_n 1, 202, [1], []),
  (202, .bipush 48, 204, [], [48]),
  (204, .bipush 57, 206, [], [57]),
  (206, .invokestatic 175, 209, [], []),
  (209, .ifCond .eq 101, 212, [310], []),
  (212, .iconst 0, 213, [], [0]),
  (213, .istore_n 2, 214, [2], []),
  (214, .aload_n 0, 215, [0], []),
  (215, .getfield 201, 218, [], []),
  (218, .aload_n 0, 219, [0], []),
  (219, .getfield 196, 222, [], []),
  (222, .if_icmp .ge 71, 225, [293], []),
  (225, .aload_n 0, 226, [0], []),
  (226, .getfield 59, 229, [], []),
  (229, .aload_n 0, 230, [0], []),
  (230, .getfield 201, 233, [], []),
  (233, .iaload, 234, [], []),
  (234, .bipush 48, 236, [], [48]),
  (236, .bipush 57, 238, [], [57]),
  (238, .invokestatic 175, 241, [], []),
  (241, .ifCond .eq 52, 244, [293], []),
  (244, .aload_n 0, 245, [0], []),
  (245, .iload_n 2, 246, [2], []),
  (246, .iconst 4, 247, [], [4]),
  (247, .if_icmp .ge 26, 250, [273], []),
  (250, .bipush 10, 252, [], [10]),
  (252, .aload_n 0, 253, [0], []),
  (253, .getfield 210, 256, [], []),
  (256, .imul, 257, [], []),
  (257, .aload_n 0, 258, [0], []),
  (258, .getfield 59, 261, [], []),
  (261, .aload_n 0, 262, [0], []),
  (262, .getfield 201, 265, [], []),
  (265, .iaload, 266, [], []),
  (266, .iadd, 267, [], []),
  (267, .bipush 48, 269, [], [48]),
  (269, .isub, 270, [], []),
  (270, .goto 4, 273, [274], []),
  (273, .iconst 0, 274, [], [0]),
  (274, .putfield 210, 277, [], []),
  (277, .iinc 2 1, 280, [], [1]),
  (280, .aload_n 0, 281, [0], []),
  (281, .dup, 282, [], []),
  (282, .getfield 201, 285, [], []),
  (285, .iconst 1, 286, [], [1]),
  (286, .iadd, 287, [], []),
  (287, .putfield 201, 290, [], []),
  (290, .goto (-76), 293, [214], []),
  (293, .aload_n 0, 294, [0], []),
  (294, .iload_n 2, 295, [2], []),
  (295, .iconst 4, 296, [], [4]),
  (296, .if_icmp .le 7, 299, [303], []),
  (299, .iconst (-1), 300, [], [(-1)]),
  (300, .goto 4, 303, [304], []),
  (303, .iconst 1, 304, [], [1]),
  (304, .putfield 207, 307, [], []),
  (307, .goto 80, 310, [387], []),
  (310, .iload_n 1, 311, [1], []),
  (311, .bipush 40, 313, [], [40]),
  (313, .if_icmp .eq 45, 316, [358], []),
  (316, .iload_n 1, 317, [1], []),
  (317, .bipush 41, 319, [], [41]),
  (319, .if_icmp .eq 39, 322, [358], []),
  (322, .iload_n 1, 323, [1], []),
  (323, .bipush 59, 325, [], [59]),
  (325, .if_icmp .eq 33, 328, [358], []),
  (328, .iload_n 1, 329, [1], []),
  (329, .bipush 43, 331, [], [43]),
  (331, .if_icmp .eq 27, 334, [358], []),
  (334, .iload_n 1, 335, [1], []),
  (335, .bipush 45, 337, [], [45]),
  (337, .if_icmp .eq 21, 340, [358], []),
  (340, .iload_n 1, 341, [1], []),
  (341, .bipush 42, 343, [], [42]),
  (343, .if_icmp .eq 15, 346, [358], []),
  (346, .iload_n 1, 347, [1], []),
  (347, .bipush 60, 349, [], [60]),
  (349, .if_icmp .eq 9, 352, [358], []),
  (352, .iload_n 1, 353, [1], []),
  (353, .bipush 61, 355, [], [61]),
  (355, .if_icmp .ne 7, 358, [362], []),
  (358, .iconst 1, 359, [], [1]),
  (359, .goto 4, 362, [363], []),
  (362, .iconst 0, 363, [], [0]),
  (363, .istore_n 2, 364, [2], []),
  (364, .aload_n 0, 365, [0], []),
  (365, .iload_n 2, 366, [2], []),
  (366, .ifCond .eq 7, 369, [373], []),
  (369, .iload_n 1, 370, [1], []),
  (370, .goto 4, 373, [374], []),
  (373, .iconst (-1), 374, [], [(-1)]),
  (374, .putfield 207, 377, [], []),
  (377, .aload_n 0, 378, [0], []),
  (378, .dup, 379, [], []),
  (379, .getfield 201, 382, [], []),
  (382, .iconst 1, 383, [], [1]),
  (383, .iadd, 384, [], []),
  (384, .putfield 201, 387, [], []),
  (387, .return_, 388, [], [])]
theorem zo_X12_next : ab_ok cX12_next zp_X12_next = true := by decide +kernel
def zg_X12_next : ab_G := (zw_M, [], zf_X12, zc_X12, [], [(213, 1, zt_X12_letters)], [(175, 3, zt_X12_in)])
theorem zm_X12_next : ab_MG zg_X12_next := ab_MGof (List.forall_mem_cons.mpr ⟨zt_X12_letters_mono, List.forall_mem_nil _⟩) (List.forall_mem_cons.mpr ⟨ab_pure_mono _, List.forall_mem_nil _⟩)
abbrev zr_X12_next (Q : ab_R) : ab_K := ab_Run zg_X12_next zp_X12_next none 5 Q
set_option maxRecDepth 20000 in
theorem zv_X12_next_0 {Q : ab_R} {M : ab_M} {N : ab_N}  (h : ((M 0 20) ≤ (M 0 50) → zr_X12_next Q 52 [some (.ref 0), none, none, none, none] [] M N) ∧ (¬ ((M 0 20) ≤ (M 0 50)) → vp_in (M 0 50) 160 ∧ (((M 12 (M 0 50).toNatClampNeg) = (32 : Int32) → let z1 : Nat → Int32 := upd (M 0) 50 ((M 0 50) + (1 : Int32)); zr_X12_next Q 0 [some (.ref 0), none, none, none, none] [] (ab_u M 0 z1) N) ∧ (¬ ((M 12 (M 0 50).toNatClampNeg) = (32 : Int32)) → vp_in (M 0 50) 160 ∧ (((M 12 (M 0 50).toNatClampNeg) = (10 : Int32) → let z2 : Nat → Int32 := upd (M 0) 50 ((M 0 50) + (1 : Int32)); zr_X12_next Q 0 [some (.ref 0), none, none, none, none] [] (ab_u M 0 z2) N) ∧ (¬ ((M 12 (M 0 50).toNatClampNeg) = (10 : Int32)) → zr_X12_next Q 52 [some (.ref 0), none, none, none, none] [] M N)))))) : zr_X12_next Q 0 [some (.ref 0), none, none, none, none] [] M N := ab_Run_s zm_X12_next (sp := [(0, [true, false, false, false, false]), (52, [true, false, false, false, false]), (107, [true, false, false, false, false]), (111, [true, false, true, false, true]), (136, [true, false, false, false, true]), (176, [true, false, false, false, true]), (214, [true, false, true, false, false]), (363, [true, true, false, false, false])]) 204 h
set_option maxRecDepth 20000 in
theorem zv_X12_next_52 {Q : ab_R} {M : ab_M} {N : ab_N}  (h : let z1 : Nat → Int32 := upd (M 0) 51 (M 0 50); let z2 : Nat → Int32 := upd (z1) 52 (0 : Int32); let z3 : Nat → Int32 := upd (z2) 53 (0 : Int32); ((z3 50) = (z3 20) → Q none (ab_u (ab_u (ab_u M 0 z1) 0 z2) 0 z3) N) ∧ (¬ ((z3 50) = (z3 20)) → vp_in (z3 50) 160 ∧ (((ab_b ((97 : Int32) ≤ (M 12 (z3 50).toNatClampNeg) ∧ (M 12 (z3 50).toNatClampNeg) ≤ (122 : Int32))) = 0 → ((ab_b ((48 : Int32) ≤ (M 12 (z3 50).toNatClampNeg) ∧ (M 12 (z3 50).toNatClampNeg) ≤ (57 : Int32))) = 0 → ((M 12 (z3 50).toNatClampNeg) = (40 : Int32) → zr_X12_next Q 363 [some (.ref 0), some (.int (M 12 (z3 50).toNatClampNeg)), none, none, none] [.int (1 : Int32)] (ab_u (ab_u (ab_u M 0 z1) 0 z2) 0 z3) N) ∧ (¬ ((M 12 (z3 50).toNatClampNeg) = (40 : Int32)) → ((M 12 (z3 50).toNatClampNeg) = (41 : Int32) → zr_X12_next Q 363 [some (.ref 0), some (.int (M 12 (z3 50).toNatClampNeg)), none, none, none] [.int (1 : Int32)] (ab_u (ab_u (ab_u M 0 z1) 0 z2) 0 z3) N) ∧ (¬ ((M 12 (z3 50).toNatClampNeg) = (41 : Int32)) → ((M 12 (z3 50).toNatClampNeg) = (59 : Int32) → zr_X12_next Q 363 [some (.ref 0), some (.int (M 12 (z3 50).toNatClampNeg)), none, none, none] [.int (1 : Int32)] (ab_u (ab_u (ab_u M 0 z1) 0 z2) 0 z3) N) ∧ (¬ ((M 12 (z3 50).toNatClampNeg) = (59 : Int32)) → ((M 12 (z3 50).toNatClampNeg) = (43 : Int32) → zr_X12_next Q 363 [some (.ref 0), some (.int (M 12 (z3 50).toNatClampNeg)), none, none, none] [.int (1 : Int32)] (ab_u (ab_u (ab_u M 0 z1) 0 z2) 0 z3) N) ∧ (¬ ((M 12 (z3 50).toNatClampNeg) = (43 : Int32)) → ((M 12 (z3 50).toNatClampNeg) = (45 : Int32) → zr_X12_next Q 363 [some (.ref 0), some (.int (M 12 (z3 50).toNatClampNeg)), none, none, none] [.int (1 : Int32)] (ab_u (ab_u (ab_u M 0 z1) 0 z2) 0 z3) N) ∧ (¬ ((M 12 (z3 50).toNatClampNeg) = (45 : Int32)) → ((M 12 (z3 50).toNatClampNeg) = (42 : Int32) → zr_X12_next Q 363 [some (.ref 0), some (.int (M 12 (z3 50).toNatClampNeg)), none, none, none] [.int (1 : Int32)] (ab_u (ab_u (ab_u M 0 z1) 0 z2) 0 z3) N) ∧ (¬ ((M 12 (z3 50).toNatClampNeg) = (42 : Int32)) → ((M 12 (z3 50).toNatClampNeg) = (60 : Int32) → zr_X12_next Q 363 [some (.ref 0), some (.int (M 12 (z3 50).toNatClampNeg)), none, none, none] [.int (1 : Int32)] (ab_u (ab_u (ab_u M 0 z1) 0 z2) 0 z3) N) ∧ (¬ ((M 12 (z3 50).toNatClampNeg) = (60 : Int32)) → ((M 12 (z3 50).toNatClampNeg) = (61 : Int32) → zr_X12_next Q 363 [some (.ref 0), some (.int (M 12 (z3 50).toNatClampNeg)), none, none, none] [.int (1 : Int32)] (ab_u (ab_u (ab_u M 0 z1) 0 z2) 0 z3) N) ∧ (¬ ((M 12 (z3 50).toNatClampNeg) = (61 : Int32)) → zr_X12_next Q 363 [some (.ref 0), some (.int (M 12 (z3 50).toNatClampNeg)), none, none, none] [.int (0 : Int32)] (ab_u (ab_u (ab_u M 0 z1) 0 z2) 0 z3) N))))))))) ∧ (¬ ((ab_b ((48 : Int32) ≤ (M 12 (z3 50).toNatClampNeg) ∧ (M 12 (z3 50).toNatClampNeg) ≤ (57 : Int32))) = 0) → zr_X12_next Q 214 [some (.ref 0), none, some (.int (0 : Int32)), none, none] [] (ab_u (ab_u (ab_u M 0 z1) 0 z2) 0 z3) N)) ∧ (¬ ((ab_b ((97 : Int32) ≤ (M 12 (z3 50).toNatClampNeg) ∧ (M 12 (z3 50).toNatClampNeg) ≤ (122 : Int32))) = 0) → zt_X12_letters [.ref 0] (ab_u (ab_u (ab_u M 0 z1) 0 z2) 0 z3) N (fun r M2 N2 => zr_X12_next Q 107 [some (.ref 0), none, none, none, none] (ab_ol r []) M2 N2))))) : zr_X12_next Q 52 [some (.ref 0), none, none, none, none] [] M N := ab_Run_s zm_X12_next (sp := [(0, [true, false, false, false, false]), (52, [true, false, false, false, false]), (107, [true, false, false, false, false]), (111, [true, false, true, false, true]), (136, [true, false, false, false, true]), (176, [true, false, false, false, true]), (214, [true, false, true, false, false]), (363, [true, true, false, false, false])]) 204 h
set_option maxRecDepth 20000 in
theorem zv_X12_next_107 {Q : ab_R} {M : ab_M} {N : ab_N} (s0 : Int64) (h : zr_X12_next Q 111 [some (.ref 0), none, some (.long s0), none, some (.int (0 : Int32))] [] M N) : zr_X12_next Q 107 [some (.ref 0), none, none, none, none] [.long s0] M N := ab_Run_s zm_X12_next (sp := [(0, [true, false, false, false, false]), (52, [true, false, false, false, false]), (107, [true, false, false, false, false]), (111, [true, false, true, false, true]), (136, [true, false, false, false, true]), (176, [true, false, false, false, true]), (214, [true, false, true, false, false]), (363, [true, true, false, false, false])]) 204 h
set_option maxRecDepth 20000 in
theorem zv_X12_next_111 {Q : ab_R} {M : ab_M} {N : ab_N} (l2 : Int64) (l4 : Int32) (h : ((12 : Int32) ≤ l4 → zr_X12_next Q 136 [some (.ref 0), none, none, none, some (.int l4)] [] M N) ∧ (¬ ((12 : Int32) ≤ l4) → vp_in l4 12 ∧ (((lg_cmp (N 24 l4.toNatClampNeg) l2) = 0 → zr_X12_next Q 136 [some (.ref 0), none, none, none, some (.int l4)] [] M N) ∧ (¬ ((lg_cmp (N 24 l4.toNatClampNeg) l2) = 0) → zr_X12_next Q 111 [some (.ref 0), none, some (.long l2), none, some (.int (l4 + (1 : Int32)))] [] M N)))) : zr_X12_next Q 111 [some (.ref 0), none, some (.long l2), none, some (.int l4)] [] M N := ab_Run_s zm_X12_next (sp := [(0, [true, false, false, false, false]), (52, [true, false, false, false, false]), (107, [true, false, false, false, false]), (111, [true, false, true, false, true]), (136, [true, false, false, false, true]), (176, [true, false, false, false, true]), (214, [true, false, true, false, false]), (363, [true, true, false, false, false])]) 204 h
set_option maxRecDepth 20000 in
theorem zv_X12_next_136 {Q : ab_R} {M : ab_M} {N : ab_N} (l4 : Int32) (h : ((3 : Int32) ≤ l4 → ((9 : Int32) ≤ l4 → (l4 = (12 : Int32) → zr_X12_next Q 176 [some (.ref 0), none, none, none, some (.int l4)] [.int (-1 : Int32), .ref 0] M N) ∧ (¬ (l4 = (12 : Int32)) → zr_X12_next Q 176 [some (.ref 0), none, none, none, some (.int l4)] [.int (((4 : Int32) + l4) - (9 : Int32)), .ref 0] M N)) ∧ (¬ ((9 : Int32) ≤ l4) → zr_X12_next Q 176 [some (.ref 0), none, none, none, some (.int l4)] [.int (2 : Int32), .ref 0] M N)) ∧ (¬ ((3 : Int32) ≤ l4) → zr_X12_next Q 176 [some (.ref 0), none, none, none, some (.int l4)] [.int (3 : Int32), .ref 0] M N)) : zr_X12_next Q 136 [some (.ref 0), none, none, none, some (.int l4)] [] M N := ab_Run_s zm_X12_next (sp := [(0, [true, false, false, false, false]), (52, [true, false, false, false, false]), (107, [true, false, false, false, false]), (111, [true, false, true, false, true]), (136, [true, false, false, false, true]), (176, [true, false, false, false, true]), (214, [true, false, true, false, false]), (363, [true, true, false, false, false])]) 204 h
set_option maxRecDepth 20000 in
theorem zv_X12_next_176 {Q : ab_R} {M : ab_M} {N : ab_N} (l4 : Int32) (s1 : Int32) (h : let z1 : Nat → Int32 := upd (M 0) 52 s1; ((3 : Int32) ≤ l4 → let z2 : Nat → Int32 := upd (z1) 53 (l4 - (3 : Int32)); Q none (ab_u (ab_u M 0 z1) 0 z2) N) ∧ (¬ ((3 : Int32) ≤ l4) → let z3 : Nat → Int32 := upd (z1) 53 l4; Q none (ab_u (ab_u M 0 z1) 0 z3) N)) : zr_X12_next Q 176 [some (.ref 0), none, none, none, some (.int l4)] [.int s1, .ref 0] M N := ab_Run_s zm_X12_next (sp := [(0, [true, false, false, false, false]), (52, [true, false, false, false, false]), (107, [true, false, false, false, false]), (111, [true, false, true, false, true]), (136, [true, false, false, false, true]), (176, [true, false, false, false, true]), (214, [true, false, true, false, false]), (363, [true, true, false, false, false])]) 204 h
set_option maxRecDepth 20000 in
theorem zv_X12_next_214 {Q : ab_R} {M : ab_M} {N : ab_N} (l2 : Int32) (h : ((M 0 20) ≤ (M 0 50) → (l2 ≤ (4 : Int32) → let z1 : Nat → Int32 := upd (M 0) 52 (1 : Int32); Q none (ab_u M 0 z1) N) ∧ (¬ (l2 ≤ (4 : Int32)) → let z2 : Nat → Int32 := upd (M 0) 52 (-1 : Int32); Q none (ab_u M 0 z2) N)) ∧ (¬ ((M 0 20) ≤ (M 0 50)) → vp_in (M 0 50) 160 ∧ (((ab_b ((48 : Int32) ≤ (M 12 (M 0 50).toNatClampNeg) ∧ (M 12 (M 0 50).toNatClampNeg) ≤ (57 : Int32))) = 0 → (l2 ≤ (4 : Int32) → let z3 : Nat → Int32 := upd (M 0) 52 (1 : Int32); Q none (ab_u M 0 z3) N) ∧ (¬ (l2 ≤ (4 : Int32)) → let z4 : Nat → Int32 := upd (M 0) 52 (-1 : Int32); Q none (ab_u M 0 z4) N)) ∧ (¬ ((ab_b ((48 : Int32) ≤ (M 12 (M 0 50).toNatClampNeg) ∧ (M 12 (M 0 50).toNatClampNeg) ≤ (57 : Int32))) = 0) → ((4 : Int32) ≤ l2 → let z5 : Nat → Int32 := upd (M 0) 53 (0 : Int32); let z6 : Nat → Int32 := upd (z5) 50 ((z5 50) + (1 : Int32)); zr_X12_next Q 214 [some (.ref 0), none, some (.int (l2 + (1 : Int32))), none, none] [] (ab_u (ab_u M 0 z5) 0 z6) N) ∧ (¬ ((4 : Int32) ≤ l2) → vp_in (M 0 50) 160 ∧ (let z7 : Nat → Int32 := upd (M 0) 53 ((((10 : Int32) * (M 0 53)) + (M 12 (M 0 50).toNatClampNeg)) - (48 : Int32)); let z8 : Nat → Int32 := upd (z7) 50 ((z7 50) + (1 : Int32)); zr_X12_next Q 214 [some (.ref 0), none, some (.int (l2 + (1 : Int32))), none, none] [] (ab_u (ab_u M 0 z7) 0 z8) N)))))) : zr_X12_next Q 214 [some (.ref 0), none, some (.int l2), none, none] [] M N := ab_Run_s zm_X12_next (sp := [(0, [true, false, false, false, false]), (52, [true, false, false, false, false]), (107, [true, false, false, false, false]), (111, [true, false, true, false, true]), (136, [true, false, false, false, true]), (176, [true, false, false, false, true]), (214, [true, false, true, false, false]), (363, [true, true, false, false, false])]) 204 h
set_option maxRecDepth 20000 in
theorem zv_X12_next_363 {Q : ab_R} {M : ab_M} {N : ab_N} (l1 : Int32) (s0 : Int32) (h : (s0 = 0 → let z1 : Nat → Int32 := upd (M 0) 52 (-1 : Int32); let z2 : Nat → Int32 := upd (z1) 50 ((z1 50) + (1 : Int32)); Q none (ab_u (ab_u M 0 z1) 0 z2) N) ∧ (¬ (s0 = 0) → let z3 : Nat → Int32 := upd (M 0) 52 l1; let z4 : Nat → Int32 := upd (z3) 50 ((z3 50) + (1 : Int32)); Q none (ab_u (ab_u M 0 z3) 0 z4) N)) : zr_X12_next Q 363 [some (.ref 0), some (.int l1), none, none, none] [.int s0] M N := ab_Run_s zm_X12_next (sp := [(0, [true, false, false, false, false]), (52, [true, false, false, false, false]), (107, [true, false, false, false, false]), (111, [true, false, true, false, true]), (136, [true, false, false, false, true]), (176, [true, false, false, false, true]), (214, [true, false, true, false, false]), (363, [true, true, false, false, false])]) 204 h
def zKx (l : List Int32) : List (List Int32) → Nat → Nat
  | [], k => k
  | w :: r, k => if l = w then k else zKx l r (k + 1)
theorem zKx_rel (l : List Int32) : (zKx l zKwR 0 < 3 ∧ zKwI l zKw 1 = nI (7 + zKx l zKwR 0)) ∨ (3 ≤ zKx l zKwR 0 ∧ zKx l zKwR 0 < 9 ∧ zKwI l zKw 1 = nI (zKx l zKwR 0 - 2)) ∨ (9 ≤ zKx l zKwR 0 ∧ zKx l zKwR 0 < 12 ∧ zKwI l zKw 1 = nI (zKx l zKwR 0 + 1)) ∨ (zKx l zKwR 0 = 12 ∧ zKwI l zKw 1 = -2) := by
  by_cases h : l ∈ zKwR
  · simp only [zKwR, List.mem_cons, List.not_mem_nil, or_false] at h
    rcases h with rfl | rfl | rfl | rfl | rfl | rfl | rfl | rfl | rfl | rfl | rfl | rfl <;> decide +kernel
  · refine Or.inr (Or.inr (Or.inr ?_))
    simp only [zKwR, List.mem_cons, List.not_mem_nil, or_false, not_or] at h
    obtain ⟨h1, h2, h3, h4, h5, h6, h7, h8, h9, h10, h11, h12⟩ := h
    constructor
    · simp only [zKx, zKwR, if_neg h1, if_neg h2, if_neg h3, if_neg h4, if_neg h5, if_neg h6, if_neg h7, if_neg h8, if_neg h9, if_neg h10, if_neg h11, if_neg h12]
    · simp only [zKwI, zKw, if_neg h1, if_neg h2, if_neg h3, if_neg h4, if_neg h5, if_neg h6, if_neg h7, if_neg h8, if_neg h9, if_neg h10, if_neg h11, if_neg h12]
theorem zKx_ge (l : List Int32) : ∀ (ks : List (List Int32)) (k : Nat), k ≤ zKx l ks k ∧ zKx l ks k ≤ k + ks.length
  | [], k => ⟨Nat.le_refl _, Nat.le_refl _⟩
  | w :: r, k => by
    have ih := zKx_ge l r (k + 1)
    show k ≤ (if l = w then k else zKx l r (k + 1)) ∧ (if l = w then k else zKx l r (k + 1)) ≤ k + (r.length + 1)
    split
    · omega
    · omega
section Nx
variable {Q : ab_R} {M0 : ab_M} {N : ab_N} {n i pl : Nat}
/-- behind the search -/
theorem zL_next_t (k : Nat) (f : Nat → Int32) (hk : k ≤ 12) (kk : ∀ g : Nat → Int32, (∀ j, j ≠ 52 → j ≠ 53 → g j = f j) → ((k < 3 ∧ g 52 = 3 ∧ g 53 = nI k) ∨ (3 ≤ k ∧ k < 9 ∧ g 52 = 2 ∧ g 53 = nI (k - 3)) ∨ (9 ≤ k ∧ k < 12 ∧ g 52 = nI (k - 5)) ∨ (k = 12 ∧ g 52 = -1)) → Q none (ab_u M0 0 g) N) : zr_X12_next Q 136 [some (.ref 0), none, none, none, some (.int (nI k))] [] (ab_u M0 0 f) N := by
  have t : ∀ v : Int32, (∀ g : Nat → Int32, (∀ j, j ≠ 52 → j ≠ 53 → g j = f j) → g 52 = v → (k < 3 → g 53 = nI k) → (3 ≤ k → g 53 = nI k - 3) → Q none (ab_u M0 0 g) N) → zr_X12_next Q 176 [some (.ref 0), none, none, none, some (.int (nI k))] [.int v, .ref 0] (ab_u M0 0 f) N := by
    intro v hv
    refine zv_X12_next_176 _ _ ?_
    rw [ab_u_eq]
    intro z1
    refine ⟨fun c => ?_, fun c => ?_⟩
    · intro z2
      rw [ab_u_u, ab_u_u]
      refine hv z2 (fun j a b => by simp only [z2, z1]; rw [upd_ne _ _ b, upd_ne _ _ a]) (by simp only [z2, z1]; rw [upd_ne _ _ (by decide), upd_eq]) (fun z => absurd c (nI_ge (b := 3) z (by decide))) (fun _ => by simp only [z2]; rw [upd_eq])
    · intro z3
      rw [ab_u_u, ab_u_u]
      refine hv z3 (fun j a b => by simp only [z3, z1]; rw [upd_ne _ _ b, upd_ne _ _ a]) (by simp only [z3, z1]; rw [upd_ne _ _ (by decide), upd_eq]) (fun _ => by simp only [z3]; rw [upd_eq]) (fun z => absurd (nI_le (a := 3) z (by omega)) c)
  refine zv_X12_next_136 _ ⟨fun c => ⟨fun c2 => ⟨fun c3 => ?_, fun c3 => ?_⟩, fun c2 => ?_⟩, fun c => ?_⟩
  · have e : k = 12 := (nI_eq (b := 12) (by omega) (by decide)).mp c3
    exact t _ (fun g a b d1 d2 => kk g a (Or.inr (Or.inr (Or.inr ⟨e, b⟩))))
  · have e : 9 ≤ k := (nI_leI (a := 9) (by decide) (by omega)).mp c2
    have e3 : ¬ k = 12 := fun z => c3 (by rw [z]; rfl)
    refine t _ (fun g a b d1 d2 => kk g a (Or.inr (Or.inr (Or.inl ⟨e, by omega, ?_⟩))))
    rw [b, show (4 : Int32) = nI 4 from rfl, nI_add, show (9 : Int32) = nI 9 from rfl, pk_sub (by omega)]
    congr 1
    omega
  · have e : 3 ≤ k := (nI_leI (a := 3) (by decide) (by omega)).mp c
    have e2 : k < 9 := Nat.not_le.mp fun z => c2 (nI_le (a := 9) z (by omega))
    refine t _ (fun g a b d1 d2 => kk g a (Or.inr (Or.inl ⟨e, e2, b, ?_⟩)))
    rw [d2 e, show (3 : Int32) = nI 3 from rfl, pk_sub (by omega)]
  · have e : k < 3 := Nat.not_le.mp fun z => c (nI_le (a := 3) z (by omega))
    exact t _ (fun g a b d1 d2 => kk g a (Or.inl ⟨e, b, d1 e⟩))
theorem zL_next_k (hW : ∀ j, j < 12 → N 24 j = zWds j) {wl : List Int32} {W : Int64} {f : Nat → Int32} (hm : ∀ j, j < 12 → (zWds j = W ↔ wl = zKwR.getD j [])) (kk : zr_X12_next Q 136 [some (.ref 0), none, none, none, some (.int (nI (zKx wl zKwR 0)))] [] (ab_u M0 0 f) N) : ∀ (ks : List (List Int32)) (j : Nat), j + ks.length = 12 → zKwR.drop j = ks → zKx wl ks j = zKx wl zKwR 0 → zr_X12_next Q 111 [some (.ref 0), none, some (.long W), none, some (.int (nI j))] [] (ab_u M0 0 f) N := by
  intro ks
  induction ks with
  | nil =>
    intro j hj hd he
    have e : j = 12 := by simpa using hj
    subst e
    refine zv_X12_next_111 _ _ ⟨fun _ => ?_, fun c => absurd (show nI 12 ≤ nI 12 from nI_le (by decide) (by decide)) c⟩
    rw [← he] at kk
    exact kk
  | cons w r ih =>
    intro j hj hd he
    rw [List.length_cons] at hj
    have hg : zKwR.getD j [] = w := by
      have : (zKwR.drop j)[0]? = some w := by rw [hd]; rfl
      rw [List.getElem?_drop, Nat.add_zero] at this
      rw [List.getD_eq_getElem?_getD, this]
      rfl
    have hdn : zKwR.drop (j + 1) = r := by
      rw [← List.drop_drop, hd]
      rfl
    refine zv_X12_next_111 _ _ ?_
    rw [nI_clamp (show j < 2 ^ 31 by omega), hW j (by omega), nI_1]
    have cz : lg_cmp (zWds j) W = 0 ↔ zWds j = W := lg_cmp_eq _ _
    refine ⟨fun c => absurd c (show ¬ nI 12 ≤ nI j from nI_ge (by omega) (by decide)), fun _ => ⟨nI_in_ (by omega), fun c => ?_, fun c => ?_⟩⟩
    · have e := (hm j (by omega)).mp (cz.mp c)
      rw [hg] at e
      have e2 : zKx wl (w :: r) j = j := if_pos e
      rw [e2] at he
      rw [← he] at kk
      exact kk
    · have e : ¬ wl = w := fun z => c (cz.mpr ((hm j (by omega)).mpr (by rw [hg]; exact z)))
      have e2 : zKx wl (w :: r) j = zKx wl r (j + 1) := if_neg e
      rw [e2] at he
      exact ih (j + 1) (by omega) hdn he
/-- a number's digits -/
theorem zL_next_d (hT : zTpR M0 N n) {e : Nat} {num : Int32} (hpe : pl < e) (he : e ≤ n) (kk : ∀ g : Nat → Int32, (∀ j, j ≠ 50 → j ≠ 52 → j ≠ 53 → j ≠ 51 → g j = M0 0 j) → g 51 = nI pl → g 50 = nI e → ((e - pl ≤ 4 ∧ g 52 = 1 ∧ g 53 = num) ∨ (4 < e - pl ∧ g 52 = -1)) → Q none (ab_u M0 0 g) N) : ∀ (r j : Nat) (f : Nat → Int32), j + r = n → pl ≤ j → zRun zbD (M0 12) (n - j) j = e → (∀ q, q ≠ 50 → q ≠ 52 → q ≠ 53 → q ≠ 51 → f q = M0 0 q) → f 51 = nI pl → f 50 = nI j → (e - pl ≤ 4 → zNumF (M0 12) (e - j) j (f 53) = num) → zr_X12_next Q 214 [some (.ref 0), none, some (.int (nI (j - pl))), none, none] [] (ab_u M0 0 f) N := by
  obtain ⟨hn, h20, hB, hWd⟩ := hT
  intro r
  have stop : ∀ (f : Nat → Int32), (∀ q, q ≠ 50 → q ≠ 52 → q ≠ 53 → q ≠ 51 → f q = M0 0 q) → f 51 = nI pl → f 50 = nI e → (e - pl ≤ 4 → zNumF (M0 12) (e - e) e (f 53) = num) → (nI (e - pl) ≤ 4 → let z1 : Nat → Int32 := upd f 52 1; Q none (ab_u (ab_u M0 0 f) 0 z1) N) ∧ (¬ (nI (e - pl) ≤ 4) → let z2 : Nat → Int32 := upd f 52 (-1); Q none (ab_u (ab_u M0 0 f) 0 z2) N) := by
    intro f f1 f51 f50 fn
    refine ⟨fun c => ?_, fun c => ?_⟩
    · have c2 : e - pl ≤ 4 := (nI_leI (b := 4) (by omega) (by decide)).mp c
      intro z1
      rw [ab_u_u]
      have := fn c2
      rw [Nat.sub_self] at this
      refine kk z1 (fun j a b d e2 => by simp only [z1]; rw [upd_ne _ _ b]; exact f1 j a b d e2) (by simp only [z1]; rw [upd_ne _ _ (by decide), f51]) (by simp only [z1]; rw [upd_ne _ _ (by decide), f50]) (Or.inl ⟨c2, by simp only [z1]; rw [upd_eq], by simp only [z1]; rw [upd_ne _ _ (by decide)]; exact this⟩)
    · have c2 : 4 < e - pl := Nat.not_le.mp fun z => c (nI_le (b := 4) z (by decide))
      intro z2
      rw [ab_u_u]
      refine kk z2 (fun j a b d e2 => by simp only [z2]; rw [upd_ne _ _ b]; exact f1 j a b d e2) (by simp only [z2]; rw [upd_ne _ _ (by decide), f51]) (by simp only [z2]; rw [upd_ne _ _ (by decide), f50]) (Or.inr ⟨c2, by simp only [z2]; rw [upd_eq]⟩)
  induction r with
  | zero =>
    intro j f hj hpj hr f1 f51 f50 fn
    have ej : e = j := by rw [← hr, show n - j = 0 by omega]; rfl
    subst ej
    refine zv_X12_next_214 _ ?_
    rw [ab_u_eq, f50, f1 20 (by decide) (by decide) (by decide) (by decide), h20]
    exact ⟨fun _ => stop f f1 f51 f50 fn, fun c => absurd (nI_le (by omega) (by omega)) c⟩
  | succ r ih =>
    intro j f hj hpj hr f1 f51 f50 fn
    have hjn : j < n := by omega
    refine zv_X12_next_214 _ ?_
    rw [ab_u_eq, f50, f1 20 (by decide) (by decide) (by decide) (by decide), h20, nI_clamp (show j < 2 ^ 31 by omega), ab_u_ne _ _ (show (12 : Nat) ≠ 0 by decide), nI_1]
    refine ⟨fun c => absurd c (nI_ge (by omega) (by omega)), fun _ => ⟨nI_in_ (by omega), fun c => ?_, fun c => ?_⟩⟩
    · have hd := zbD_b.mp c
      have ej : e = j := by rw [← hr, zRun_st (fun z => hd z.2)]
      subst ej
      exact stop f f1 f51 f50 fn
    · have hd : zbD (M0 12 j) = true := Decidable.byContradiction fun z => c (zbD_b.mpr z)
      rw [zRun_go hjn hd] at hr
      have hje : j < e := by have := zRun_ge zbD (M0 12) (n - (j + 1)) (j + 1); omega
      have step : ∀ v : Int32, (e - pl ≤ 4 → zNumF (M0 12) (e - (j + 1)) (j + 1) v = num) → let z7 : Nat → Int32 := upd f 53 v; let z8 : Nat → Int32 := upd z7 50 (z7 50 + 1); zr_X12_next Q 214 [some (.ref 0), none, some (.int (nI (j - pl + 1))), none, none] [] (ab_u (ab_u (ab_u M0 0 f) 0 z7) 0 z8) N := by
        intro v hv z7 z8
        rw [ab_u_u, ab_u_u, show j - pl + 1 = j + 1 - pl by omega]
        refine ih (j + 1) z8 (by omega) (by omega) hr (fun q a b d e2 => by simp only [z8, z7]; rw [upd_ne _ _ a, upd_ne _ _ d]; exact f1 q a b d e2) (by simp only [z8, z7]; rw [upd_ne _ _ (by decide), upd_ne _ _ (by decide), f51]) (by simp only [z8, z7]; rw [upd_eq, upd_ne _ _ (by decide), f50, nI_1]) (fun z => ?_)
        simp only [z8, z7]
        rw [upd_ne _ _ (by decide), upd_eq]
        exact hv z
      refine ⟨fun c4 => ?_, fun c4 => ⟨nI_in_ (by omega), ?_⟩⟩
      · have g4 : 4 ≤ j - pl := (nI_leI (a := 4) (by decide) (by omega)).mp c4
        exact step 0 (fun z => by omega)
      · refine step _ (fun z => ?_)
        have := fn z
        rw [show e - j = (e - (j + 1)) + 1 by omega] at this
        have e10 : (10 : Int32) * f 53 + M0 12 j - 48 = f 53 * 10 + M0 12 j - 48 := by rw [Int32.mul_comm]
        rw [e10]
        exact this
end Nx
