/-! the reference: a part of a text, read *)
-/
def zt_X12_eRead : ab_T := ab_lq (α := Nat × Nat × Nat × Nat) (fun x r M N => r = [] ∧ zTpR M N x.1 ∧ x.2.1 ≤ x.1 ∧ M 0 50 = nI x.2.1 ∧ M 0 23 = nI x.2.2.1 ∧ x.2.2.1 < 6 ∧ M 0 58 = nI x.2.2.2 ∧ x.2.2.2 ≤ x.2.1)
  (fun x M N o M2 N2 => N2 = N ∧ ((∃ p, zR (M 12) x.1 x.2.1 [] [] true (.inl p) ∧ zYF M M2 x.2.2.1 x.2.2.2 ∧ o = some (.int 0) ∧ M2 0 51 = nI p ∧ p ≤ x.1) ∨ (∃ (i2 : Nat) (O : List Int32), zR (M 12) x.1 x.2.1 [] [] true (.inr (i2, O)) ∧ zYR M M2 x.2.2.1 x.2.2.2 [] O ∧ o = some (.int 1) ∧ M2 0 50 = nI i2 ∧ i2 ≤ x.1 ∧ x.2.2.2 + O.length ≤ i2)))
theorem zt_X12_eRead_mono : ab_mono zt_X12_eRead := ab_lq_mono _ _
theorem zV_X12_eRead : ab_recv zw_M vwCl RX12 zt_X12_eRead := ab_lq_v
def zp_X12_eRead : ab_P := [(0, .aload_n 0, 1, [0], []),
  (1, .iconst 0, 2, [], [0]),
  (2, .putfield 220, 5, [], []),
  (5, .aload_n 0, 6, [0], []),
  (6, .iconst 0, 7, [], [0]),
  (7, .putfield 226, 10, [], []),
  (10, .iconst 1, 11, [], [1]),
  (11, .istore_n 1, 12, [1], []),
  (12, .iconst 1, 13, [], [1]),
  (13, .istore_n 2, 14, [2], []),
  (14, .aload_n 0, 15, [0], []),
  (15, .invokevirtual 239, 18, [], []),
  (18, .iload_n 1, 19, [1], []),
  (19, .ifCond .eq 131, 22, [150], []),
  (22, .aload_n 0, 23, [0], []),
  (23, .getfield 207, 26, [], []),
  (26, .iconst 1, 27, [], [1]),
  (27, .if_icmp .eq 11, 30, [38], []),
  (30, .aload_n 0, 31, [0], []),
  (31, .getfield 207, 34, [], []),
  (34, .iconst 2, 35, [], [2]),
  (35, .if_icmp .ne 40, 38, [75], []),
  (38, .aload_n 0, 39, [0], []),
  (39, .aload_n 0, 40, [0], []),
  (40, .getfield 207, 43, [], []),
  (43, .iconst 1, 44, [], [1]),
  (44, .if_icmp .ne 13, 47, [57], []),
  (47, .ldc 242, 49, [], []),
  (49, .aload_n 0, 50, [0], []),
  (50, .getfield 210, 53, [], []),
  (53, .iadd, 54, [], []),
  (54, .goto 7, 57, [61], []),
  (57, .aload_n 0, 58, [0], []),
  (58, .getfield 210, 61, [], []),
  (61, .invokevirtual 229, 64, [], []),
  (64, .aload_n 0, 65, [0], []),
  (65, .bipush 7, 67, [], [7]),
  (67, .invokevirtual 236, 70, [], []),
  (70, .iconst 0, 71, [], [0]),
  (71, .istore_n 1, 72, [1], []),
  (72, .goto (-58), 75, [14], []),
  (75, .aload_n 0, 76, [0], []),
  (76, .getfield 207, 79, [], []),
  (79, .bipush 6, 81, [], [6]),
  (81, .if_icmp .ne 18, 84, [99], []),
  (84, .iload_n 2, 85, [2], []),
  (85, .ifCond .eq 14, 88, [99], []),
  (88, .aload_n 0, 89, [0], []),
  (89, .bipush 13, 91, [], [13]),
  (91, .invokevirtual 243, 94, [], []),
  (94, .ifCond .ne (-80), 97, [14], []),
  (97, .iconst 0, 98, [], [0]),
  (98, .ireturn, 99, [], []),
  (99, .aload_n 0, 100, [0], []),
  (100, .getfield 207, 103, [], []),
  (103, .bipush 45, 105, [], [45]),
  (105, .if_icmp .ne 19, 108, [124], []),
  (108, .aload_n 0, 109, [0], []),
  (109, .bipush 19, 111, [], [19]),
  (111, .invokevirtual 243, 114, [], []),
  (114, .ifCond .ne 5, 117, [119], []),
  (117, .iconst 0, 118, [], [0]),
  (118, .ireturn, 119, [], []),
  (119, .iconst 0, 120, [], [0]),
  (120, .istore_n 2, 121, [2], []),
  (121, .goto (-107), 124, [14], []),
  (124, .aload_n 0, 125, [0], []),
  (125, .getfield 207, 128, [], []),
  (128, .bipush 40, 130, [], [40]),
  (130, .if_icmp .ne 18, 133, [148], []),
  (133, .aload_n 0, 134, [0], []),
  (134, .iconst 0, 135, [], [0]),
  (135, .invokevirtual 243, 138, [], []),
  (138, .ifCond .ne 5, 141, [143], []),
  (141, .iconst 0, 142, [], [0]),
  (142, .ireturn, 143, [], []),
  (143, .iconst 1, 144, [], [1]),
  (144, .istore_n 2, 145, [2], []),
  (145, .goto (-131), 148, [14], []),
  (148, .iconst 0, 149, [], [0]),
  (149, .ireturn, 150, [], []),
  (150, .aload_n 0, 151, [0], []),
  (151, .getfield 207, 154, [], []),
  (154, .bipush 59, 156, [], [59]),
  (156, .if_icmp .ne 21, 159, [177], []),
  (159, .aload_n 0, 160, [0], []),
  (160, .iconst 1, 161, [], [1]),
  (161, .invokevirtual 236, 164, [], []),
  (164, .aload_n 0, 165, [0], []),
  (165, .getfield 220, 168, [], []),
  (168, .ifCond .ne 7, 171, [175], []),
  (171, .iconst 1, 172, [], [1]),
  (172, .goto 4, 175, [176], []),
  (175, .iconst 0, 176, [], [0]),
  (176, .ireturn, 177, [], []),
  (177, .aload_n 0, 178, [0], []),
  (178, .getfield 207, 181, [], []),
  (181, .bipush 41, 183, [], [41]),
  (183, .if_icmp .ne 46, 186, [229], []),
  (186, .aload_n 0, 187, [0], []),
  (187, .iconst 1, 188, [], [1]),
  (188, .invokevirtual 236, 191, [], []),
  (191, .aload_n 0, 192, [0], []),
  (192, .getfield 220, 195, [], []),
  (195, .ifCond .ne 5, 198, [200], []),
  (198, .iconst 0, 199, [], [0]),
  (199, .ireturn, 200, [], []),
  (200, .aload_n 0, 201, [0], []),
  (201, .dup, 202, [], []),
  (202, .getfield 220, 205, [], []),
  (205, .iconst 1, 206, [], [1]),
  (206, .isub, 207, [], []),
  (207, .putfield 220, 210, [], []),
  (210, .aload_n 0, 211, [0], []),
  (211, .dup, 212, [], []),
  (212, .getfield 226, 215, [], []),
  (215, .iconst 1, 216, [], [1]),
  (216, .isub, 217, [], []),
  (217, .putfield 226, 220, [], []),
  (220, .aload_n 0, 221, [0], []),
  (221, .bipush 7, 223, [], [7]),
  (223, .invokevirtual 236, 226, [], []),
  (226, .goto (-212), 229, [14], []),
  (229, .aload_n 0, 230, [0], []),
  (230, .invokevirtual 246, 233, [], []),
  (233, .istore_n 3, 234, [3], []),
  (234, .iload_n 3, 235, [3], []),
  (235, .iconst (-1), 236, [], [(-1)]),
  (236, .if_icmp .eq 11, 239, [247], []),
  (239, .aload_n 0, 240, [0], []),
  (240, .iload_n 3, 241, [3], []),
  (241, .invokevirtual 250, 244, [], []),
  (244, .ifCond .ne 5, 247, [249], []),
  (247, .iconst 0, 248, [], [0]),
  (248, .ireturn, 249, [], []),
  (249, .iconst 1, 250, [], [1]),
  (250, .istore_n 1, 251, [1], []),
  (251, .iload_n 3, 252, [3], []),
  (252, .bipush 12, 254, [], [12]),
  (254, .if_icmp .gt 7, 257, [261], []),
  (257, .iconst 1, 258, [], [1]),
  (258, .goto 4, 261, [262], []),
  (261, .iconst 0, 262, [], [0]),
  (262, .istore_n 2, 263, [2], []),
  (263, .goto (-249), 266, [14], [])]
theorem zo_X12_eRead : ab_ok cX12_eRead zp_X12_eRead = true := by decide +kernel
def zg_X12_eRead : ab_G := (zw_M, [], zf_X12, zc_X12, [], [(229, 2, zt_X12_puts), (236, 2, zt_X12_unwinds), (239, 1, zt_X12_next), (243, 2, zt_X12_opensOne), (246, 1, zt_X12_signOf), (250, 2, zt_X12_between)], [])
theorem zm_X12_eRead : ab_MG zg_X12_eRead := ab_MGof (List.forall_mem_cons.mpr ⟨zt_X12_puts_mono, List.forall_mem_cons.mpr ⟨zt_X12_unwinds_mono, List.forall_mem_cons.mpr ⟨zt_X12_next_mono, List.forall_mem_cons.mpr ⟨zt_X12_opensOne_mono, List.forall_mem_cons.mpr ⟨ab_pure_mono _, List.forall_mem_cons.mpr ⟨zt_X12_between_mono, List.forall_mem_nil _⟩⟩⟩⟩⟩⟩) (List.forall_mem_nil _)
abbrev zr_X12_eRead (Q : ab_R) : ab_K := ab_Run zg_X12_eRead zp_X12_eRead (some .boolean) 4 Q
set_option maxRecDepth 20000 in
theorem zv_X12_eRead_0 {Q : ab_R} {M : ab_M} {N : ab_N}  (h : let z1 : Nat → Int32 := upd (M 0) 56 (0 : Int32); let z2 : Nat → Int32 := upd (z1) 57 (0 : Int32); zr_X12_eRead Q 14 [some (.ref 0), some (.int (1 : Int32)), some (.int (1 : Int32)), none] [] (ab_u (ab_u M 0 z1) 0 z2) N) : zr_X12_eRead Q 0 [some (.ref 0)] [] M N := ab_Run_s zm_X12_eRead (sp := [(14, [true, true, true, false]), (18, [true, true, true, false]), (38, [true, false, true, false]), (64, [true, false, true, false]), (70, [true, false, true, false]), (94, [true, true, true, false]), (99, [true, true, false, false]), (114, [true, true, false, false]), (138, [true, true, false, false]), (164, [true, false, false, false]), (191, [true, true, true, false]), (226, [true, true, true, false]), (244, [true, false, false, true])]) 147 h
set_option maxRecDepth 20000 in
theorem zv_X12_eRead_14 {Q : ab_R} {M : ab_M} {N : ab_N} (l1 : Int32) (l2 : Int32) (h : zt_X12_next [.ref 0] M N (fun r M2 N2 => zr_X12_eRead Q 18 [some (.ref 0), some (.int l1), some (.int l2), none] (ab_ol r []) M2 N2)) : zr_X12_eRead Q 14 [some (.ref 0), some (.int l1), some (.int l2), none] [] M N := ab_Run_s zm_X12_eRead (sp := [(14, [true, true, true, false]), (18, [true, true, true, false]), (38, [true, false, true, false]), (64, [true, false, true, false]), (70, [true, false, true, false]), (94, [true, true, true, false]), (99, [true, true, false, false]), (114, [true, true, false, false]), (138, [true, true, false, false]), (164, [true, false, false, false]), (191, [true, true, true, false]), (226, [true, true, true, false]), (244, [true, false, false, true])]) 147 h
set_option maxRecDepth 20000 in
theorem zv_X12_eRead_18 {Q : ab_R} {M : ab_M} {N : ab_N} (l1 : Int32) (l2 : Int32) (h : (l1 = 0 → ((M 0 52) = (59 : Int32) → zt_X12_unwinds [.ref 0, .int (1 : Int32)] M N (fun r M2 N2 => zr_X12_eRead Q 164 [some (.ref 0), none, none, none] (ab_ol r []) M2 N2)) ∧ (¬ ((M 0 52) = (59 : Int32)) → ((M 0 52) = (41 : Int32) → zt_X12_unwinds [.ref 0, .int (1 : Int32)] M N (fun r M2 N2 => zr_X12_eRead Q 191 [some (.ref 0), some (.int l1), some (.int l2), none] (ab_ol r []) M2 N2)) ∧ (¬ ((M 0 52) = (41 : Int32)) → ((zSgR ((M 0) 52)) = (-1 : Int32) → narrow .boolean (.int (0 : Int32)) = .int (0 : Int32) ∧ Q (some (.int (0 : Int32))) M N) ∧ (¬ ((zSgR ((M 0) 52)) = (-1 : Int32)) → zt_X12_between [.ref 0, .int (zSgR ((M 0) 52))] M N (fun r M2 N2 => zr_X12_eRead Q 244 [some (.ref 0), none, none, some (.int (zSgR ((M 0) 52)))] (ab_ol r []) M2 N2))))) ∧ (¬ (l1 = 0) → ((M 0 52) = (1 : Int32) → zr_X12_eRead Q 38 [some (.ref 0), none, some (.int l2), none] [] M N) ∧ (¬ ((M 0 52) = (1 : Int32)) → ((M 0 52) = (2 : Int32) → zr_X12_eRead Q 38 [some (.ref 0), none, some (.int l2), none] [] M N) ∧ (¬ ((M 0 52) = (2 : Int32)) → ((M 0 52) = (6 : Int32) → (l2 = 0 → zr_X12_eRead Q 99 [some (.ref 0), some (.int l1), none, none] [] M N) ∧ (¬ (l2 = 0) → zt_X12_opensOne [.ref 0, .int (13 : Int32)] M N (fun r M2 N2 => zr_X12_eRead Q 94 [some (.ref 0), some (.int l1), some (.int l2), none] (ab_ol r []) M2 N2))) ∧ (¬ ((M 0 52) = (6 : Int32)) → zr_X12_eRead Q 99 [some (.ref 0), some (.int l1), none, none] [] M N))))) : zr_X12_eRead Q 18 [some (.ref 0), some (.int l1), some (.int l2), none] [] M N := ab_Run_s zm_X12_eRead (sp := [(14, [true, true, true, false]), (18, [true, true, true, false]), (38, [true, false, true, false]), (64, [true, false, true, false]), (70, [true, false, true, false]), (94, [true, true, true, false]), (99, [true, true, false, false]), (114, [true, true, false, false]), (138, [true, true, false, false]), (164, [true, false, false, false]), (191, [true, true, true, false]), (226, [true, true, true, false]), (244, [true, false, false, true])]) 147 h
set_option maxRecDepth 20000 in
theorem zv_X12_eRead_38 {Q : ab_R} {M : ab_M} {N : ab_N} (l2 : Int32) (h : ((M 0 52) = (1 : Int32) → zt_X12_puts [.ref 0, .int ((100000 : Int32) + (M 0 53))] M N (fun r M2 N2 => zr_X12_eRead Q 64 [some (.ref 0), none, some (.int l2), none] (ab_ol r []) M2 N2)) ∧ (¬ ((M 0 52) = (1 : Int32)) → zt_X12_puts [.ref 0, .int (M 0 53)] M N (fun r M2 N2 => zr_X12_eRead Q 64 [some (.ref 0), none, some (.int l2), none] (ab_ol r []) M2 N2))) : zr_X12_eRead Q 38 [some (.ref 0), none, some (.int l2), none] [] M N := ab_Run_s zm_X12_eRead (sp := [(14, [true, true, true, false]), (18, [true, true, true, false]), (38, [true, false, true, false]), (64, [true, false, true, false]), (70, [true, false, true, false]), (94, [true, true, true, false]), (99, [true, true, false, false]), (114, [true, true, false, false]), (138, [true, true, false, false]), (164, [true, false, false, false]), (191, [true, true, true, false]), (226, [true, true, true, false]), (244, [true, false, false, true])]) 147 h
set_option maxRecDepth 20000 in
theorem zv_X12_eRead_64 {Q : ab_R} {M : ab_M} {N : ab_N} (l2 : Int32) (h : zt_X12_unwinds [.ref 0, .int (7 : Int32)] M N (fun r M2 N2 => zr_X12_eRead Q 70 [some (.ref 0), none, some (.int l2), none] (ab_ol r []) M2 N2)) : zr_X12_eRead Q 64 [some (.ref 0), none, some (.int l2), none] [] M N := ab_Run_s zm_X12_eRead (sp := [(14, [true, true, true, false]), (18, [true, true, true, false]), (38, [true, false, true, false]), (64, [true, false, true, false]), (70, [true, false, true, false]), (94, [true, true, true, false]), (99, [true, true, false, false]), (114, [true, true, false, false]), (138, [true, true, false, false]), (164, [true, false, false, false]), (191, [true, true, true, false]), (226, [true, true, true, false]), (244, [true, false, false, true])]) 147 h
set_option maxRecDepth 20000 in
theorem zv_X12_eRead_70 {Q : ab_R} {M : ab_M} {N : ab_N} (l2 : Int32) (h : zr_X12_eRead Q 14 [some (.ref 0), some (.int (0 : Int32)), some (.int l2), none] [] M N) : zr_X12_eRead Q 70 [some (.ref 0), none, some (.int l2), none] [] M N := ab_Run_s zm_X12_eRead (sp := [(14, [true, true, true, false]), (18, [true, true, true, false]), (38, [true, false, true, false]), (64, [true, false, true, false]), (70, [true, false, true, false]), (94, [true, true, true, false]), (99, [true, true, false, false]), (114, [true, true, false, false]), (138, [true, true, false, false]), (164, [true, false, false, false]), (191, [true, true, true, false]), (226, [true, true, true, false]), (244, [true, false, false, true])]) 147 h
set_option maxRecDepth 20000 in
theorem zv_X12_eRead_94 {Q : ab_R} {M : ab_M} {N : ab_N} (l1 : Int32) (l2 : Int32) (s0 : Int32) (h : (s0 = 0 → narrow .boolean (.int (0 : Int32)) = .int (0 : Int32) ∧ Q (some (.int (0 : Int32))) M N) ∧ (¬ (s0 = 0) → zr_X12_eRead Q 14 [some (.ref 0), some (.int l1), some (.int l2), none] [] M N)) : zr_X12_eRead Q 94 [some (.ref 0), some (.int l1), some (.int l2), none] [.int s0] M N := ab_Run_s zm_X12_eRead (sp := [(14, [true, true, true, false]), (18, [true, true, true, false]), (38, [true, false, true, false]), (64, [true, false, true, false]), (70, [true, false, true, false]), (94, [true, true, true, false]), (99, [true, true, false, false]), (114, [true, true, false, false]), (138, [true, true, false, false]), (164, [true, false, false, false]), (191, [true, true, true, false]), (226, [true, true, true, false]), (244, [true, false, false, true])]) 147 h
set_option maxRecDepth 20000 in
theorem zv_X12_eRead_99 {Q : ab_R} {M : ab_M} {N : ab_N} (l1 : Int32) (h : ((M 0 52) = (45 : Int32) → zt_X12_opensOne [.ref 0, .int (19 : Int32)] M N (fun r M2 N2 => zr_X12_eRead Q 114 [some (.ref 0), some (.int l1), none, none] (ab_ol r []) M2 N2)) ∧ (¬ ((M 0 52) = (45 : Int32)) → ((M 0 52) = (40 : Int32) → zt_X12_opensOne [.ref 0, .int (0 : Int32)] M N (fun r M2 N2 => zr_X12_eRead Q 138 [some (.ref 0), some (.int l1), none, none] (ab_ol r []) M2 N2)) ∧ (¬ ((M 0 52) = (40 : Int32)) → narrow .boolean (.int (0 : Int32)) = .int (0 : Int32) ∧ Q (some (.int (0 : Int32))) M N))) : zr_X12_eRead Q 99 [some (.ref 0), some (.int l1), none, none] [] M N := ab_Run_s zm_X12_eRead (sp := [(14, [true, true, true, false]), (18, [true, true, true, false]), (38, [true, false, true, false]), (64, [true, false, true, false]), (70, [true, false, true, false]), (94, [true, true, true, false]), (99, [true, true, false, false]), (114, [true, true, false, false]), (138, [true, true, false, false]), (164, [true, false, false, false]), (191, [true, true, true, false]), (226, [true, true, true, false]), (244, [true, false, false, true])]) 147 h
set_option maxRecDepth 20000 in
theorem zv_X12_eRead_114 {Q : ab_R} {M : ab_M} {N : ab_N} (l1 : Int32) (s0 : Int32) (h : (s0 = 0 → narrow .boolean (.int (0 : Int32)) = .int (0 : Int32) ∧ Q (some (.int (0 : Int32))) M N) ∧ (¬ (s0 = 0) → zr_X12_eRead Q 14 [some (.ref 0), some (.int l1), some (.int (0 : Int32)), none] [] M N)) : zr_X12_eRead Q 114 [some (.ref 0), some (.int l1), none, none] [.int s0] M N := ab_Run_s zm_X12_eRead (sp := [(14, [true, true, true, false]), (18, [true, true, true, false]), (38, [true, false, true, false]), (64, [true, false, true, false]), (70, [true, false, true, false]), (94, [true, true, true, false]), (99, [true, true, false, false]), (114, [true, true, false, false]), (138, [true, true, false, false]), (164, [true, false, false, false]), (191, [true, true, true, false]), (226, [true, true, true, false]), (244, [true, false, false, true])]) 147 h
set_option maxRecDepth 20000 in
theorem zv_X12_eRead_138 {Q : ab_R} {M : ab_M} {N : ab_N} (l1 : Int32) (s0 : Int32) (h : (s0 = 0 → narrow .boolean (.int (0 : Int32)) = .int (0 : Int32) ∧ Q (some (.int (0 : Int32))) M N) ∧ (¬ (s0 = 0) → zr_X12_eRead Q 14 [some (.ref 0), some (.int l1), some (.int (1 : Int32)), none] [] M N)) : zr_X12_eRead Q 138 [some (.ref 0), some (.int l1), none, none] [.int s0] M N := ab_Run_s zm_X12_eRead (sp := [(14, [true, true, true, false]), (18, [true, true, true, false]), (38, [true, false, true, false]), (64, [true, false, true, false]), (70, [true, false, true, false]), (94, [true, true, true, false]), (99, [true, true, false, false]), (114, [true, true, false, false]), (138, [true, true, false, false]), (164, [true, false, false, false]), (191, [true, true, true, false]), (226, [true, true, true, false]), (244, [true, false, false, true])]) 147 h
set_option maxRecDepth 20000 in
theorem zv_X12_eRead_164 {Q : ab_R} {M : ab_M} {N : ab_N}  (h : ((M 0 56) = 0 → narrow .boolean (.int (1 : Int32)) = .int (1 : Int32) ∧ Q (some (.int (1 : Int32))) M N) ∧ (¬ ((M 0 56) = 0) → narrow .boolean (.int (0 : Int32)) = .int (0 : Int32) ∧ Q (some (.int (0 : Int32))) M N)) : zr_X12_eRead Q 164 [some (.ref 0), none, none, none] [] M N := ab_Run_s zm_X12_eRead (sp := [(14, [true, true, true, false]), (18, [true, true, true, false]), (38, [true, false, true, false]), (64, [true, false, true, false]), (70, [true, false, true, false]), (94, [true, true, true, false]), (99, [true, true, false, false]), (114, [true, true, false, false]), (138, [true, true, false, false]), (164, [true, false, false, false]), (191, [true, true, true, false]), (226, [true, true, true, false]), (244, [true, false, false, true])]) 147 h
set_option maxRecDepth 20000 in
theorem zv_X12_eRead_191 {Q : ab_R} {M : ab_M} {N : ab_N} (l1 : Int32) (l2 : Int32) (h : ((M 0 56) = 0 → narrow .boolean (.int (0 : Int32)) = .int (0 : Int32) ∧ Q (some (.int (0 : Int32))) M N) ∧ (¬ ((M 0 56) = 0) → let z1 : Nat → Int32 := upd (M 0) 56 ((M 0 56) - (1 : Int32)); let z2 : Nat → Int32 := upd (z1) 57 ((z1 57) - (1 : Int32)); zt_X12_unwinds [.ref 0, .int (7 : Int32)] (ab_u (ab_u M 0 z1) 0 z2) N (fun r M2 N2 => zr_X12_eRead Q 226 [some (.ref 0), some (.int l1), some (.int l2), none] (ab_ol r []) M2 N2))) : zr_X12_eRead Q 191 [some (.ref 0), some (.int l1), some (.int l2), none] [] M N := ab_Run_s zm_X12_eRead (sp := [(14, [true, true, true, false]), (18, [true, true, true, false]), (38, [true, false, true, false]), (64, [true, false, true, false]), (70, [true, false, true, false]), (94, [true, true, true, false]), (99, [true, true, false, false]), (114, [true, true, false, false]), (138, [true, true, false, false]), (164, [true, false, false, false]), (191, [true, true, true, false]), (226, [true, true, true, false]), (244, [true, false, false, true])]) 147 h
set_option maxRecDepth 20000 in
theorem zv_X12_eRead_226 {Q : ab_R} {M : ab_M} {N : ab_N} (l1 : Int32) (l2 : Int32) (h : zr_X12_eRead Q 14 [some (.ref 0), some (.int l1), some (.int l2), none] [] M N) : zr_X12_eRead Q 226 [some (.ref 0), some (.int l1), some (.int l2), none] [] M N := ab_Run_s zm_X12_eRead (sp := [(14, [true, true, true, false]), (18, [true, true, true, false]), (38, [true, false, true, false]), (64, [true, false, true, false]), (70, [true, false, true, false]), (94, [true, true, true, false]), (99, [true, true, false, false]), (114, [true, true, false, false]), (138, [true, true, false, false]), (164, [true, false, false, false]), (191, [true, true, true, false]), (226, [true, true, true, false]), (244, [true, false, false, true])]) 147 h
set_option maxRecDepth 20000 in
theorem zv_X12_eRead_244 {Q : ab_R} {M : ab_M} {N : ab_N} (l3 : Int32) (s0 : Int32) (h : (s0 = 0 → narrow .boolean (.int (0 : Int32)) = .int (0 : Int32) ∧ Q (some (.int (0 : Int32))) M N) ∧ (¬ (s0 = 0) → ((12 : Int32) < l3 → zr_X12_eRead Q 14 [some (.ref 0), some (.int (1 : Int32)), some (.int (0 : Int32)), none] [] M N) ∧ (¬ ((12 : Int32) < l3) → zr_X12_eRead Q 14 [some (.ref 0), some (.int (1 : Int32)), some (.int (1 : Int32)), none] [] M N))) : zr_X12_eRead Q 244 [some (.ref 0), none, none, some (.int l3)] [.int s0] M N := ab_Run_s zm_X12_eRead (sp := [(14, [true, true, true, false]), (18, [true, true, true, false]), (38, [true, false, true, false]), (64, [true, false, true, false]), (70, [true, false, true, false]), (94, [true, true, true, false]), (99, [true, true, false, false]), (114, [true, true, false, false]), (138, [true, true, false, false]), (164, [true, false, false, false]), (191, [true, true, true, false]), (226, [true, true, true, false]), (244, [true, false, false, true])]) 147 h
theorem zUw_isLow (r : Nat) : ∀ (K : List Nat) (O : List Int32), zLow r (zUw r K O).1
  | [], _ => trivial
  | s :: K, O => by
    unfold zUw
    split
    · exact zUw_isLow r K _
    · rename_i h
      exact Nat.not_le.mp h
section Er
variable {Q : ab_R} {N : ab_N} {M0 : ab_M} {n i0 w o0 : Nat}
theorem zL_X12_eRead (hT : zTpR M0 N n)
  (kb : ∀ M2 p, zR (M0 12) n i0 [] [] true (.inl p) → zYF M0 M2 w o0 → M2 0 51 = nI p → p ≤ n → Q (some (.int 0)) M2 N)
  (kg : ∀ M2 i2 O, zR (M0 12) n i0 [] [] true (.inr (i2, O)) → zYR M0 M2 w o0 [] O → M2 0 50 = nI i2 → i2 ≤ n → o0 + O.length ≤ i2 → Q (some (.int 1)) M2 N) :
  ∀ (r i : Nat) (wd mn : Bool) (l2 : Int32) (K : List Nat) (O : List Int32) (M : ab_M), i + r = n → (wd = true → l2 = if mn = true then 1 else 0) → zYR M0 M w o0 K O → K.length + (o0 + O.length) ≤ i → M 0 50 = nI i → (∀ res, zYd (M0 12) n (wd, mn, i, K, O) res → zR (M0 12) n i0 [] [] true res) → zr_X12_eRead Q 14 [some (.ref 0), some (.int (if wd = true then 1 else 0)), some (.int l2), none] [] M N := by
  obtain ⟨hn, h20, h12, hW⟩ := id hT
  intro r
  induction r using Nat.strongRecOn with
  | ind r ih =>
  intro i wd mn l2 K O M hr hl2 h hl h50 hres
  have hi : i ≤ n := by omega
  obtain ⟨b1, b2, b3, b4, b5⟩ := zTk_b (M0 12) hi
  have e12 : M 12 = M0 12 := h.1 12 (by decide) (by decide) (by decide)
  have hTM : zTpR M N n := ⟨hn, by rw [h.2.1 20 (by omega) (by omega), h20], by rw [e12]; exact h12, hW⟩
  refine zv_X12_eRead_14 _ _ ⟨(n, i), _, rfl, ⟨rfl, hTM, hi, h50⟩, ?_⟩
  rintro o M2 N ⟨rfl, rfl, f, rfl, f0, f51, fR⟩
  dsimp only at f0 f51 fR ⊢
  rw [e12] at f51 fR
  have hY : zYR M0 (ab_u M 0 f) w o0 K O := zYR_tok h f0
  have g51 : ab_u M 0 f 0 51 = nI (zTk (M0 12) n i).2.2.1 := by rw [ab_u_eq, f51]
  have g52 : ab_u M 0 f 0 52 = f 52 := by rw [ab_u_eq]
  have g53 : ab_u M 0 f 0 53 = f 53 := by rw [ab_u_eq]
  have g50 : ab_u M 0 f 0 50 = f 50 := by rw [ab_u_eq]
  generalize ab_u M 0 f = M1 at hY g50 g51 g52 g53
  generalize ht : (zTk (M0 12) n i) = tk at *
  -- an error here
  have bad : ∀ M2 : ab_M, zYF M0 M2 w o0 → (∀ j, 50 ≤ j → j ≤ 53 → M2 0 j = M1 0 j) → zYd (M0 12) n (wd, mn, i, K, O) (.inl tk.2.2.1) → Q (some (.int 0)) M2 N :=
    fun M2 a b c => kb M2 _ (hres _ c) a (by rw [b 51 (by decide) (by decide), g51]) b3
  -- on with the next token
  have go : ¬ tk.1 = -1 → ∀ (wd2 mn2 : Bool) (l : Int32) (K2 : List Nat) (O2 : List Int32) (M2 : ab_M), (wd2 = true → l = if mn2 = true then 1 else 0) → zYR M0 M2 w o0 K2 O2 → (∀ j, 50 ≤ j → j ≤ 53 → M2 0 j = M1 0 j) → K2.length + O2.length ≤ K.length + O.length + 1 → (∀ res, zYd (M0 12) n (wd2, mn2, tk.2.2.2, K2, O2) res → zYd (M0 12) n (wd, mn, i, K, O) res) → zr_X12_eRead Q 14 [some (.ref 0), some (.int (if wd2 = true then 1 else 0)), some (.int l), none] [] M2 N := by
    intro hn1 wd2 mn2 l K2 O2 M2 q1 q2 q3 q4 q5
    have b6 := b5 hn1
    exact ih (n - tk.2.2.2) (by omega) tk.2.2.2 wd2 mn2 l K2 O2 M2 (by omega) q1 q2 (by omega) (by rw [q3 50 (by decide) (by decide), g50]; exact zTR_at fR hn1) (fun res z => hres res (q5 res z))
  cases wd with
  | true =>
    have e2 := hl2 rfl
    subst e2
    show zr_X12_eRead Q 18 [some (.ref 0), some (.int 1), _, none] [] M1 N
    rcases zTR_v fR with ⟨v1, v2, hv⟩ | ⟨v0, v1, v2, v6, v45, v40⟩
    · -- a value
      have nt : ¬ tk.1 = -1 := fun z => by rw [z] at v1; exact absurd v1 (by decide)
      have b6 := b5 nt
      obtain ⟨x, hx, ex⟩ : ∃ c : Int32, c = (if tk.1 = 0 then tk.2.1 else -tk.1) ∧ True := ⟨_, rfl, trivial⟩
      have put : ∀ v : Int32, v = zRc x → zt_X12_puts [.ref 0, .int v] M1 N (fun r M2 N2 => zr_X12_eRead Q 64 [some (.ref 0), none, some (.int (if mn = true then 1 else 0)), none] (ab_ol r []) M2 N2) := by
        intro v ev
        obtain ⟨a1, a2, a3, a4, a5, a6, a7, a8, a9, a10, a11⟩ := id hY
        refine ⟨(w, o0 + O.length, v), _, rfl, ⟨rfl, by rw [a2 23 (by omega) (by omega), a3], a4, a7, by dsimp only; omega⟩, ?_⟩
        rintro o M2 N ⟨rfl, rfl, rfl⟩
        refine zv_X12_eRead_64 _ ⟨(M0, w, o0, K, O ++ [x], 7), _, rfl, ⟨rfl, zYR_put (K2 := K) (c := x) hY (fun q hq => ?_) (fun j y z => ?_) ?_ ?_ ?_ a8 a10 (by dsimp only; omega), show 1 ≤ 7 by decide, show 7 ≤ 7 by decide⟩, ?_⟩
        · dsimp only; rw [ab_u_ne _ _ hq, ev]
        · dsimp only; rw [ab_u_eq, upd_ne _ _ (by omega)]
        · dsimp only; rw [ab_u_eq, upd_ne _ _ (by decide), a5]
        · dsimp only; rw [ab_u_eq, upd_ne _ _ (by decide), a6]
        · dsimp only; rw [ab_u_eq, upd_eq]
        rintro o M3 N ⟨rfl, rfl, q1, q2⟩
        dsimp only at q1 q2
        refine zv_X12_eRead_70 _ (go nt false false _ _ _ M3 (fun z => by cases z) q1 (fun j y z => ?_) ?_ (fun res z => zR_val (by rw [ht]; exact v1) (by rw [ht]; exact v2) (by rw [ht, ← hx]; exact z)))
        · rw [q2 j y z, ab_u_eq, upd_ne _ _ (by omega)]
        · have := zUw_len 7 K (O ++ [x])
          rw [List.length_append, List.length_singleton] at this
          omega
      refine zv_X12_eRead_18 _ _ ⟨fun c => absurd c (by decide), fun _ => ?_⟩
      rcases hv with ⟨t1, t2, t3⟩ | ⟨t1, kk, t2, t3, t4⟩
      · refine ⟨fun _ => zv_X12_eRead_38 _ ⟨fun _ => put _ ?_, fun c => absurd (by rw [g52, t1]) c⟩, fun c => absurd (by rw [g52, t1]) c⟩
        obtain ⟨vv, y1, y2⟩ := zTk_n (by rw [ht]; exact t2)
        rw [ht] at y2
        rw [g53, t3, hx, if_pos t2]
        unfold zRc
        rw [if_pos (by rw [y2]; exact nI_pos' (by omega))]
      · have n1 : ¬ M1 0 52 = 1 := by rw [g52, t1]; decide
        refine ⟨fun c => absurd c n1, fun _ => ⟨fun _ => zv_X12_eRead_38 _ ⟨fun c => absurd c n1, fun _ => put _ ?_⟩, fun c => absurd (by rw [g52, t1]) c⟩⟩
        rw [g53, t4, hx, t3]
        obtain ⟨y1, y2⟩ := (by decide +kernel : ∀ k, k < 6 → ¬ nI (k + 1) = 0 ∧ nI k = zRc (-nI (k + 1))) kk t2
        rw [if_neg y1]
        exact y2
    · -- no value
      have sz : ¬ tk.1 = -1 → K.length + 1 + (o0 + O.length) ≤ 160 := fun z => by have := b5 z; omega
      have op : ∀ s : Nat, (s = 0 ∨ s = 13 ∨ s = 19) → ¬ tk.1 = -1 → ∀ F : List Value → ab_M → ab_N → Prop, (zOp K = 5 → F [.int 0] M1 N) → (¬ zOp K = 5 → ∀ M2, (∀ j, 50 ≤ j → j ≤ 53 → M2 0 j = M1 0 j) → zYR M0 M2 w o0 (s :: K) O → F [.int 1] M2 N) → zt_X12_opensOne [.ref 0, .int (nI s)] M1 N (fun r M2 N2 => F (ab_ol r []) M2 N2) := by
        intro s hs nt F p5 n5
        refine ⟨(M0, w, o0, K, O, s), _, rfl, ⟨rfl, hY, hs, sz nt⟩, ?_⟩
        rintro o M2 N2 ⟨rfl, q, ⟨e5, rfl, rfl⟩ | ⟨e5, rfl, q2⟩⟩
        · exact p5 e5
        · exact n5 e5 M2 q q2
      have at99 : (tk.1 = 12 → mn = false) → zr_X12_eRead Q 99 [some (.ref 0), some (.int 1), none, none] [] M1 N := by
        intro c12
        refine zv_X12_eRead_99 _ ⟨fun c => ?_, fun c45 => ⟨fun c => ?_, fun c40 => ⟨ab_n0, bad M1 (zYR_F hY) (fun _ _ _ => rfl) ?_⟩⟩⟩
        · rw [g52] at c
          have e45 := v45.mp c
          have nt : ¬ tk.1 = -1 := by rw [e45]; decide
          refine op 19 (by decide) nt (fun r M2 N2 => zr_X12_eRead Q 114 [some (.ref 0), some (.int 1), none, none] r M2 N2) (fun h5 => zv_X12_eRead_114 _ _ ⟨fun _ => ⟨ab_n0, bad M1 (zYR_F hY) (fun _ _ _ => rfl) ?_⟩, fun c => absurd rfl c⟩) (fun h5 M2 q q2 => zv_X12_eRead_114 _ _ ⟨fun c => absurd c (by decide), fun _ => go nt true false 0 _ _ M2 (fun _ => rfl) q2 q (by rw [List.length_cons]; omega) (fun res z => ?_)⟩)
          · have := zR_full (B := M0 12) (n := n) (i := i) (K := K) (O := O) (mn := mn) (by rw [ht]; exact Or.inl e45) h5
            rw [ht] at this
            exact this
          · exact zR_neg (by rw [ht]; exact e45) h5 (by rw [ht]; exact z)
        · rw [g52] at c
          have e40 := v40.mp c
          have nt : ¬ tk.1 = -1 := by rw [e40]; decide
          refine op 0 (by decide) nt (fun r M2 N2 => zr_X12_eRead Q 138 [some (.ref 0), some (.int 1), none, none] r M2 N2) (fun h5 => zv_X12_eRead_138 _ _ ⟨fun _ => ⟨ab_n0, bad M1 (zYR_F hY) (fun _ _ _ => rfl) ?_⟩, fun c => absurd rfl c⟩) (fun h5 M2 q q2 => zv_X12_eRead_138 _ _ ⟨fun c => absurd c (by decide), fun _ => go nt true true 1 _ _ M2 (fun _ => rfl) q2 q (by rw [List.length_cons]; omega) (fun res z => ?_)⟩)
          · have := zR_full (B := M0 12) (n := n) (i := i) (K := K) (O := O) (mn := mn) (by rw [ht]; exact Or.inr e40) h5
            rw [ht] at this
            exact this
          · exact zR_par (by rw [ht]; exact e40) h5 (by rw [ht]; exact z)
        · rw [g52] at c45 c40
          have := zR_bad (B := M0 12) (n := n) (i := i) (K := K) (O := O) (mn := mn) (by rw [ht]; exact v0) (by rw [ht]; exact fun z => c45 (v45.mpr z)) (by rw [ht]; exact fun z => c40 (v40.mpr z)) (by rw [ht]; exact c12)
          rw [ht] at this
          exact this
      refine zv_X12_eRead_18 _ _ ⟨fun c => absurd c (by decide), fun _ => ⟨fun c => absurd (g52.symm.trans c) v1, fun _ => ⟨fun c => absurd (g52.symm.trans c) v2, fun _ => ⟨fun c => ?_, fun c => at99 (fun z => absurd (g52.trans (v6.mpr z)) c)⟩⟩⟩⟩
      have e12 := v6.mp (g52.symm.trans c)
      have nt : ¬ tk.1 = -1 := by rw [e12]; decide
      cases mn with
      | false => exact ⟨fun _ => at99 (fun _ => rfl), fun c => absurd rfl c⟩
      | true =>
        refine ⟨fun c => absurd c (by decide), fun _ => ?_⟩
        refine op 13 (by decide) nt (fun r M2 N2 => zr_X12_eRead Q 94 [some (.ref 0), some (.int 1), some (.int (if true = true then 1 else 0)), none] r M2 N2) (fun h5 => zv_X12_eRead_94 _ _ _ ⟨fun _ => ⟨ab_n0, bad M1 (zYR_F hY) (fun _ _ _ => rfl) ?_⟩, fun c => absurd rfl c⟩) (fun h5 M2 q q2 => zv_X12_eRead_94 _ _ _ ⟨fun c => absurd c (by decide), fun _ => go nt true true _ _ _ M2 (fun _ => rfl) q2 q (by rw [List.length_cons]; omega) (fun res z => ?_)⟩)
        · have := zR_fulln (B := M0 12) (n := n) (i := i) (K := K) (O := O) (by rw [ht]; exact e12) h5
          rw [ht] at this
          exact this
        · exact zR_not (by rw [ht]; exact e12) h5 (by rw [ht]; exact z)
  | false =>
    show zr_X12_eRead Q 18 [some (.ref 0), some (.int 0), _, none] [] M1 N
    obtain ⟨t59, t41, tsg⟩ := zTR_a fR
    have uw : ∀ (r : Nat), 1 ≤ r → r ≤ 7 → ∀ (K2 : List Nat) (O2 : List Int32) (M2 : ab_M), zYR M0 M2 w o0 K2 O2 → ∀ F : List Value → ab_M → ab_N → Prop, (∀ M3, zYR M0 M3 w o0 (zUw r K2 O2).1 (zUw r K2 O2).2 → (∀ j, 50 ≤ j → j ≤ 53 → M3 0 j = M2 0 j) → F [] M3 N) → zt_X12_unwinds [.ref 0, .int (nI r)] M2 N (fun r M2 N2 => F (ab_ol r []) M2 N2) := by
      intro r r1 r7 K2 O2 M2 hM2 F hF
      refine ⟨(M0, w, o0, K2, O2, r), _, rfl, ⟨rfl, hM2, r1, r7⟩, ?_⟩
      rintro o M3 N3 ⟨rfl, rfl, q1, q2⟩
      exact hF M3 q1 q2
    refine zv_X12_eRead_18 _ _ ⟨fun _ => ⟨fun c => ?_, fun c59 => ⟨fun c => ?_, fun c41 => ?_⟩⟩, fun c => absurd rfl c⟩
    · -- the end
      have e59 := t59.mp (g52.symm.trans c)
      have nt : ¬ tk.1 = -1 := by rw [e59]; decide
      refine uw 1 (by decide) (by decide) K O M1 hY (fun r M2 N2 => zr_X12_eRead Q 164 [some (.ref 0), none, none, none] r M2 N2) (fun M2 q1 q2 => zv_X12_eRead_164 ?_)
      have ul := zUw_len 1 K O
      have b6 := b5 nt
      cases hK : (zUw 1 K O).1 with
      | nil =>
        rw [hK] at q1 ul
        rw [q1.2.2.2.2.1]
        rw [List.length_nil] at ul
        refine ⟨fun _ => ⟨ab_n1, kg M2 tk.2.2.2 _ (hres _ (zYd_end ?_)) q1 (by rw [q2 50 (by decide) (by decide), g50]; exact zTR_at fR nt) (by omega) (by omega)⟩, fun c => absurd rfl c⟩
        unfold zYs1
        dsimp only
        rw [ht, if_neg (by decide), if_pos e59, hK]
      | cons s K2 =>
        rw [hK] at q1 ul
        have ln : (s :: K2).length = K2.length + 1 := rfl
        have a11 := q1.2.2.2.2.2.2.2.2.2.2
        rw [q1.2.2.2.2.1]
        refine ⟨fun c => absurd c (nI_ne0 (by omega) (by omega)), fun _ => ⟨ab_n0, bad M2 (zYR_F q1) q2 (zYd_end ?_)⟩⟩
        unfold zYs1
        dsimp only
        rw [ht, if_neg (by decide), if_pos e59, hK]
    · -- a bracket ends
      have e41 := t41.mp (g52.symm.trans c)
      have nt : ¬ tk.1 = -1 := by rw [e41]; decide
      have n59 : ¬ tk.1 = 59 := by rw [e41]; decide
      refine uw 1 (by decide) (by decide) K O M1 hY (fun r M2 N2 => zr_X12_eRead Q 191 [some (.ref 0), some (.int 0), some (.int l2), none] r M2 N2) (fun M2 q1 q2 => zv_X12_eRead_191 _ _ ?_)
      have ul := zUw_len 1 K O
      have lw := zUw_isLow 1 K O
      cases hK : (zUw 1 K O).1 with
      | nil =>
        rw [hK] at q1
        rw [q1.2.2.2.2.1]
        refine ⟨fun _ => ⟨ab_n0, bad M2 (zYR_F q1) q2 (zYd_end ?_)⟩, fun c => absurd rfl c⟩
        unfold zYs1
        dsimp only
        rw [ht, if_neg (by decide), if_neg n59, if_pos e41, hK]
      | cons s K2 =>
        rw [hK] at q1 ul lw
        have ln : (s :: K2).length = K2.length + 1 := rfl
        obtain ⟨a1, a2, a3, a4, a5, a6, a7, a8, a9, a10, a11⟩ := id q1
        have s0 : s = 0 := by
          have hs := a10 s List.mem_cons_self
          have : ∀ s, s < 20 → zRank s < 1 → s = 0 ∨ s < 11 := by decide +kernel
          have := this s (by omega) lw
          omega
        subst s0
        rw [ln] at a5
        refine ⟨fun c => absurd c (by rw [a5]; exact nI_ne0 (by omega) (by omega)), fun _ => ?_⟩
        intro z1 z2
        have y2 : zYR M0 (ab_u (ab_u M2 0 z1) 0 z2) w o0 K2 (zUw 1 K O).2 := by
          rw [ab_u_u]
          refine ⟨fun c x y z => by rw [ab_u_ne _ _ x]; exact a1 c x y z, fun j x y => ?_, a3, a4, ?_, ?_, ?_, ?_, ?_, fun z hz => a10 z (List.mem_cons_of_mem _ hz), by omega⟩
          · rw [ab_u_eq]; simp only [z2, z1]; rw [upd_ne _ _ (by omega), upd_ne _ _ (by omega)]; exact a2 j x y
          · rw [ab_u_eq]; simp only [z2, z1]; rw [upd_ne _ _ (by decide), upd_eq, a5, nI_pred]
          · rw [ab_u_eq]; simp only [z2, z1]; rw [upd_eq, upd_ne _ _ (by decide), a6]
            show nI ((if (0 : Nat) = 0 ∨ (0 : Nat) = 13 ∨ (0 : Nat) = 19 then 1 else 0) + zOp K2) - 1 = _
            rw [if_pos (by decide), Nat.add_comm, nI_pred]
          · rw [ab_u_eq]; simp only [z2, z1]; rw [upd_ne _ _ (by decide), upd_ne _ _ (by decide), a7]
          · rw [ab_u_ne _ _ (by decide)]; exact a8.2
          · rw [ab_u_ne _ _ (by decide)]; exact a9
        have y3 : ∀ j, 50 ≤ j → j ≤ 53 → (ab_u (ab_u M2 0 z1) 0 z2) 0 j = M1 0 j := fun j x y => by
          rw [ab_u_eq]; simp only [z2, z1]; rw [upd_ne _ _ (by omega), upd_ne _ _ (by omega)]; exact q2 j x y
        refine uw 7 (by decide) (by decide) K2 _ _ y2 (fun r M2 N2 => zr_X12_eRead Q 226 [some (.ref 0), some (.int 0), some (.int l2), none] r M2 N2) (fun M3 q3 q4 => zv_X12_eRead_226 _ _ (go nt false false l2 _ _ M3 (fun z => by cases z) q3 (fun j x y => (q4 j x y).trans (y3 j x y)) ?_ (fun res z => zYd_go ?_ z)))
        · have := zUw_len 7 K2 (zUw 1 K O).2
          omega
        · unfold zYs1
          dsimp only
          rw [ht, if_neg (by decide), if_neg n59, if_pos e41, hK]
    · -- a sign between two values, or none
      have n59 : ¬ tk.1 = 59 := fun z => c59 (g52.trans (t59.mpr z))
      have n41 : ¬ tk.1 = 41 := fun z => c41 (g52.trans (t41.mpr z))
      rw [show zSgR ((M1) 0 52) = (if zSg tk.1 = 0 then -1 else nI (zSg tk.1)) by rw [g52, tsg]]
      have sn := zSg_n tk.1
      refine ⟨fun c => ?_, fun c => ?_⟩
      · have e0 : zSg tk.1 = 0 := by
          by_cases z : zSg tk.1 = 0
          · exact z
          · rw [if_neg z] at c
            exact absurd c (nI_m1 (by omega))
        refine ⟨ab_n0, bad M1 (zYR_F hY) (fun _ _ _ => rfl) (zYd_end ?_)⟩
        unfold zYs1
        dsimp only
        rw [ht, if_neg (by decide), if_neg n59, if_neg n41, if_pos e0]
      · have e0 : ¬ zSg tk.1 = 0 := fun z => c (by rw [if_pos z])
        have nt : ¬ tk.1 = -1 := fun z => e0 (by rw [z]; decide)
        have b6 := b5 nt
        rw [if_neg e0]
        refine ⟨(M0, w, o0, K, O, zSg tk.1), _, rfl, ⟨rfl, hY, by dsimp only; omega, by dsimp only; omega⟩, ?_⟩
        rintro o M2 N ⟨rfl, q, ⟨r4, h4, rfl, q2⟩ | ⟨h4, rfl, q2⟩⟩
        · refine zv_X12_eRead_244 _ _ ⟨fun _ => ⟨ab_n0, bad M2 q2 q (zYd_end ?_)⟩, fun c => absurd rfl c⟩
          dsimp only at r4 h4
          unfold zYs1
          dsimp only
          rw [ht, if_neg (by decide), if_neg n59, if_neg n41, if_neg e0, if_pos r4, if_pos h4]
        · dsimp only at h4 q2
          have ul := zUw_len (zThS (zSg tk.1)) K O
          have fin : zr_X12_eRead Q 14 [some (.ref 0), some (.int 1), some (.int (if decide (zSg tk.1 ≤ 12) = true then 1 else 0)), none] [] M2 N := by
            refine go nt true (decide (zSg tk.1 ≤ 12)) _ _ _ M2 (fun _ => rfl) q2 q (by rw [List.length_cons]; omega) (fun res z => zYd_go ?_ z)
            unfold zYs1
            dsimp only
            rw [ht, if_neg (by decide), if_neg n59, if_neg n41, if_neg e0]
            by_cases r4 : zRank (zSg tk.1) = 4
            · rw [if_pos r4, h4 r4, if_neg (by decide), show zThS (zSg tk.1) = 5 by unfold zThS; rw [if_pos r4]]
              have : ¬ zSg tk.1 ≤ 12 := by
                have : ∀ s, s < 20 → 11 ≤ s → zRank s = 4 → ¬ s ≤ 12 := by decide +kernel
                exact this _ (by omega) (by omega) r4
              rw [decide_eq_false this]
            · rw [if_neg r4, show zThS (zSg tk.1) = zRank (zSg tk.1) by unfold zThS; rw [if_neg r4]]
          refine zv_X12_eRead_244 _ _ ⟨fun c => absurd c (by decide), fun _ => ⟨fun c => ?_, fun c => ?_⟩⟩
          · have : ¬ zSg tk.1 ≤ 12 := fun z => absurd c (nI_nlt (b := zSg tk.1) (a := 12) z (by decide))
            rw [decide_eq_false this] at fin
            exact fin
          · have : zSg tk.1 ≤ 12 := Nat.not_lt.mp fun z => c (nI_lt (a := 12) z (by omega))
            rw [decide_eq_true this] at fin
            exact fin
end Er
theorem zE_X12_eRead (as : List Value) (M : ab_M) (N : ab_N) (k : ab_R) (hT : zt_X12_eRead as M N k) : ab_cs as ≤ 4 ∧ zr_X12_eRead k 0 (ab_en as) [] M N := by
  obtain ⟨⟨n, i, w, o0⟩, q, rfl, ⟨rfl, h, hi, h50, h23, hw, h58, ho⟩, hk⟩ := hT
  dsimp only at h hi h50 h23 hw h58 ho hk ⊢
  refine ⟨Nat.le_of_ble_eq_true rfl, zv_X12_eRead_0 ?_⟩
  intro z1 z2
  have hn := h.1
  rw [ab_u_u]
  refine zL_X12_eRead (M0 := M) (n := n) (i0 := i) (w := w) (o0 := o0) h (fun M2 p a b c d => hk _ _ _ ⟨rfl, Or.inl ⟨p, a, b, rfl, c, d⟩⟩) (fun M2 i2 O a b c d e => hk _ _ _ ⟨rfl, Or.inr ⟨i2, O, a, b, rfl, c, d, e⟩⟩) (n - i) i true true 1 [] [] _ (by omega) (fun _ => rfl) ⟨fun c x y z => ab_u_ne _ _ x, fun j x y => ?_, h23, hw, ?_, ?_, ?_, trivial, ?_, ?_, ?_⟩ (by simpa using ho) ?_ (fun res z => z)
  · rw [ab_u_eq]; simp only [z2, z1]; rw [upd_ne _ _ (by omega), upd_ne _ _ (by omega)]
  · rw [ab_u_eq]; simp only [z2, z1]; rw [upd_ne _ _ (by decide), upd_eq]; rfl
  · rw [ab_u_eq]; simp only [z2, z1]; rw [upd_eq]; rfl
  · rw [ab_u_eq]; simp only [z2, z1]; rw [upd_ne _ _ (by decide), upd_ne _ _ (by decide), h58]; rfl
  · rw [ab_u_ne _ _ (by decide)]; rfl
  · exact fun s hs => absurd hs List.not_mem_nil
  · show 0 + (o0 + 0) ≤ 160; omega
  · rw [ab_u_eq]; simp only [z2, z1]; rw [upd_ne _ _ (by decide), upd_ne _ _ (by decide), h50]
abbrev zR_X12_eRead : Room := { frames := 3, cells := 0, slots := 0, locals := 69 }
set_option maxRecDepth 20000 in
theorem zM_X12_eRead (l : Launch) : ab_Met l zw_M vwCl zZ_M yX12_eRead cX12_eRead 4 (some .boolean) zR_X12_eRead zt_X12_eRead := ab_ofRun (G := zg_X12_eRead) (P := zp_X12_eRead) rfl zo_X12_eRead (by decide +kernel) zl_cl zl_lamM zf_X12_ok ab_Tab_nil zc_X12_ok ab_Sta_nil (List.forall_mem_cons.mpr ⟨ab_callV zZ_M_ok (zM_X12_puts l) (ab_in 1247 (by decide +kernel) rfl) (ab_in 1244 (by decide +kernel) rfl) (ab_in 1246 (by decide +kernel) rfl) (ab_inS (List.mem_of_getElem? (i := 31) (by decide +kernel)) rfl) (ab_in 17 (by decide +kernel) rfl) (by unfold ab_yok; decide +kernel) ⟨rfl, rfl⟩ (by decide) zV_X12_puts, List.forall_mem_cons.mpr ⟨ab_callV zZ_M_ok (zM_X12_unwinds l) (ab_in 1251 (by decide +kernel) rfl) (ab_in 1248 (by decide +kernel) rfl) (ab_in 1250 (by decide +kernel) rfl) (ab_inS (List.mem_of_getElem? (i := 32) (by decide +kernel)) rfl) (ab_in 17 (by decide +kernel) rfl) (by unfold ab_yok; decide +kernel) ⟨rfl, rfl⟩ (by decide) zV_X12_unwinds, List.forall_mem_cons.mpr ⟨ab_callV zZ_M_ok (zM_X12_next l) (ab_in 1234 (by decide +kernel) rfl) (ab_in 1231 (by decide +kernel) rfl) (ab_in 1233 (by decide +kernel) rfl) (ab_inS (List.mem_of_getElem? (i := 28) (by decide +kernel)) rfl) (ab_in 17 (by decide +kernel) rfl) (by unfold ab_yok; decide +kernel) ⟨rfl, rfl⟩ (by decide) zV_X12_next, List.forall_mem_cons.mpr ⟨ab_callV zZ_M_ok (zM_X12_opensOne l) (ab_in 1258 (by decide +kernel) rfl) (ab_in 1255 (by decide +kernel) rfl) (ab_in 1257 (by decide +kernel) rfl) (ab_inS (List.mem_of_getElem? (i := 33) (by decide +kernel)) rfl) (ab_in 17 (by decide +kernel) rfl) (by unfold ab_yok; decide +kernel) ⟨rfl, rfl⟩ (by decide) zV_X12_opensOne, List.forall_mem_cons.mpr ⟨ab_callV zZ_M_ok (zM_X12_signOf l) (ab_in 1266 (by decide +kernel) rfl) (ab_in 1263 (by decide +kernel) rfl) (ab_in 1265 (by decide +kernel) rfl) (ab_inS (List.mem_of_getElem? (i := 35) (by decide +kernel)) rfl) (ab_in 17 (by decide +kernel) rfl) (by unfold ab_yok; decide +kernel) ⟨rfl, rfl⟩ (by decide) zV_X12_signOf, List.forall_mem_cons.mpr ⟨ab_callV zZ_M_ok (zM_X12_between l) (ab_in 1270 (by decide +kernel) rfl) (ab_in 1267 (by decide +kernel) rfl) (ab_in 1269 (by decide +kernel) rfl) (ab_inS (List.mem_of_getElem? (i := 36) (by decide +kernel)) rfl) (ab_in 17 (by decide +kernel) rfl) (by unfold ab_yok; decide +kernel) ⟨rfl, rfl⟩ (by decide) zV_X12_between, List.forall_mem_nil _⟩⟩⟩⟩⟩⟩) (List.forall_mem_nil _) zE_X12_eRead
