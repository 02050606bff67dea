/-! the reference: an hour of a piece by lots, the whole night *)
-/
def zt_X12_drawsHour : ab_T := ab_lq (α := ab_M × Nat × Nat × zDs) (fun x r M N => r = [.int (nI x.2.1), .int (nI x.2.2.1)] ∧ zRN x.1 M ∧ zWkR x.1 M (zHrs x.1) ∧ x.2.1 < zPcs x.1 ∧ x.2.2.1 < zHrs x.1 ∧ x.1 6 11 = -1 ∧ zHdR (zBrk x.1) M N x.2.2.2)
  (fun x M N o M2 N2 => o = none ∧ zFrD M M2 ∧ zNfr [0] N N2 ∧ zHdR (zBrk x.1) M2 N2 (zDP x.1 x.2.2.1 x.2.1 x.2.2.2))
theorem zt_X12_drawsHour_mono : ab_mono zt_X12_drawsHour := ab_lq_mono _ _
theorem zV_X12_drawsHour : ab_recv zw_M vwCl RX12 zt_X12_drawsHour := ab_lq_v
def zp_X12_drawsHour : ab_P := [(0, .aload_n 0, 1, [0], []),
  (1, .getfield 160, 4, [], []),
  (4, .iload_n 1, 5, [1], []),
  (5, .iaload, 6, [], []),
  (6, .aload_n 0, 7, [0], []),
  (7, .getfield 13, 10, [], []),
  (10, .if_icmp .ne 4, 13, [14], []),
  (13, .return_, 14, [], []),
  (14, .aload_n 0, 15, [0], []),
  (15, .getfield 160, 18, [], []),
  (18, .iload_n 1, 19, [1], []),
  (19, .iaload, 20, [], []),
  (20, .ifCond .ne 46, 23, [66], []),
  (23, .aload_n 0, 24, [0], []),
  (24, .getfield 160, 27, [], []),
  (27, .iload_n 1, 28, [1], []),
  (28, .aload_n 0, 29, [0], []),
  (29, .sipush 1000, 32, [], [1000]),
  (32, .invokevirtual 365, 35, [], []),
  (35, .aload_n 0, 36, [0], []),
  (36, .iconst 0, 37, [], [0]),
  (37, .iload_n 1, 38, [1], []),
  (38, .iload_n 2, 39, [2], []),
  (39, .aload_n 0, 40, [0], []),
  (40, .getfield 150, 43, [], []),
  (43, .bipush 12, 45, [], [12]),
  (45, .iload_n 1, 46, [1], []),
  (46, .imul, 47, [], []),
  (47, .iload_n 2, 48, [2], []),
  (48, .iadd, 49, [], []),
  (49, .iaload, 50, [], []),
  (50, .iconst 0, 51, [], [0]),
  (51, .invokevirtual 264, 54, [], []),
  (54, .if_icmp .ge 7, 57, [61], []),
  (57, .iconst 1, 58, [], [1]),
  (58, .goto 4, 61, [62], []),
  (61, .iconst 0, 62, [], [0]),
  (62, .iastore, 63, [], []),
  (63, .goto 52, 66, [115], []),
  (66, .aload_n 0, 67, [0], []),
  (67, .getfield 160, 70, [], []),
  (70, .iload_n 1, 71, [1], []),
  (71, .dup2, 72, [], []),
  (72, .iaload, 73, [], []),
  (73, .iconst 1, 74, [], [1]),
  (74, .iadd, 75, [], []),
  (75, .iastore, 76, [], []),
  (76, .aload_n 0, 77, [0], []),
  (77, .dup, 78, [], []),
  (78, .getfield 368, 81, [], []),
  (81, .aload_n 0, 82, [0], []),
  (82, .getfield 160, 85, [], []),
  (85, .iload_n 1, 86, [1], []),
  (86, .iaload, 87, [], []),
  (87, .aload_n 0, 88, [0], []),
  (88, .getfield 13, 91, [], []),
  (91, .if_icmp .ne 19, 94, [110], []),
  (94, .aload_n 0, 95, [0], []),
  (95, .iconst 2, 96, [], [2]),
  (96, .iload_n 1, 97, [1], []),
  (97, .iload_n 2, 98, [2], []),
  (98, .aload_n 0, 99, [0], []),
  (99, .getfield 13, 102, [], []),
  (102, .iconst 0, 103, [], [0]),
  (103, .invokevirtual 264, 106, [], []),
  (106, .i2l, 107, [], []),
  (107, .goto 4, 110, [111], []),
  (110, .lconst 0, 111, [0], []),
  (111, .ladd, 112, [], []),
  (112, .putfield 368, 115, [], []),
  (115, .iconst 0, 116, [], [0]),
  (116, .istore_n 3, 117, [3], []),
  (117, .iload_n 3, 118, [3], []),
  (118, .aload_n 0, 119, [0], []),
  (119, .getfield 179, 122, [], []),
  (122, .if_icmp .ge 45, 125, [167], []),
  (125, .aload_n 0, 126, [0], []),
  (126, .getfield 144, 129, [], []),
  (129, .bipush 12, 131, [], [12]),
  (131, .iload_n 3, 132, [3], []),
  (132, .imul, 133, [], []),
  (133, .iload_n 2, 134, [2], []),
  (134, .iadd, 135, [], []),
  (135, .iaload, 136, [], []),
  (136, .iload_n 1, 137, [1], []),
  (137, .if_icmp .ne 24, 140, [161], []),
  (140, .aload_n 0, 141, [0], []),
  (141, .iload_n 3, 142, [3], []),
  (142, .iload_n 2, 143, [2], []),
  (143, .invokevirtual 282, 146, [], []),
  (146, .ifCond .eq 15, 149, [161], []),
  (149, .aload_n 0, 150, [0], []),
  (150, .iload_n 1, 151, [1], []),
  (151, .iload_n 2, 152, [2], []),
  (152, .aload_n 0, 153, [0], []),
  (153, .getfield 50, 156, [], []),
  (156, .iload_n 3, 157, [3], []),
  (157, .iaload, 158, [], []),
  (158, .invokevirtual 374, 161, [], []),
  (161, .iinc 3 1, 164, [], [1]),
  (164, .goto (-47), 167, [117], []),
  (167, .aload_n 0, 168, [0], []),
  (168, .iload_n 1, 169, [1], []),
  (169, .iload_n 2, 170, [2], []),
  (170, .invokevirtual 286, 173, [], []),
  (173, .ifCond .eq 10, 176, [183], []),
  (176, .aload_n 0, 177, [0], []),
  (177, .iload_n 1, 178, [1], []),
  (178, .iload_n 2, 179, [2], []),
  (179, .iconst 0, 180, [], [0]),
  (180, .invokevirtual 374, 183, [], []),
  (183, .aload_n 0, 184, [0], []),
  (184, .getfield 38, 187, [], []),
  (187, .iload_n 1, 188, [1], []),
  (188, .iaload, 189, [], []),
  (189, .iconst 1, 190, [], [1]),
  (190, .if_icmp .ne 10, 193, [200], []),
  (193, .aload_n 0, 194, [0], []),
  (194, .iload_n 1, 195, [1], []),
  (195, .iload_n 2, 196, [2], []),
  (196, .iconst 0, 197, [], [0]),
  (197, .invokevirtual 374, 200, [], []),
  (200, .return_, 201, [], [])]
theorem zo_X12_drawsHour : ab_ok cX12_drawsHour zp_X12_drawsHour = true := by decide +kernel
def zg_X12_drawsHour : ab_G := (zw_M, [], zf_X12, zc_X12, [], [(264, 6, zt_X12_says), (282, 3, zt_X12_doesLook), (286, 3, zt_X12_isVillage), (365, 2, zt_X12_draws), (374, 4, zt_X12_lookDrawn)], [])
theorem zm_X12_drawsHour : ab_MG zg_X12_drawsHour := ab_MGof (List.forall_mem_cons.mpr ⟨zt_X12_says_mono, List.forall_mem_cons.mpr ⟨ab_pp_mono _, List.forall_mem_cons.mpr ⟨ab_pure_mono _, List.forall_mem_cons.mpr ⟨zt_X12_draws_mono, List.forall_mem_cons.mpr ⟨zt_X12_lookDrawn_mono, List.forall_mem_nil _⟩⟩⟩⟩⟩) (List.forall_mem_nil _)
abbrev zr_X12_drawsHour (Q : ab_R) : ab_K := ab_Run zg_X12_drawsHour zp_X12_drawsHour none 4 Q
set_option maxRecDepth 20000 in
theorem zv_X12_drawsHour_0 {Q : ab_R} {M : ab_M} {N : ab_N} (l1 : Int32) (l2 : Int32) (h : vp_in l1 8 ∧ (((M 33 l1.toNatClampNeg) = (M 0 1) → Q none M N) ∧ (¬ ((M 33 l1.toNatClampNeg) = (M 0 1)) → vp_in l1 8 ∧ (((M 33 l1.toNatClampNeg) = 0 → zt_X12_draws [.ref 0, .int (1000 : Int32)] M N (fun r M2 N2 => zr_X12_drawsHour Q 35 [some (.ref 0), some (.int l1), some (.int l2), none] (ab_ol r [.int l1, .ref 33]) M2 N2)) ∧ (¬ ((M 33 l1.toNatClampNeg) = 0) → vp_in l1 8 ∧ (vp_in l1 8 ∧ (let z1 : Nat → Int32 := upd (M 33) l1.toNatClampNeg ((M 33 l1.toNatClampNeg) + (1 : Int32)); vp_in l1 8 ∧ (((z1 l1.toNatClampNeg) = (M 0 1) → zt_X12_says [.ref 0, .int (2 : Int32), .int l1, .int l2, .int (M 0 1), .int (0 : Int32)] (ab_u M 33 z1) N (fun r M2 N2 => zr_X12_drawsHour Q 106 [some (.ref 0), some (.int l1), some (.int l2), none] (ab_ol r [.long (N 0 70), .ref 0]) M2 N2)) ∧ (¬ ((z1 l1.toNatClampNeg) = (M 0 1)) → let y2 : Nat → Int64 := vp_updL (N 0) 70 ((N 0 70) + (0 : Int64)); zr_X12_drawsHour Q 117 [some (.ref 0), some (.int l1), some (.int l2), some (.int (0 : Int32))] [] (ab_u M 33 z1) (ab_u N 0 y2)))))))))) : zr_X12_drawsHour Q 0 [some (.ref 0), some (.int l1), some (.int l2)] [] M N := ab_Run_s zm_X12_drawsHour (sp := [(35, [true, true, true, false]), (54, [true, true, true, false]), (106, [true, true, true, false]), (117, [true, true, true, true]), (161, [true, true, true, true]), (183, [true, true, true, false]), (200, [false, false, false, false])]) 125 h
set_option maxRecDepth 20000 in
theorem zv_X12_drawsHour_35 {Q : ab_R} {M : ab_M} {N : ab_N} (l1 : Int32) (l2 : Int32) (s1 : Int32) (s2 : Int32) (h : vp_in (((12 : Int32) * l1) + l2) 96 ∧ (zt_X12_says [.ref 0, .int (0 : Int32), .int l1, .int l2, .int (M 30 (((12 : Int32) * l1) + l2).toNatClampNeg), .int (0 : Int32)] M N (fun r M2 N2 => zr_X12_drawsHour Q 54 [some (.ref 0), some (.int l1), some (.int l2), none] (ab_ol r [.int s2, .int s1, .ref 33]) M2 N2))) : zr_X12_drawsHour Q 35 [some (.ref 0), some (.int l1), some (.int l2), none] [.int s2, .int s1, .ref 33] M N := ab_Run_s zm_X12_drawsHour (sp := [(35, [true, true, true, false]), (54, [true, true, true, false]), (106, [true, true, true, false]), (117, [true, true, true, true]), (161, [true, true, true, true]), (183, [true, true, true, false]), (200, [false, false, false, false])]) 125 h
set_option maxRecDepth 20000 in
theorem zv_X12_drawsHour_54 {Q : ab_R} {M : ab_M} {N : ab_N} (l1 : Int32) (l2 : Int32) (s1 : Int32) (s2 : Int32) (s3 : Int32) (h : (s3 ≤ s2 → vp_in s1 8 ∧ (let z1 : Nat → Int32 := upd (M 33) s1.toNatClampNeg (0 : Int32); zr_X12_drawsHour Q 117 [some (.ref 0), some (.int l1), some (.int l2), some (.int (0 : Int32))] [] (ab_u M 33 z1) N)) ∧ (¬ (s3 ≤ s2) → vp_in s1 8 ∧ (let z2 : Nat → Int32 := upd (M 33) s1.toNatClampNeg (1 : Int32); zr_X12_drawsHour Q 117 [some (.ref 0), some (.int l1), some (.int l2), some (.int (0 : Int32))] [] (ab_u M 33 z2) N))) : zr_X12_drawsHour Q 54 [some (.ref 0), some (.int l1), some (.int l2), none] [.int s3, .int s2, .int s1, .ref 33] M N := ab_Run_s zm_X12_drawsHour (sp := [(35, [true, true, true, false]), (54, [true, true, true, false]), (106, [true, true, true, false]), (117, [true, true, true, true]), (161, [true, true, true, true]), (183, [true, true, true, false]), (200, [false, false, false, false])]) 125 h
set_option maxRecDepth 20000 in
theorem zv_X12_drawsHour_106 {Q : ab_R} {M : ab_M} {N : ab_N} (l1 : Int32) (l2 : Int32) (s1 : Int64) (s2 : Int32) (h : let y1 : Nat → Int64 := vp_updL (N 0) 70 (s1 + (s2.toInt64)); zr_X12_drawsHour Q 117 [some (.ref 0), some (.int l1), some (.int l2), some (.int (0 : Int32))] [] M (ab_u N 0 y1)) : zr_X12_drawsHour Q 106 [some (.ref 0), some (.int l1), some (.int l2), none] [.int s2, .long s1, .ref 0] M N := ab_Run_s zm_X12_drawsHour (sp := [(35, [true, true, true, false]), (54, [true, true, true, false]), (106, [true, true, true, false]), (117, [true, true, true, true]), (161, [true, true, true, true]), (183, [true, true, true, false]), (200, [false, false, false, false])]) 125 h
set_option maxRecDepth 20000 in
theorem zv_X12_drawsHour_117 {Q : ab_R} {M : ab_M} {N : ab_N} (l1 : Int32) (l2 : Int32) (l3 : Int32) (h : ((M 0 12) ≤ l3 → ((ab_b (0 ≤ (M 0) 5 ∧ l1 < (M 0) 3 ∧ (M 0) 5 + (M 0) 4 ≤ l2)) = 0 → zr_X12_drawsHour Q 183 [some (.ref 0), some (.int l1), some (.int l2), none] [] M N) ∧ (¬ ((ab_b (0 ≤ (M 0) 5 ∧ l1 < (M 0) 3 ∧ (M 0) 5 + (M 0) 4 ≤ l2)) = 0) → zt_X12_lookDrawn [.ref 0, .int l1, .int l2, .int (0 : Int32)] M N (fun r M2 N2 => zr_X12_drawsHour Q 183 [some (.ref 0), some (.int l1), some (.int l2), none] (ab_ol r []) M2 N2))) ∧ (¬ ((M 0 12) ≤ l3) → vp_in (((12 : Int32) * l3) + l2) 60 ∧ (((M 28 (((12 : Int32) * l3) + l2).toNatClampNeg) = l1 → (vp_in l3 5 ∧ ¬ (M 10) l3.toNatClampNeg + 2 = 0) ∧ (((ab_b (¬ l3 = (M 0) 30 ∧ (¬ (M 6) l3.toNatClampNeg = 5 ∨ ¬ l2 - l2 / ((M 10) l3.toNatClampNeg + 2) * ((M 10) l3.toNatClampNeg + 2) = (M 10) l3.toNatClampNeg + 1))) = 0 → zr_X12_drawsHour Q 161 [some (.ref 0), some (.int l1), some (.int l2), some (.int l3)] [] M N) ∧ (¬ ((ab_b (¬ l3 = (M 0) 30 ∧ (¬ (M 6) l3.toNatClampNeg = 5 ∨ ¬ l2 - l2 / ((M 10) l3.toNatClampNeg + 2) * ((M 10) l3.toNatClampNeg + 2) = (M 10) l3.toNatClampNeg + 1))) = 0) → vp_in l3 5 ∧ (zt_X12_lookDrawn [.ref 0, .int l1, .int l2, .int (M 9 l3.toNatClampNeg)] M N (fun r M2 N2 => zr_X12_drawsHour Q 161 [some (.ref 0), some (.int l1), some (.int l2), some (.int l3)] (ab_ol r []) M2 N2))))) ∧ (¬ ((M 28 (((12 : Int32) * l3) + l2).toNatClampNeg) = l1) → zr_X12_drawsHour Q 161 [some (.ref 0), some (.int l1), some (.int l2), some (.int l3)] [] M N)))) : zr_X12_drawsHour Q 117 [some (.ref 0), some (.int l1), some (.int l2), some (.int l3)] [] M N := ab_Run_s zm_X12_drawsHour (sp := [(35, [true, true, true, false]), (54, [true, true, true, false]), (106, [true, true, true, false]), (117, [true, true, true, true]), (161, [true, true, true, true]), (183, [true, true, true, false]), (200, [false, false, false, false])]) 125 h
set_option maxRecDepth 20000 in
theorem zv_X12_drawsHour_161 {Q : ab_R} {M : ab_M} {N : ab_N} (l1 : Int32) (l2 : Int32) (l3 : Int32) (h : zr_X12_drawsHour Q 117 [some (.ref 0), some (.int l1), some (.int l2), some (.int (l3 + (1 : Int32)))] [] M N) : zr_X12_drawsHour Q 161 [some (.ref 0), some (.int l1), some (.int l2), some (.int l3)] [] M N := ab_Run_s zm_X12_drawsHour (sp := [(35, [true, true, true, false]), (54, [true, true, true, false]), (106, [true, true, true, false]), (117, [true, true, true, true]), (161, [true, true, true, true]), (183, [true, true, true, false]), (200, [false, false, false, false])]) 125 h
set_option maxRecDepth 20000 in
theorem zv_X12_drawsHour_183 {Q : ab_R} {M : ab_M} {N : ab_N} (l1 : Int32) (l2 : Int32) (h : vp_in l1 8 ∧ (((M 5 l1.toNatClampNeg) = (1 : Int32) → zt_X12_lookDrawn [.ref 0, .int l1, .int l2, .int (0 : Int32)] M N (fun r M2 N2 => zr_X12_drawsHour Q 200 [none, none, none, none] (ab_ol r []) M2 N2)) ∧ (¬ ((M 5 l1.toNatClampNeg) = (1 : Int32)) → zr_X12_drawsHour Q 200 [none, none, none, none] [] M N))) : zr_X12_drawsHour Q 183 [some (.ref 0), some (.int l1), some (.int l2), none] [] M N := ab_Run_s zm_X12_drawsHour (sp := [(35, [true, true, true, false]), (54, [true, true, true, false]), (106, [true, true, true, false]), (117, [true, true, true, true]), (161, [true, true, true, true]), (183, [true, true, true, false]), (200, [false, false, false, false])]) 125 h
set_option maxRecDepth 20000 in
theorem zv_X12_drawsHour_200 {Q : ab_R} {M : ab_M} {N : ab_N}  (h : Q none M N) : zr_X12_drawsHour Q 200 [none, none, none, none] [] M N := ab_Run_s zm_X12_drawsHour (sp := [(35, [true, true, true, false]), (54, [true, true, true, false]), (106, [true, true, true, false]), (117, [true, true, true, true]), (161, [true, true, true, true]), (183, [true, true, true, false]), (200, [false, false, false, false])]) 125 h
section DrH
variable {k : ab_R} {d M0 : ab_M} {N0 : ab_N} {p : Nat}
theorem zL_drH_w (hR : zRN d M0) (hW : zWkR d M0 (zHrs d)) (hp : p < zPcs d) (h : Nat) (hh : h < zHrs d) (hno : d 6 11 = -1) (s0 : zDs) (kk : ∀ M N, zFrD M0 M → zNfr [0] N0 N → zHdR (zBrk d) M N (zDLooks d p h ((zWk d h).2.2.2 p) 8 s0) → k none M N) :
    ∀ (r m : Nat) (M : ab_M) (N : ab_N), m + r = zMen d → zFrD M0 M → zNfr [0] N0 N → zHdR (zBrk d) M N (zDLooks d p h ((zWk d h).2.2.2 p) m s0) → zr_X12_drawsHour k 117 [some (.ref 0), some (.int (nI p)), some (.int (nI h)), some (.int (nI m))] [] M N := by
  obtain ⟨n1, n2, n3, n4, n5, n6, n7, n8, n9, n10⟩ := zNI_n hR
  have elk : (zWk d h).2.2.2 p = zLk d h (zWk d h).1 (zMen d) p := by rw [zWk_lk]
  rw [elk] at kk ⊢
  have bit := fun w (hw : w < 8) => zBit_iff (d := d) (h := h) (p := p) (pl := (zWk d h).1) n4 hw
  have yes : ∀ w s, zBit (zLk d h (zWk d h).1 (zMen d) p) w → zDLooks d p h (zLk d h (zWk d h).1 (zMen d) p) (w + 1) s = zDLook1 d p h (zPace d w) (zDLooks d p h (zLk d h (zWk d h).1 (zMen d) p) w s) := fun w s z => if_pos z
  have no : ∀ w s, ¬ zBit (zLk d h (zWk d h).1 (zMen d) p) w → zDLooks d p h (zLk d h (zWk d h).1 (zMen d) p) (w + 1) s = zDLooks d p h (zLk d h (zWk d h).1 (zMen d) p) w s := fun w s z => if_neg z
  have look : ∀ (w : Nat) (M : ab_M) (N : ab_N) (K : ab_R), zBit (zLk d h (zWk d h).1 (zMen d) p) w → zFrD M0 M → zNfr [0] N0 N → zHdR (zBrk d) M N (zDLooks d p h (zLk d h (zWk d h).1 (zMen d) p) w s0) → (∀ M2 N2, zFrD M0 M2 → zNfr [0] N0 N2 → zHdR (zBrk d) M2 N2 (zDLooks d p h (zLk d h (zWk d h).1 (zMen d) p) (w + 1) s0) → K none M2 N2) → zt_X12_lookDrawn [.ref 0, .int (nI p), .int (nI h), .int (nI (zPace d w))] M N K := by
    intro w M N K hb hF hG hs hk
    refine ⟨(d, p, h, zPace d w, _), _, rfl, ⟨rfl, zRN_D hR hF, by dsimp only; omega, by dsimp only; omega, hs⟩, ?_⟩
    rintro o M2 N2 ⟨rfl, hF2, hG2, hs2⟩
    refine hk M2 N2 (zFrD_tr hF hF2) (zNfr_tr hG hG2) ?_
    rw [yes w s0 hb]
    exact hs2
  have l7 : ∀ (M : ab_M) (N : ab_N), zFrD M0 M → zNfr [0] N0 N → zHdR (zBrk d) M N (zDLooks d p h (zLk d h (zWk d h).1 (zMen d) p) 7 s0) → zr_X12_drawsHour k 200 [none, none, none, none] [] M N := by
    intro M N hF hG hs
    refine zv_X12_drawsHour_200 (kk M N hF hG ?_)
    rw [no 7 s0 (fun q => ?_)]
    · exact hs
    · rcases (bit 7 (by decide)).mp q with z | z | z | z
      · omega
      · omega
      · omega
      · have := z.2.1
        rw [hno] at this
        exact nI_m1 (by omega) this
  have l6 : ∀ (M : ab_M) (N : ab_N), zFrD M0 M → zNfr [0] N0 N → zHdR (zBrk d) M N (zDLooks d p h (zLk d h (zWk d h).1 (zMen d) p) 6 s0) → zr_X12_drawsHour k 183 [some (.ref 0), some (.int (nI p)), some (.int (nI h)), none] [] M N := by
    intro M N hF hG hs
    have lam := zLamp_r (zRN_D hR hF) (show p < 8 by omega)
    have t6 : zBit (zLk d h (zWk d h).1 (zMen d) p) 6 ↔ ¬ d 16 p = 0 := by
      rw [bit 6 (by decide)]
      constructor
      · rintro (z | z | z | z)
        · omega
        · omega
        · exact z.2
        · omega
      · exact fun z => Or.inr (Or.inr (Or.inl ⟨rfl, z⟩))
    have ep : zPace d 6 = 0 := by unfold zPace; rw [if_neg (by omega), if_neg (by decide)]
    refine zv_X12_drawsHour_183 _ _ ?_
    rw [nI_clamp (show p < 2 ^ 31 by omega)]
    refine ⟨nI_in_ (by omega), fun c => ?_, fun c => l7 M N hF hG (by rw [no 6 s0 (fun q => c (lam.mpr (t6.mp q)))]; exact hs)⟩
    have := look 6 M N (fun r M2 N2 => zr_X12_drawsHour k 200 [none, none, none, none] (ab_ol r []) M2 N2) (t6.mpr (lam.mp c)) hF hG hs (fun M2 N2 a b c => l7 M2 N2 a b c)
    rw [ep] at this
    exact this
  intro r
  induction r with
  | zero =>
    intro m M N hm hF hG hs
    have em : m = zMen d := by omega
    subst em
    have vil := zVil_r (zRN_D hR hF) p h
    have up : ∀ j, zMen d ≤ j → j ≤ 5 → zDLooks d p h (zLk d h (zWk d h).1 (zMen d) p) j s0 = zDLooks d p h (zLk d h (zWk d h).1 (zMen d) p) (zMen d) s0 := by
      intro j
      induction j with
      | zero => intro z _; rw [show zMen d = 0 by omega]
      | succ j ihj =>
        intro z z5
        by_cases e : zMen d = j + 1
        · rw [e]
        · rw [no j s0 (fun q => ?_), ihj (by omega) (by omega)]
          rcases (bit j (by omega)).mp q with q | q | q | q <;> omega
    rw [← up 5 n4 (Nat.le_refl _)] at hs
    have t5 : zBit (zLk d h (zWk d h).1 (zMen d) p) 5 ↔ zVil d p h := by
      rw [bit 5 (by decide)]
      constructor
      · rintro (z | z | z | z)
        · omega
        · exact z.2
        · omega
        · omega
      · exact fun z => Or.inr (Or.inl ⟨rfl, z⟩)
    have ep : zPace d 5 = 0 := by unfold zPace; rw [if_neg (by omega), if_neg (by decide)]
    refine zv_X12_drawsHour_117 _ _ _ ⟨fun _ => ⟨fun c => l6 M N hF hG (by rw [no 5 s0 (fun q => vil.mp c (t5.mp q))]; exact hs), fun c => ?_⟩, fun c => absurd ?_ c⟩
    · have := look 5 M N (fun r M2 N2 => zr_X12_drawsHour k 183 [some (.ref 0), some (.int (nI p)), some (.int (nI h)), none] (ab_ol r []) M2 N2) (t5.mpr (Decidable.byContradiction fun z => c (vil.mpr z))) hF hG hs (fun M2 N2 a b c => l6 M2 N2 a b c)
      rw [ep] at this
      exact this
    · rw [hF.1 12 (by decide), n3]; exact nI_le (Nat.le_refl _) (by omega)
  | succ r ih =>
    intro m M N hm hF hG hs
    have hm5 : m < zMen d := by omega
    have hRM := zRN_D hR hF
    have dz := zDoes_r hRM hm5 h
    have h28 : M 28 (12 * m + h) = (zWk d h).1 m := by rw [hF.2 28 (by decide) (by decide) (by decide) (by decide)]; exact (hW h hh).1 m hm5
    have tm : zBit (zLk d h (zWk d h).1 (zMen d) p) m ↔ zDoes d m h ∧ (zWk d h).1 m = nI p := by
      rw [bit m (by omega)]
      constructor
      · rintro (z | z | z | z)
        · exact z.2
        · omega
        · omega
        · omega
      · exact fun z => Or.inl ⟨hm5, z⟩
    obtain ⟨kd, po, en, pa, mo, q1, q2, q3, q4, q5, q6, e1, e2, e3, e4, e5, f1, f2, f3, f4, f5⟩ := zMan_n hRM hm5
    have ep : zPace d m = pa := by unfold zPace; rw [if_pos hm5, e4, nI_clamp (by omega)]
    refine zv_X12_drawsHour_117 _ _ _ ?_
    have hn : M 0 12 = nI (zMen d) := by rw [hF.1 12 (by decide), n3]
    rw [hn, e12, nI_clamp (show 12 * m + h < 2 ^ 31 by omega), nI_clamp (show m < 2 ^ 31 by omega), h28]
    have nope : ¬ (zDoes d m h ∧ (zWk d h).1 m = nI p) → zr_X12_drawsHour k 161 [some (.ref 0), some (.int (nI p)), some (.int (nI h)), some (.int (nI m))] [] M N := fun z => zv_X12_drawsHour_161 _ _ _ (by rw [nI_1]; exact ih (m + 1) M N (by omega) hF hG (by rw [no m s0 (fun q => z (tm.mp q))]; exact hs))
    refine ⟨fun c => absurd c (nI_ge (by omega) (by omega)), fun _ => ⟨nI_in_ (by omega), fun c => ⟨⟨nI_in_ (by omega), zMo_ne hRM hm5⟩, fun c2 => nope (fun z => dz.mp c2 z.1), fun c2 => ⟨nI_in_ (by omega), ?_⟩⟩, fun c => nope (fun z => c z.2)⟩⟩
    have := look m M N (fun r M2 N2 => zr_X12_drawsHour k 161 [some (.ref 0), some (.int (nI p)), some (.int (nI h)), some (.int (nI m))] (ab_ol r []) M2 N2) (tm.mpr ⟨Decidable.byContradiction fun z => c2 (dz.mpr z), c⟩) hF hG hs (fun M2 N2 a b c => zv_X12_drawsHour_161 _ _ _ (by rw [nI_1]; exact ih (m + 1) M2 N2 (by omega) a b c))
    rw [ep] at this
    rw [f4]
    exact this
theorem zL_drH (hR : zRN d M0) (hW : zWkR d M0 (zHrs d)) (hp : p < zPcs d) (h : Nat) (hh : h < zHrs d) (hno : d 6 11 = -1) {l : Nat} {f : Nat → Nat} {ha : Int64} {br fo : Int32} (h1 : ∀ p, p < 8 → M0 33 p = nI (f p) ∧ f p ≤ zBrk d) (hl : l < 2 ^ 31) (h2 : N0 0 68 = lN l) (h3 : N0 0 70 = ha) (h5 : M0 0 71 = fo) (kk : ∀ M N, zFrD M0 M → zNfr [0] N0 N → zHdR (zBrk d) M N (zDP d h p (f, lN l, ha, br, fo)) → k none M N) : zr_X12_drawsHour k 0 [some (.ref 0), some (.int (nI p)), some (.int (nI h))] [] M0 N0 := by
  obtain ⟨n1, n2, n3, n4, n5, n6, n7, n8, n9, n10⟩ := zNI_n hR
  obtain ⟨g1, g2⟩ := h1 p (by omega)
  have hin : vp_in (nI p) 8 := nI_in_ (by omega)
  have cp : (nI p).toNatClampNeg = p := nI_clamp (by omega)
  have P0 : ¬ f p < zBrk d → zDP d h p (f, lN l, ha, br, fo) = (f, lN l, ha, br, fo) := fun z => if_neg z
  have P1 : f p < zBrk d → zDP d h p (f, lN l, ha, br, fo) = zDLooks d p h ((zWk d h).2.2.2 p) 8 (zDGrow d p h (zSc d h p) (f, lN l, ha, br, fo)) := fun z => if_pos z
  refine zv_X12_drawsHour_0 _ _ ?_
  rw [cp, g1, n8]
  refine ⟨hin, fun c => ?_, fun c => ⟨hin, fun c0 => ?_, fun c0 => ⟨hin, hin, ?_⟩⟩⟩
  · have e : f p = zBrk d := (nI_eq (by omega) (by omega)).mp c
    exact kk M0 N0 (zFrD_rf _) (zNfr_rf _ _) (by rw [P0 (by omega)]; exact zHdR_mk h1 hl h2 h3 h5)
  · -- may a hole begin
    have e0 : f p = 0 := (nI_eq (b := 0) (by omega) (by decide)).mp c0
    have lt : f p < zBrk d := by omega
    rw [P1 lt] at kk
    obtain ⟨z1, z2⟩ := zLot_N hl
    refine ⟨(l, 1000), _, rfl, ⟨rfl, hl, (show 0 < 1000 by decide), (show 1000 ≤ 1000 by decide), h2⟩, ?_⟩
    rintro o M1 N1 ⟨rfl, rfl, rfl⟩
    have hm : zLotN l % 1000 < 1000 := Nat.mod_lt _ (by decide)
    have e1000 : lN (zLotN l) - lN (zLotN l) / 1000 * 1000 = lN (zLotN l % 1000) := pk_lRem (b := 1000) (by omega) (by decide) (by decide)
    have h30 : M1 30 (12 * p + h) = nI (zSc d h p) := (hW h hh).2.1 p hp
    have hsc := (zSc_le d p h).2
    refine zv_X12_drawsHour_35 _ _ _ _ ?_
    dsimp only
    rw [e12, nI_clamp (show 12 * p + h < 2 ^ 31 by omega), h30]
    refine ⟨nI_in_ (by omega), (d, 0, p, h, zSc d h p, 0), _, rfl, ⟨rfl, hR, (show 0 < 3 by decide), by dsimp only; omega, by dsimp only; omega, by dsimp only; omega⟩, ?_⟩
    rintro o M2 N2 ⟨rfl, hF, rfl⟩
    have a0 := zAskR_le d 0 (by decide) p h (zSc d h p) 0
    have h33 : M2 33 = M1 33 := hF 33 (by decide)
    have fin : ∀ v : Nat, v = (if lN (zLotN l) - lN (zLotN l) / 1000 * 1000 < lN (zAsk d 0 p h (zSc d h p) 0) then 1 else 0) → zr_X12_drawsHour k 117 [some (.ref 0), some (.int (nI p)), some (.int (nI h)), some (.int (0 : Int32))] [] (ab_u M2 33 (upd (M2 33) p (nI v))) (ab_u N0 0 (vp_updL (N0 0) 68 (lN (zLotN l)))) := by
      intro v ev
      have hv : v ≤ zBrk d := by rw [ev]; split <;> omega
      refine zL_drH_w (M0 := M1) (N0 := N0) hR hW hp h hh hno _ kk (zMen d) 0 _ _ (by omega) (zFrD_33 (zFrD_of hF) _) (zNfr_u (zNfr_rf _ _) (by decide) _) ?_
      show zHdR _ _ _ (zDGrow d p h (zSc d h p) (f, lN l, ha, br, fo))
      rw [zDGrow_0 (L := lN (zLotN l)) e0 z1, ← ev]
      refine zHdR_mk (fun i hi => ?_) z2 (by rw [ab_u_eq, updL_eq]) (by rw [ab_u_eq, updL_ne _ _ (by decide), h3]) (by rw [ab_u_ne _ _ (by decide), hF 0 (by decide), h5])
      rw [ab_u_eq]
      unfold zUp
      by_cases e : i = p
      · subst e; rw [upd_eq, if_pos rfl]; exact ⟨rfl, hv⟩
      · rw [upd_ne _ _ e, if_neg e, h33]; exact h1 i hi
    refine zv_X12_drawsHour_54 _ _ _ _ _ ?_
    dsimp only
    rw [cp]
    refine ⟨fun c3 => ⟨hin, ?_⟩, fun c3 => ⟨hin, ?_⟩⟩
    · have q : zAsk d 0 p h (zSc d h p) 0 ≤ zLotN l % 1000 := (nI_leI (by omega) (by omega)).mp c3
      exact fin 0 (by rw [e1000, if_neg (fun z => by have := (pk_lLT (by omega) (by omega)).mp z; omega)])
    · have q : zLotN l % 1000 < zAsk d 0 p h (zSc d h p) 0 := Nat.not_le.mp fun z => c3 (nI_le z (by omega))
      exact fin 1 (by rw [e1000, if_pos ((pk_lLT (by omega) (by omega)).mpr q)])
  · have e0 : ¬ f p = 0 := fun z => c0 (by rw [z]; rfl)
    have eb : ¬ f p = zBrk d := fun z => c (by rw [z])
    have lt : f p < zBrk d := by omega
    rw [P1 lt] at kk
    intro z1
    have ez : z1 = upd (M0 33) p (nI (f p + 1)) := by simp only [z1]; rw [nI_1]
    clear_value z1
    subst ez
    rw [upd_eq]
    have rows : ∀ i, i < 8 → upd (M0 33) p (nI (f p + 1)) i = nI (zUp f p (f p + 1) i) ∧ zUp f p (f p + 1) i ≤ zBrk d := fun i hi => by
      unfold zUp
      by_cases e : i = p
      · subst e; rw [upd_eq, if_pos rfl]; exact ⟨rfl, by omega⟩
      · rw [upd_ne _ _ e, if_neg e]; exact h1 i hi
    refine ⟨hin, fun c3 => ?_, fun c3 => ?_⟩
    · have e3 : f p + 1 = zBrk d := (nI_eq (by omega) (by omega)).mp c3
      refine ⟨(d, 2, p, h, zBrk d, 0), _, rfl, ⟨rfl, zRN_D hR (zFrD_33 (zFrD_rf _) _), (show 2 < 3 by decide), by dsimp only; omega, by dsimp only; omega, by dsimp only; omega⟩, ?_⟩
      rintro o M2 N2 ⟨rfl, hF, rfl⟩
      have a2 := zAskR_le d 2 (by decide) p h (zBrk d) 0
      refine zv_X12_drawsHour_106 _ _ _ _ ?_
      intro y1
      refine zL_drH_w (M0 := M0) (N0 := N2) hR hW hp h hh hno _ kk (zMen d) 0 _ _ (by omega) (zFrD_tr (zFrD_33 (zFrD_rf _) _) (zFrD_of hF)) (zNfr_u (zNfr_rf _ _) (by decide) _) ?_
      show zHdR _ _ _ (zDGrow d p h (zSc d h p) (f, lN l, ha, br, fo))
      rw [zDGrow_1 e0 e3, e3]
      rw [e3] at rows
      refine zHdR_mk (fun i hi => ?_) hl ?_ ?_ ?_
      · rw [hF 33 (by decide), ab_u_eq]
        have := rows i hi
        rw [show zUp f p (zBrk d) i = zUp f p (zBrk d) i from rfl] at this
        rw [e3]
        exact this
      · rw [ab_u_eq]; simp only [y1]; rw [updL_ne _ _ (by decide), h2]
      · rw [ab_u_eq]; simp only [y1]; rw [updL_eq, h3, nI_l (by omega)]
      · rw [hF 0 (by decide), ab_u_ne _ _ (by decide), h5]
    · have e3 : ¬ f p + 1 = zBrk d := fun z => c3 (by rw [z])
      intro y2
      refine zL_drH_w (M0 := M0) (N0 := N0) hR hW hp h hh hno _ kk (zMen d) 0 _ _ (by omega) (zFrD_33 (zFrD_rf _) _) (zNfr_u (zNfr_rf _ _) (by decide) _) ?_
      show zHdR _ _ _ (zDGrow d p h (zSc d h p) (f, lN l, ha, br, fo))
      rw [zDGrow_2 e0 e3]
      refine zHdR_mk (fun i hi => by rw [ab_u_eq]; exact rows i hi) hl ?_ ?_ ?_
      · rw [ab_u_eq]; simp only [y2]; rw [updL_ne _ _ (by decide), h2]
      · rw [ab_u_eq]; simp only [y2]; rw [updL_eq, h3]; exact Int64.add_zero ha
      · rw [ab_u_ne _ _ (by decide), h5]
end DrH
theorem zE_X12_drawsHour (as : List Value) (M : ab_M) (N : ab_N) (k : ab_R) (hT : zt_X12_drawsHour as M N k) : ab_cs as ≤ 4 ∧ zr_X12_drawsHour k 0 (ab_en as) [] M N := by
  obtain ⟨⟨d, p, h, f, lo, ha, br, fo⟩, r, rfl, ⟨rfl, hR, hW, hp, hh, hno, h1, h2, h3, h5, l, hl, h6⟩, hk⟩ := hT
  dsimp only at hR hW hp hh hno h1 h2 h3 h5 h6 hk ⊢
  subst h6
  exact ⟨Nat.le_of_ble_eq_true rfl, zL_drH (br := br) hR hW hp h hh hno h1 hl h2 h3 h5 (fun M2 N2 a b c => hk _ _ _ ⟨rfl, a, b, c⟩)⟩
abbrev zR_X12_drawsHour : Room := { frames := 4, cells := 0, slots := 0, locals := 96 }
set_option maxRecDepth 20000 in
theorem zM_X12_drawsHour (l : Launch) : ab_Met l zw_M vwCl zZ_M yX12_drawsHour cX12_drawsHour 4 none zR_X12_drawsHour zt_X12_drawsHour := ab_ofRun (G := zg_X12_drawsHour) (P := zp_X12_drawsHour) rfl zo_X12_drawsHour (by decide +kernel) zl_cl zl_lamM zf_X12_ok ab_Tab_nil zc_X12_ok ab_Sta_nil (List.forall_mem_cons.mpr ⟨ab_callV zZ_M_ok (zM_X12_says l) (ab_in 1282 (by decide +kernel) rfl) (ab_in 1279 (by decide +kernel) rfl) (ab_in 1281 (by decide +kernel) rfl) (ab_inS (List.mem_of_getElem? (i := 37) (by decide +kernel)) rfl) (ab_in 17 (by decide +kernel) rfl) (by unfold ab_yok; decide +kernel) ⟨rfl, rfl⟩ (by decide) zV_X12_says, List.forall_mem_cons.mpr ⟨ab_callV zZ_M_ok (zM_X12_doesLook l) (ab_in 1329 (by decide +kernel) rfl) (ab_in 1326 (by decide +kernel) rfl) (ab_in 1328 (by decide +kernel) rfl) (ab_inS (List.mem_of_getElem? (i := 44) (by decide +kernel)) rfl) (ab_in 17 (by decide +kernel) rfl) (by unfold ab_yok; decide +kernel) ⟨rfl, rfl⟩ (by decide) zV_X12_doesLook, List.forall_mem_cons.mpr ⟨ab_callV zZ_M_ok (zM_X12_isVillage l) (ab_in 1333 (by decide +kernel) rfl) (ab_in 1330 (by decide +kernel) rfl) (ab_in 1332 (by decide +kernel) rfl) (ab_inS (List.mem_of_getElem? (i := 45) (by decide +kernel)) rfl) (ab_in 17 (by decide +kernel) rfl) (by unfold ab_yok; decide +kernel) ⟨rfl, rfl⟩ (by decide) zV_X12_isVillage, List.forall_mem_cons.mpr ⟨ab_callV zZ_M_ok (zM_X12_draws l) (ab_in 1501 (by decide +kernel) rfl) (ab_in 1498 (by decide +kernel) rfl) (ab_in 1500 (by decide +kernel) rfl) (ab_inS (List.mem_of_getElem? (i := 59) (by decide +kernel)) rfl) (ab_in 17 (by decide +kernel) rfl) (by unfold ab_yok; decide +kernel) ⟨rfl, rfl⟩ (by decide) zV_X12_draws, List.forall_mem_cons.mpr ⟨ab_callV zZ_M_ok (zM_X12_lookDrawn l) (ab_in 1507 (by decide +kernel) rfl) (ab_in 1504 (by decide +kernel) rfl) (ab_in 1506 (by decide +kernel) rfl) (ab_inS (List.mem_of_getElem? (i := 60) (by decide +kernel)) rfl) (ab_in 17 (by decide +kernel) rfl) (by unfold ab_yok; decide +kernel) ⟨rfl, rfl⟩ (by decide) zV_X12_lookDrawn, List.forall_mem_nil _⟩⟩⟩⟩⟩) (List.forall_mem_nil _) zE_X12_drawsHour
