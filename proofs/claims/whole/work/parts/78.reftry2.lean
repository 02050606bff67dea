/-! the reference: ready, rounds, next *)
-/
theorem ab_u_id {X : ab_M} {k : Nat} {f : Nat → Int32} (h : f = X k) : ab_u X k f = X := by
  funext c
  by_cases e : c = k
  · rw [e, ab_u_eq, h]
  · rw [ab_u_ne _ _ e]
def zt_X12_ready : ab_T := ab_lq (α := ab_M × Int32) (fun x r M _ => r = [.int x.2] ∧ zRN x.1 M)
  (fun x M N o M2 N2 => zFr zSL M M2 ∧ zNfr [0, 32] N N2 ∧ o = some (.int (zRdA x.1 x.2)))
theorem zt_X12_ready_mono : ab_mono zt_X12_ready := ab_lq_mono _ _
theorem zV_X12_ready : ab_recv zw_M vwCl RX12 zt_X12_ready := ab_lq_v
def zp_X12_ready : ab_P := [(0, .iload_n 1, 1, [1], []),
  (1, .iconst 0, 2, [], [0]),
  (2, .iconst 1, 3, [], [1]),
  (3, .invokestatic 175, 6, [], []),
  (6, .ifCond .ne 6, 9, [12], []),
  (9, .bipush (-2), 11, [], [(-2)]),
  (11, .ireturn, 12, [], []),
  (12, .aload_n 0, 13, [0], []),
  (13, .iconst 0, 14, [], [0]),
  (14, .invokevirtual 337, 17, [], []),
  (17, .lstore_n 2, 18, [2], []),
  (18, .iconst (-1), 19, [], [(-1)]),
  (19, .istore 4, 21, [], []),
  (21, .iconst 0, 22, [], [0]),
  (22, .istore 5, 24, [], []),
  (24, .iload 5, 26, [], []),
  (26, .aload_n 0, 27, [0], []),
  (27, .getfield 172, 30, [], []),
  (30, .if_icmp .ge 152, 33, [182], []),
  (33, .iload_n 1, 34, [1], []),
  (34, .ifCond .ne 16, 37, [50], []),
  (37, .aload_n 0, 38, [0], []),
  (38, .getfield 38, 41, [], []),
  (41, .iload 5, 43, [], []),
  (43, .iaload, 44, [], []),
  (44, .ifCond .ne 132, 47, [176], []),
  (47, .goto 14, 50, [61], []),
  (50, .aload_n 0, 51, [0], []),
  (51, .getfield 35, 54, [], []),
  (54, .iload 5, 56, [], []),
  (56, .iaload, 57, [], []),
  (57, .iconst 3, 58, [], [3]),
  (58, .if_icmp .ge 118, 61, [176], []),
  (61, .aload_n 0, 62, [0], []),
  (62, .getfield 38, 65, [], []),
  (65, .iload 5, 67, [], []),
  (67, .dup2, 68, [], []),
  (68, .iaload, 69, [], []),
  (69, .iload_n 1, 70, [1], []),
  (70, .ifCond .ne 7, 73, [77], []),
  (73, .iconst 1, 74, [], [1]),
  (74, .goto 4, 77, [78], []),
  (77, .iconst 0, 78, [], [0]),
  (78, .iadd, 79, [], []),
  (79, .iastore, 80, [], []),
  (80, .aload_n 0, 81, [0], []),
  (81, .getfield 35, 84, [], []),
  (84, .iload 5, 86, [], []),
  (86, .dup2, 87, [], []),
  (87, .iaload, 88, [], []),
  (88, .iload_n 1, 89, [1], []),
  (89, .iconst 1, 90, [], [1]),
  (90, .if_icmp .ne 7, 93, [97], []),
  (93, .iconst 1, 94, [], [1]),
  (94, .goto 4, 97, [98], []),
  (97, .iconst 0, 98, [], [0]),
  (98, .iadd, 99, [], []),
  (99, .iastore, 100, [], []),
  (100, .aload_n 0, 101, [0], []),
  (101, .iconst 0, 102, [], [0]),
  (102, .invokevirtual 337, 105, [], []),
  (105, .lstore 6, 107, [], []),
  (107, .aload_n 0, 108, [0], []),
  (108, .getfield 38, 111, [], []),
  (111, .iload 5, 113, [], []),
  (113, .dup2, 114, [], []),
  (114, .iaload, 115, [], []),
  (115, .iload_n 1, 116, [1], []),
  (116, .ifCond .ne 7, 119, [123], []),
  (119, .iconst 1, 120, [], [1]),
  (120, .goto 4, 123, [124], []),
  (123, .iconst 0, 124, [], [0]),
  (124, .isub, 125, [], []),
  (125, .iastore, 126, [], []),
  (126, .aload_n 0, 127, [0], []),
  (127, .getfield 35, 130, [], []),
  (130, .iload 5, 132, [], []),
  (132, .dup2, 133, [], []),
  (133, .iaload, 134, [], []),
  (134, .iload_n 1, 135, [1], []),
  (135, .iconst 1, 136, [], [1]),
  (136, .if_icmp .ne 7, 139, [143], []),
  (139, .iconst 1, 140, [], [1]),
  (140, .goto 4, 143, [144], []),
  (143, .iconst 0, 144, [], [0]),
  (144, .isub, 145, [], []),
  (145, .iastore, 146, [], []),
  (146, .lload 6, 148, [], []),
  (148, .lload_n 2, 149, [2], []),
  (149, .lcmp, 150, [], []),
  (150, .ifCond .ge 8, 153, [158], []),
  (153, .iload 5, 155, [], []),
  (155, .goto 5, 158, [160], []),
  (158, .iload 4, 160, [], []),
  (160, .istore 4, 162, [], []),
  (162, .lload 6, 164, [], []),
  (164, .lload_n 2, 165, [2], []),
  (165, .lcmp, 166, [], []),
  (166, .ifCond .ge 8, 169, [174], []),
  (169, .lload 6, 171, [], []),
  (171, .goto 4, 174, [175], []),
  (174, .lload_n 2, 175, [2], []),
  (175, .lstore_n 2, 176, [2], []),
  (176, .iinc 5 1, 179, [], [1]),
  (179, .goto (-155), 182, [24], []),
  (182, .iload 4, 184, [], []),
  (184, .ireturn, 185, [], [])]
theorem zo_X12_ready : ab_ok cX12_ready zp_X12_ready = true := by decide +kernel
def zg_X12_ready : ab_G := (zw_M, [], zf_X12, zc_X12, [], [(337, 2, zt_X12_runAll)], [(175, 3, zt_X12_in)])
theorem zm_X12_ready : ab_MG zg_X12_ready := ab_MGof (List.forall_mem_cons.mpr ⟨zt_X12_runAll_mono, List.forall_mem_nil _⟩) (List.forall_mem_cons.mpr ⟨ab_pure_mono _, List.forall_mem_nil _⟩)
abbrev zr_X12_ready (Q : ab_R) : ab_K := ab_Run zg_X12_ready zp_X12_ready (some .int) 8 Q
set_option maxRecDepth 20000 in
theorem zv_X12_ready_0 {Q : ab_R} {M : ab_M} {N : ab_N} (l1 : Int32) (h : ((ab_b ((0 : Int32) ≤ l1 ∧ l1 ≤ (1 : Int32))) = 0 → Q (some (.int (-2 : Int32))) M N) ∧ (¬ ((ab_b ((0 : Int32) ≤ l1 ∧ l1 ≤ (1 : Int32))) = 0) → zt_X12_runAll [.ref 0, .int (0 : Int32)] M N (fun r M2 N2 => zr_X12_ready Q 17 [some (.ref 0), some (.int l1), none, none, none, none, none, none] (ab_ol r []) M2 N2))) : zr_X12_ready Q 0 [some (.ref 0), some (.int l1)] [] M N := ab_Run_s zm_X12_ready (sp := [(17, [true, true, false, false, false, false, false, false]), (24, [true, true, true, false, true, true, false, false]), (78, [true, true, true, false, true, true, false, false]), (105, [true, true, true, false, true, true, false, false]), (124, [true, true, true, false, true, true, true, false]), (160, [true, true, true, false, false, true, true, false])]) 109 h
set_option maxRecDepth 20000 in
theorem zv_X12_ready_17 {Q : ab_R} {M : ab_M} {N : ab_N} (l1 : Int32) (s0 : Int64) (h : zr_X12_ready Q 24 [some (.ref 0), some (.int l1), some (.long s0), none, some (.int (-1 : Int32)), some (.int (0 : Int32)), none, none] [] M N) : zr_X12_ready Q 17 [some (.ref 0), some (.int l1), none, none, none, none, none, none] [.long s0] M N := ab_Run_s zm_X12_ready (sp := [(17, [true, true, false, false, false, false, false, false]), (24, [true, true, true, false, true, true, false, false]), (78, [true, true, true, false, true, true, false, false]), (105, [true, true, true, false, true, true, false, false]), (124, [true, true, true, false, true, true, true, false]), (160, [true, true, true, false, false, true, true, false])]) 109 h
set_option maxRecDepth 20000 in
theorem zv_X12_ready_24 {Q : ab_R} {M : ab_M} {N : ab_N} (l1 : Int32) (l2 : Int64) (l4 : Int32) (l5 : Int32) (h : ((M 0 7) ≤ l5 → Q (some (.int l4)) M N) ∧ (¬ ((M 0 7) ≤ l5) → (l1 = 0 → vp_in l5 8 ∧ (((M 5 l5.toNatClampNeg) = 0 → vp_in l5 8 ∧ ((l1 = 0 → zr_X12_ready Q 78 [some (.ref 0), some (.int l1), some (.long l2), none, some (.int l4), some (.int l5), none, none] [.int (1 : Int32), .int (M 5 l5.toNatClampNeg), .int l5, .ref 5] M N) ∧ (¬ (l1 = 0) → zr_X12_ready Q 78 [some (.ref 0), some (.int l1), some (.long l2), none, some (.int l4), some (.int l5), none, none] [.int (0 : Int32), .int (M 5 l5.toNatClampNeg), .int l5, .ref 5] M N))) ∧ (¬ ((M 5 l5.toNatClampNeg) = 0) → zr_X12_ready Q 24 [some (.ref 0), some (.int l1), some (.long l2), none, some (.int l4), some (.int (l5 + (1 : Int32))), none, none] [] M N))) ∧ (¬ (l1 = 0) → vp_in l5 8 ∧ (((3 : Int32) ≤ (M 4 l5.toNatClampNeg) → zr_X12_ready Q 24 [some (.ref 0), some (.int l1), some (.long l2), none, some (.int l4), some (.int (l5 + (1 : Int32))), none, none] [] M N) ∧ (¬ ((3 : Int32) ≤ (M 4 l5.toNatClampNeg)) → vp_in l5 8 ∧ ((l1 = 0 → zr_X12_ready Q 78 [some (.ref 0), some (.int l1), some (.long l2), none, some (.int l4), some (.int l5), none, none] [.int (1 : Int32), .int (M 5 l5.toNatClampNeg), .int l5, .ref 5] M N) ∧ (¬ (l1 = 0) → zr_X12_ready Q 78 [some (.ref 0), some (.int l1), some (.long l2), none, some (.int l4), some (.int l5), none, none] [.int (0 : Int32), .int (M 5 l5.toNatClampNeg), .int l5, .ref 5] M N))))))) : zr_X12_ready Q 24 [some (.ref 0), some (.int l1), some (.long l2), none, some (.int l4), some (.int l5), none, none] [] M N := ab_Run_s zm_X12_ready (sp := [(17, [true, true, false, false, false, false, false, false]), (24, [true, true, true, false, true, true, false, false]), (78, [true, true, true, false, true, true, false, false]), (105, [true, true, true, false, true, true, false, false]), (124, [true, true, true, false, true, true, true, false]), (160, [true, true, true, false, false, true, true, false])]) 109 h
set_option maxRecDepth 20000 in
theorem zv_X12_ready_78 {Q : ab_R} {M : ab_M} {N : ab_N} (l1 : Int32) (l2 : Int64) (l4 : Int32) (l5 : Int32) (s1 : Int32) (s2 : Int32) (s3 : Int32) (h : vp_in s1 8 ∧ (let z1 : Nat → Int32 := upd (M 5) s1.toNatClampNeg (s2 + s3); vp_in l5 8 ∧ ((l1 = (1 : Int32) → vp_in l5 8 ∧ (let z2 : Nat → Int32 := upd (M 4) l5.toNatClampNeg ((M 4 l5.toNatClampNeg) + (1 : Int32)); zt_X12_runAll [.ref 0, .int (0 : Int32)] (ab_u (ab_u M 5 z1) 4 z2) N (fun r M2 N2 => zr_X12_ready Q 105 [some (.ref 0), some (.int l1), some (.long l2), none, some (.int l4), some (.int l5), none, none] (ab_ol r []) M2 N2))) ∧ (¬ (l1 = (1 : Int32)) → vp_in l5 8 ∧ (let z3 : Nat → Int32 := upd (M 4) l5.toNatClampNeg ((M 4 l5.toNatClampNeg) + (0 : Int32)); zt_X12_runAll [.ref 0, .int (0 : Int32)] (ab_u (ab_u M 5 z1) 4 z3) N (fun r M2 N2 => zr_X12_ready Q 105 [some (.ref 0), some (.int l1), some (.long l2), none, some (.int l4), some (.int l5), none, none] (ab_ol r []) M2 N2)))))) : zr_X12_ready Q 78 [some (.ref 0), some (.int l1), some (.long l2), none, some (.int l4), some (.int l5), none, none] [.int s3, .int s2, .int s1, .ref 5] M N := ab_Run_s zm_X12_ready (sp := [(17, [true, true, false, false, false, false, false, false]), (24, [true, true, true, false, true, true, false, false]), (78, [true, true, true, false, true, true, false, false]), (105, [true, true, true, false, true, true, false, false]), (124, [true, true, true, false, true, true, true, false]), (160, [true, true, true, false, false, true, true, false])]) 109 h
set_option maxRecDepth 20000 in
theorem zv_X12_ready_105 {Q : ab_R} {M : ab_M} {N : ab_N} (l1 : Int32) (l2 : Int64) (l4 : Int32) (l5 : Int32) (s0 : Int64) (h : vp_in l5 8 ∧ ((l1 = 0 → zr_X12_ready Q 124 [some (.ref 0), some (.int l1), some (.long l2), none, some (.int l4), some (.int l5), some (.long s0), none] [.int (1 : Int32), .int (M 5 l5.toNatClampNeg), .int l5, .ref 5] M N) ∧ (¬ (l1 = 0) → zr_X12_ready Q 124 [some (.ref 0), some (.int l1), some (.long l2), none, some (.int l4), some (.int l5), some (.long s0), none] [.int (0 : Int32), .int (M 5 l5.toNatClampNeg), .int l5, .ref 5] M N))) : zr_X12_ready Q 105 [some (.ref 0), some (.int l1), some (.long l2), none, some (.int l4), some (.int l5), none, none] [.long s0] M N := ab_Run_s zm_X12_ready (sp := [(17, [true, true, false, false, false, false, false, false]), (24, [true, true, true, false, true, true, false, false]), (78, [true, true, true, false, true, true, false, false]), (105, [true, true, true, false, true, true, false, false]), (124, [true, true, true, false, true, true, true, false]), (160, [true, true, true, false, false, true, true, false])]) 109 h
set_option maxRecDepth 20000 in
theorem zv_X12_ready_124 {Q : ab_R} {M : ab_M} {N : ab_N} (l1 : Int32) (l2 : Int64) (l4 : Int32) (l5 : Int32) (l6 : Int64) (s1 : Int32) (s2 : Int32) (s3 : Int32) (h : vp_in s1 8 ∧ (let z1 : Nat → Int32 := upd (M 5) s1.toNatClampNeg (s2 - s3); vp_in l5 8 ∧ ((l1 = (1 : Int32) → vp_in l5 8 ∧ (let z2 : Nat → Int32 := upd (M 4) l5.toNatClampNeg ((M 4 l5.toNatClampNeg) - (1 : Int32)); (0 ≤ (lg_cmp l6 l2) → zr_X12_ready Q 160 [some (.ref 0), some (.int l1), some (.long l2), none, none, some (.int l5), some (.long l6), none] [.int l4] (ab_u (ab_u M 5 z1) 4 z2) N) ∧ (¬ (0 ≤ (lg_cmp l6 l2)) → zr_X12_ready Q 160 [some (.ref 0), some (.int l1), some (.long l2), none, none, some (.int l5), some (.long l6), none] [.int l5] (ab_u (ab_u M 5 z1) 4 z2) N))) ∧ (¬ (l1 = (1 : Int32)) → vp_in l5 8 ∧ (let z3 : Nat → Int32 := upd (M 4) l5.toNatClampNeg ((M 4 l5.toNatClampNeg) - (0 : Int32)); (0 ≤ (lg_cmp l6 l2) → zr_X12_ready Q 160 [some (.ref 0), some (.int l1), some (.long l2), none, none, some (.int l5), some (.long l6), none] [.int l4] (ab_u (ab_u M 5 z1) 4 z3) N) ∧ (¬ (0 ≤ (lg_cmp l6 l2)) → zr_X12_ready Q 160 [some (.ref 0), some (.int l1), some (.long l2), none, none, some (.int l5), some (.long l6), none] [.int l5] (ab_u (ab_u M 5 z1) 4 z3) N)))))) : zr_X12_ready Q 124 [some (.ref 0), some (.int l1), some (.long l2), none, some (.int l4), some (.int l5), some (.long l6), none] [.int s3, .int s2, .int s1, .ref 5] M N := ab_Run_s zm_X12_ready (sp := [(17, [true, true, false, false, false, false, false, false]), (24, [true, true, true, false, true, true, false, false]), (78, [true, true, true, false, true, true, false, false]), (105, [true, true, true, false, true, true, false, false]), (124, [true, true, true, false, true, true, true, false]), (160, [true, true, true, false, false, true, true, false])]) 109 h
set_option maxRecDepth 20000 in
theorem zv_X12_ready_160 {Q : ab_R} {M : ab_M} {N : ab_N} (l1 : Int32) (l2 : Int64) (l5 : Int32) (l6 : Int64) (s0 : Int32) (h : (0 ≤ (lg_cmp l6 l2) → zr_X12_ready Q 24 [some (.ref 0), some (.int l1), some (.long l2), none, some (.int s0), some (.int (l5 + (1 : Int32))), none, none] [] M N) ∧ (¬ (0 ≤ (lg_cmp l6 l2)) → zr_X12_ready Q 24 [some (.ref 0), some (.int l1), some (.long l6), none, some (.int s0), some (.int (l5 + (1 : Int32))), none, none] [] M N)) : zr_X12_ready Q 160 [some (.ref 0), some (.int l1), some (.long l2), none, none, some (.int l5), some (.long l6), none] [.int s0] M N := ab_Run_s zm_X12_ready (sp := [(17, [true, true, false, false, false, false, false, false]), (24, [true, true, true, false, true, true, false, false]), (78, [true, true, true, false, true, true, false, false]), (105, [true, true, true, false, true, true, false, false]), (124, [true, true, true, false, true, true, true, false]), (160, [true, true, true, false, false, true, true, false])]) 109 h
theorem zLp_1 {d : ab_M} (h : ∀ p, p < 8 → d 16 p = 0 ∨ d 16 p = 1) {p : Nat} (hp : p < 8) (c : ¬ 1 ≤ d 16 p) : ∀ q, q < 8 → upd (d 16) p (d 16 p + 1) q = 0 ∨ upd (d 16) p (d 16 p + 1) q = 1 := by
  intro q hq
  by_cases e : q = p
  · rw [e, upd_eq]
    rcases h p hp with w | w
    · rw [w]; exact Or.inr (by decide)
    · rw [w] at c; exact absurd (by decide) c
  · rw [upd_ne _ _ e]
    exact h q hq
theorem zL_X12_readyL {Q : ab_R} {d M0 : ab_M} {N0 : ab_N} (hR : zRN d M0) (hk : ∀ M N, zFr zSL M0 M → zNfr [0, 32] N0 N → Q (some (.int (zRdL d (zPcs d)).1)) M N) : ∀ (r p : Nat) (M : ab_M) (N : ab_N), p + r = zPcs d → zFr zSL M0 M → zNfr [0, 32] N0 N → zr_X12_ready Q 24 [some (.ref 0), some (.int 0), some (.long (zRdL d p).2), none, some (.int (zRdL d p).1), some (.int (nI p)), none, none] [] M N := by
  obtain ⟨n7, p8, n12, m5, n0, h1, h12, -⟩ := zNI_n hR
  have b5 : d 16 = M0 5 := hR.1.2.1.2.2.2.2.1
  have b4 : d 15 = M0 4 := hR.1.2.1.2.2.2.1
  intro r
  induction r with
  | zero =>
    intro p M N hr hF hN
    have e : p = zPcs d := by omega
    subst e
    have n7 : M 0 7 = nI (zPcs d) := by rw [hF 0 (by decide)]; exact n7
    exact zv_X12_ready_24 _ _ _ _ ⟨fun _ => hk M N hF hN, fun c => absurd (by rw [n7]; exact nI_le (Nat.le_refl _) (by omega)) c⟩
  | succ r ih =>
    intro p M N hr hF hN
    have n7 : M 0 7 = nI (zPcs d) := by rw [hF 0 (by decide)]; exact n7
    have hin : vp_in (nI p) 8 := nI_in_ (by omega)
    have cp : (nI p).toNatClampNeg = p := nI_clamp (by omega)
    have e5 : M 5 = d 16 := by rw [hF 5 (by decide), b5]
    have e4 : M 4 = d 15 := by rw [hF 4 (by decide), b4]
    have ef : zRdL d (p + 1) = if decide (¬ 1 ≤ d 16 p) = true then zOf (zRdL d p) (nI p) (zAll (zLaD d p (d 16 p + 1))) else zRdL d p := rfl
    have hF2 : zFr (5 :: zSL) M0 M := zFr_mono hF (by decide)
    have skip : ¬ ¬ 1 ≤ d 16 p → zr_X12_ready Q 24 [some (.ref 0), some (.int 0), some (.long (zRdL d p).2), none, some (.int (zRdL d p).1), some (.int (nI p + 1)), none, none] [] M N := fun c => by
      have := ih (p + 1) M N (by omega) hF hN
      rw [ef, if_neg (fun z => c (of_decide_eq_true z))] at this
      rw [nI_1]
      exact this
    have try_ : ¬ 1 ≤ d 16 p → zr_X12_ready Q 78 [some (.ref 0), some (.int 0), some (.long (zRdL d p).2), none, some (.int (zRdL d p).1), some (.int (nI p)), none, none] [.int 1, .int (d 16 p), .int (nI p), .ref 5] M N := fun c => by
      rw [if_pos (decide_eq_true c)] at ef
      refine zv_X12_ready_78 _ _ _ _ _ _ _ ?_
      rw [cp]
      refine ⟨hin, ?_⟩
      intro z1
      have ez1 : z1 = upd (d 16) p (d 16 p + 1) := by simp only [z1]; rw [e5]
      clear_value z1
      subst ez1
      refine ⟨hin, fun z => absurd z (by decide), fun _ => ⟨hin, ?_⟩⟩
      intro z3
      have ez3 : z3 = d 15 := by simp only [z3]; rw [e4, Int32.add_zero, upd_same]
      clear_value z3
      subst ez3
      have hR2 : zRN (zLaD d p (d 16 p + 1)) (ab_u M 5 (upd (d 16) p (d 16 p + 1))) := zRN_zfr (zRN_a16 hR _ (zLp_1 hR.2.2.2.2 (by omega) c)) (zFr_same hF2 _) (by decide)
      have em : ab_u (ab_u M 5 (upd (d 16) p (d 16 p + 1))) 4 (d 15) = ab_u M 5 (upd (d 16) p (d 16 p + 1)) := by rw [ab_u_id]; rw [ab_u_ne _ _ (by decide), e4]
      rw [em]
      refine zRA hR2 (fun M2 N2 f1 f2 => zv_X12_ready_105 _ _ _ _ _ ?_)
      have e52 : M2 5 = upd (d 16) p (d 16 p + 1) := by rw [f1 5 (by decide), ab_u_eq]
      have e42 : M2 4 = d 15 := by rw [f1 4 (by decide), ab_u_ne _ _ (by decide), e4]
      rw [cp]
      refine ⟨hin, fun _ => ?_, fun z => absurd rfl z⟩
      refine zv_X12_ready_124 _ _ _ _ _ _ _ _ ?_
      rw [cp]
      refine ⟨hin, ?_⟩
      intro z1
      have ez1 : z1 = d 16 := by simp only [z1]; rw [e52, upd_upd, upd_eq, Int32.add_sub_cancel, upd_same]
      clear_value z1
      subst ez1
      refine ⟨hin, fun z => absurd z (by decide), fun _ => ⟨hin, ?_⟩⟩
      intro z3
      have ez3 : z3 = d 15 := by simp only [z3]; rw [e42, Int32.sub_zero, upd_same]
      clear_value z3
      subst ez3
      have em2 : ab_u (ab_u M2 5 (d 16)) 4 (d 15) = ab_u M2 5 (d 16) := by rw [ab_u_id]; rw [ab_u_ne _ _ (by decide), e42]
      rw [em2]
      have go := ih (p + 1) (ab_u M2 5 (d 16)) N2 (by omega) (zFr_back (zFr_tr (zFr_u hF2 (by decide) _) (zFr_mono f1 (by decide))) b5) (zNfr_tr hN f2)
      rw [ef, zOf_cmp] at go
      refine ⟨fun c2 => zv_X12_ready_160 _ _ _ _ _ ⟨fun _ => ?_, fun z => absurd c2 z⟩, fun c2 => zv_X12_ready_160 _ _ _ _ _ ⟨fun z => absurd z c2, fun _ => ?_⟩⟩
      · rw [nI_1]
        rw [if_pos c2] at go
        exact go
      · rw [nI_1]
        rw [if_neg c2] at go
        exact go
    refine zv_X12_ready_24 _ _ _ _ ?_
    rw [n7, cp, e5, e4]
    refine ⟨fun c => absurd c (nI_ge (by omega) (by omega)), fun _ => ⟨fun _ => ⟨hin, fun c => ⟨hin, fun _ => try_ (by rw [c]; decide), fun z => absurd rfl z⟩, fun c => skip (fun z => z (by rcases hR.2.2.2.2 p (by omega) with q | q; exact absurd q c; rw [q]; decide))⟩, fun z => absurd rfl z⟩⟩
theorem zL_X12_readyK {Q : ab_R} {d M0 : ab_M} {N0 : ab_N} (hR : zRN d M0) (hk : ∀ M N, zFr zSL M0 M → zNfr [0, 32] N0 N → Q (some (.int (zRdK d (zPcs d)).1)) M N) : ∀ (r p : Nat) (M : ab_M) (N : ab_N), p + r = zPcs d → zFr zSL M0 M → zNfr [0, 32] N0 N → zr_X12_ready Q 24 [some (.ref 0), some (.int 1), some (.long (zRdK d p).2), none, some (.int (zRdK d p).1), some (.int (nI p)), none, none] [] M N := by
  obtain ⟨n7, p8, n12, m5, n0, h1, h12, -⟩ := zNI_n hR
  have b5 : d 16 = M0 5 := hR.1.2.1.2.2.2.2.1
  have b4 : d 15 = M0 4 := hR.1.2.1.2.2.2.1
  intro r
  induction r with
  | zero =>
    intro p M N hr hF hN
    have e : p = zPcs d := by omega
    subst e
    have n7 : M 0 7 = nI (zPcs d) := by rw [hF 0 (by decide)]; exact n7
    exact zv_X12_ready_24 _ _ _ _ ⟨fun _ => hk M N hF hN, fun c => absurd (by rw [n7]; exact nI_le (Nat.le_refl _) (by omega)) c⟩
  | succ r ih =>
    intro p M N hr hF hN
    have n7 : M 0 7 = nI (zPcs d) := by rw [hF 0 (by decide)]; exact n7
    have hin : vp_in (nI p) 8 := nI_in_ (by omega)
    have cp : (nI p).toNatClampNeg = p := nI_clamp (by omega)
    have e5 : M 5 = d 16 := by rw [hF 5 (by decide), b5]
    have e4 : M 4 = d 15 := by rw [hF 4 (by decide), b4]
    have ef : zRdK d (p + 1) = if decide (¬ 3 ≤ d 15 p) = true then zOf (zRdK d p) (nI p) (zAll (zSaD d p (d 15 p + 1))) else zRdK d p := rfl
    have hF2 : zFr (4 :: zSL) M0 M := zFr_mono hF (by decide)
    have skip : ¬ ¬ 3 ≤ d 15 p → zr_X12_ready Q 24 [some (.ref 0), some (.int 1), some (.long (zRdK d p).2), none, some (.int (zRdK d p).1), some (.int (nI p + 1)), none, none] [] M N := fun c => by
      have := ih (p + 1) M N (by omega) hF hN
      rw [ef, if_neg (fun z => c (of_decide_eq_true z))] at this
      rw [nI_1]
      exact this
    have try_ : ¬ 3 ≤ d 15 p → zr_X12_ready Q 78 [some (.ref 0), some (.int 1), some (.long (zRdK d p).2), none, some (.int (zRdK d p).1), some (.int (nI p)), none, none] [.int 0, .int (d 16 p), .int (nI p), .ref 5] M N := fun c => by
      rw [if_pos (decide_eq_true c)] at ef
      refine zv_X12_ready_78 _ _ _ _ _ _ _ ?_
      rw [cp]
      refine ⟨hin, ?_⟩
      intro z1
      have ez1 : z1 = d 16 := by simp only [z1]; rw [e5, Int32.add_zero, upd_same]
      clear_value z1
      subst ez1
      refine ⟨hin, fun _ => ⟨hin, ?_⟩, fun z => absurd rfl z⟩
      intro z3
      have ez3 : z3 = upd (d 15) p (d 15 p + 1) := by simp only [z3]; rw [e4]
      clear_value z3
      subst ez3
      have hR2 : zRN (zSaD d p (d 15 p + 1)) (ab_u M 4 (upd (d 15) p (d 15 p + 1))) := zRN_zfr (zRN_a15 hR _ (zSk_1 hR.2.2.2.1 (by omega) c)) (zFr_same hF2 _) (by decide)
      have em : ab_u (ab_u M 5 (d 16)) 4 (upd (d 15) p (d 15 p + 1)) = ab_u M 4 (upd (d 15) p (d 15 p + 1)) := by rw [ab_u_id (X := M) e5.symm]
      rw [em]
      refine zRA hR2 (fun M2 N2 f1 f2 => zv_X12_ready_105 _ _ _ _ _ ?_)
      have e52 : M2 4 = upd (d 15) p (d 15 p + 1) := by rw [f1 4 (by decide), ab_u_eq]
      have e42 : M2 5 = d 16 := by rw [f1 5 (by decide), ab_u_ne _ _ (by decide), e5]
      rw [cp]
      refine ⟨hin, fun z => absurd z (by decide), fun _ => ?_⟩
      refine zv_X12_ready_124 _ _ _ _ _ _ _ _ ?_
      rw [cp]
      refine ⟨hin, ?_⟩
      intro z1
      have ez1 : z1 = d 16 := by simp only [z1]; rw [e42, Int32.sub_zero, upd_same]
      clear_value z1
      subst ez1
      refine ⟨hin, fun _ => ⟨hin, ?_⟩, fun z => absurd rfl z⟩
      intro z3
      have ez3 : z3 = d 15 := by simp only [z3]; rw [e52, upd_upd, upd_eq, Int32.add_sub_cancel, upd_same]
      clear_value z3
      subst ez3
      have em2 : ab_u (ab_u M2 5 (d 16)) 4 (d 15) = ab_u M2 4 (d 15) := by rw [ab_u_id (X := M2) e42.symm]
      rw [em2]
      have go := ih (p + 1) (ab_u M2 4 (d 15)) N2 (by omega) (zFr_back (zFr_tr (zFr_u hF2 (by decide) _) (zFr_mono f1 (by decide))) b4) (zNfr_tr hN f2)
      rw [ef, zOf_cmp] at go
      refine ⟨fun c2 => zv_X12_ready_160 _ _ _ _ _ ⟨fun _ => ?_, fun z => absurd c2 z⟩, fun c2 => zv_X12_ready_160 _ _ _ _ _ ⟨fun z => absurd z c2, fun _ => ?_⟩⟩
      · rw [nI_1]
        rw [if_pos c2] at go
        exact go
      · rw [nI_1]
        rw [if_neg c2] at go
        exact go
    refine zv_X12_ready_24 _ _ _ _ ?_
    rw [n7, cp, e5, e4]
    refine ⟨fun c => absurd c (nI_ge (by omega) (by omega)), fun _ => ⟨fun z => absurd z (by decide), fun _ => ⟨hin, fun c => skip (fun z => z c), fun c => ⟨hin, fun z => absurd z (by decide), fun _ => try_ c⟩⟩⟩⟩
theorem zE_X12_ready (as : List Value) (M : ab_M) (N : ab_N) (k : ab_R) (hT : zt_X12_ready as M N k) : ab_cs as ≤ 8 ∧ zr_X12_ready k 0 (ab_en as) [] M N := by
  obtain ⟨⟨d, w⟩, q, rfl, ⟨rfl, hR⟩, hk⟩ := hT
  dsimp only at hR hk ⊢
  have hk := fun M2 N2 (hF : zFr zSL M M2) (hN : zNfr [0, 32] N N2) => hk _ M2 N2 ⟨hF, hN, rfl⟩
  unfold zRdA at hk
  refine ⟨Nat.le_of_ble_eq_true rfl, zv_X12_ready_0 _ ⟨fun c => ?_, fun c => ?_⟩⟩
  · have hk := hk M N (zFr_rf _ _) (zNfr_rf _ _)
    rw [if_neg (ab_b_0.mp c)] at hk
    exact hk
  · have c := zIx0 c
    rw [if_pos c] at hk
    refine zRA hR (fun M2 N2 f1 f2 => zv_X12_ready_17 _ _ ?_)
    by_cases c2 : w = 0
    · rw [if_pos c2] at hk
      rw [c2]
      exact zL_X12_readyL hR hk (zPcs d) 0 M2 N2 (by omega) f1 f2
    · rw [if_neg c2] at hk
      have e : w = 1 := by grind
      rw [e]
      exact zL_X12_readyK hR hk (zPcs d) 0 M2 N2 (by omega) f1 f2
abbrev zR_X12_ready : Room := { frames := 8, cells := 0, slots := 0, locals := 190 }
set_option maxRecDepth 20000 in
theorem zM_X12_ready (l : Launch) : ab_Met l zw_M vwCl zZ_M yX12_ready cX12_ready 8 (some .int) zR_X12_ready zt_X12_ready := ab_ofRun (G := zg_X12_ready) (P := zp_X12_ready) rfl zo_X12_ready (by decide +kernel) zl_cl zl_lamM zf_X12_ok ab_Tab_nil zc_X12_ok ab_Sta_nil (List.forall_mem_cons.mpr ⟨ab_callV zZ_M_ok (zM_X12_runAll l) (ab_in 1372 (by decide +kernel) rfl) (ab_in 1369 (by decide +kernel) rfl) (ab_in 1371 (by decide +kernel) rfl) (ab_inS (List.mem_of_getElem? (i := 50) (by decide +kernel)) rfl) (ab_in 17 (by decide +kernel) rfl) (by unfold ab_yok; decide +kernel) ⟨rfl, rfl⟩ (by decide) zV_X12_runAll, List.forall_mem_nil _⟩) (List.forall_mem_cons.mpr ⟨ab_callS zZ_M_ok (zM_X12_in l) (ab_in 1200 (by decide +kernel) rfl) (ab_in 1198 (by decide +kernel) rfl) (ab_in 1199 (by decide +kernel) rfl) (ab_in 17 (by decide +kernel) rfl) (by unfold ab_yok; decide +kernel) ⟨rfl, rfl⟩ (by decide), List.forall_mem_nil _⟩) zE_X12_ready
