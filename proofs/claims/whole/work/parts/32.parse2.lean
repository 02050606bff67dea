/-! the parts of a text are read *)
-/
theorem zNb {b : Int32} (h : b = 1 ∨ b = 0) : narrow .boolean (.int b) = .int b := by
  rcases h with rfl | rfl
  · exact ab_n1
  · exact ab_n0
theorem zThr_c (t : Int32) : t = 10 ∨ t = 11 ∨ t = 60 ∨ t = 61 ∨ t = 43 ∨ t = 45 ∨ t = 42 ∨ zThr t ≤ 1 := by
  by_cases h1 : t = 10
  · exact Or.inl h1
  by_cases h2 : t = 11
  · exact Or.inr (Or.inl h2)
  by_cases h3 : t = 60
  · exact Or.inr (Or.inr (Or.inl h3))
  by_cases h4 : t = 61
  · exact Or.inr (Or.inr (Or.inr (Or.inl h4)))
  by_cases h5 : t = 43
  · exact Or.inr (Or.inr (Or.inr (Or.inr (Or.inl h5))))
  by_cases h6 : t = 45
  · exact Or.inr (Or.inr (Or.inr (Or.inr (Or.inr (Or.inl h6)))))
  by_cases h7 : t = 42
  · exact Or.inr (Or.inr (Or.inr (Or.inr (Or.inr (Or.inr (Or.inl h7))))))
  refine Or.inr (Or.inr (Or.inr (Or.inr (Or.inr (Or.inr (Or.inr ?_))))))
  unfold zThr zSg
  rw [if_neg h1, if_neg h2, if_neg h3, if_neg h4, if_neg h5, if_neg h6, if_neg h7]
  split
  · exact Nat.le_refl _
  · exact Nat.zero_le _
theorem zThr_6 (t : Int32) : zThr t ≤ 6 := by
  rcases zThr_c t with rfl | rfl | rfl | rfl | rfl | rfl | rfl | h
  all_goals first | decide | omega
theorem zThr_5 (t : Int32) (h0 : ¬ t = 42) : zThr t ≤ 5 := by
  rcases zThr_c t with rfl | rfl | rfl | rfl | rfl | rfl | rfl | h
  all_goals first | decide | omega | exact absurd rfl h0
def zt_X8_one (e : Nat) : ab_T := zt_P 8 false false [] e
theorem zt_X8_one_mono (e : Nat) : ab_mono (zt_X8_one e) := zt_P_mono _ _ _ _ _
theorem zV_X8_one (e : Nat) : ab_recv zw_C vwCl RX8 (zt_X8_one e) := zt_P_v _ _ _ _ _
def zt_X8_term (e : Nat) : ab_T := zt_P 6 false false [42] e
theorem zt_X8_term_mono (e : Nat) : ab_mono (zt_X8_term e) := zt_P_mono _ _ _ _ _
theorem zV_X8_term (e : Nat) : ab_recv zw_C vwCl RX8 (zt_X8_term e) := zt_P_v _ _ _ _ _
def zt_X8_sum (e : Nat) : ab_T := zt_P 5 false false [42, 43, 45] e
theorem zt_X8_sum_mono (e : Nat) : ab_mono (zt_X8_sum e) := zt_P_mono _ _ _ _ _
theorem zV_X8_sum (e : Nat) : ab_recv zw_C vwCl RX8 (zt_X8_sum e) := zt_P_v _ _ _ _ _
def zt_X8_comparison (e : Nat) : ab_T := zt_P 4 false true [42, 43, 45] e
theorem zt_X8_comparison_mono (e : Nat) : ab_mono (zt_X8_comparison e) := zt_P_mono _ _ _ _ _
theorem zV_X8_comparison (e : Nat) : ab_recv zw_C vwCl RX8 (zt_X8_comparison e) := zt_P_v _ _ _ _ _
def zt_X8_negation (e : Nat) : ab_T := zt_P 4 true true [42, 43, 45] e
theorem zt_X8_negation_mono (e : Nat) : ab_mono (zt_X8_negation e) := zt_P_mono _ _ _ _ _
theorem zV_X8_negation (e : Nat) : ab_recv zw_C vwCl RX8 (zt_X8_negation e) := zt_P_v _ _ _ _ _
def zt_X8_both (e : Nat) : ab_T := zt_P 2 true true [42, 43, 45, 11] e
theorem zt_X8_both_mono (e : Nat) : ab_mono (zt_X8_both e) := zt_P_mono _ _ _ _ _
theorem zV_X8_both (e : Nat) : ab_recv zw_C vwCl RX8 (zt_X8_both e) := zt_P_v _ _ _ _ _
def zt_X8_either (e : Nat) : ab_T := zt_P 1 true true [42, 43, 45, 11, 10] e
theorem zt_X8_either_mono (e : Nat) : ab_mono (zt_X8_either e) := zt_P_mono _ _ _ _ _
theorem zV_X8_either (e : Nat) : ab_recv zw_C vwCl RX8 (zt_X8_either e) := zt_P_v _ _ _ _ _
def zp_X8_one : ab_P := [(0, .aload_n 0, 1, [0], []),
  (1, .getfield 37, 4, [], []),
  (4, .ifCond .lt 41, 7, [45], []),
  (7, .aload_n 0, 8, [0], []),
  (8, .getfield 37, 11, [], []),
  (11, .bipush 6, 13, [], [6]),
  (13, .if_icmp .gt 32, 16, [45], []),
  (16, .aload_n 0, 17, [0], []),
  (17, .aload_n 0, 18, [0], []),
  (18, .getfield 37, 21, [], []),
  (21, .ifCond .ne 10, 24, [31], []),
  (24, .aload_n 0, 25, [0], []),
  (25, .getfield 72, 28, [], []),
  (28, .goto 8, 31, [36], []),
  (31, .aload_n 0, 32, [0], []),
  (32, .getfield 37, 35, [], []),
  (35, .ineg, 36, [], []),
  (36, .invokevirtual 53, 39, [], []),
  (39, .aload_n 0, 40, [0], []),
  (40, .invokevirtual 34, 43, [], []),
  (43, .iconst 1, 44, [], [1]),
  (44, .ireturn, 45, [], []),
  (45, .aload_n 0, 46, [0], []),
  (46, .getfield 37, 49, [], []),
  (49, .bipush 45, 51, [], [45]),
  (51, .if_icmp .eq 12, 54, [63], []),
  (54, .aload_n 0, 55, [0], []),
  (55, .getfield 37, 58, [], []),
  (58, .bipush 40, 60, [], [40]),
  (60, .if_icmp .ne 8, 63, [68], []),
  (63, .iload_n 1, 64, [1], []),
  (64, .iconst 5, 65, [], [5]),
  (65, .if_icmp .lt 5, 68, [70], []),
  (68, .iconst 0, 69, [], [0]),
  (69, .ireturn, 70, [], []),
  (70, .aload_n 0, 71, [0], []),
  (71, .getfield 37, 74, [], []),
  (74, .bipush 45, 76, [], [45]),
  (76, .if_icmp .ne 7, 79, [83], []),
  (79, .iconst 1, 80, [], [1]),
  (80, .goto 4, 83, [84], []),
  (83, .iconst 0, 84, [], [0]),
  (84, .istore_n 2, 85, [2], []),
  (85, .aload_n 0, 86, [0], []),
  (86, .invokevirtual 34, 89, [], []),
  (89, .iload_n 2, 90, [2], []),
  (90, .ifCond .eq 19, 93, [109], []),
  (93, .aload_n 0, 94, [0], []),
  (94, .iload_n 1, 95, [1], []),
  (95, .iconst 1, 96, [], [1]),
  (96, .iadd, 97, [], []),
  (97, .invokevirtual 69, 100, [], []),
  (100, .istore_n 3, 101, [3], []),
  (101, .aload_n 0, 102, [0], []),
  (102, .bipush (-8), 104, [], [(-8)]),
  (104, .invokevirtual 53, 107, [], []),
  (107, .iload_n 3, 108, [3], []),
  (108, .ireturn, 109, [], []),
  (109, .aload_n 0, 110, [0], []),
  (110, .iload_n 1, 111, [1], []),
  (111, .iconst 1, 112, [], [1]),
  (112, .iadd, 113, [], []),
  (113, .invokevirtual 43, 116, [], []),
  (116, .ifCond .eq 12, 119, [128], []),
  (119, .aload_n 0, 120, [0], []),
  (120, .getfield 37, 123, [], []),
  (123, .bipush 41, 125, [], [41]),
  (125, .if_icmp .eq 5, 128, [130], []),
  (128, .iconst 0, 129, [], [0]),
  (129, .ireturn, 130, [], []),
  (130, .aload_n 0, 131, [0], []),
  (131, .invokevirtual 34, 134, [], []),
  (134, .iconst 1, 135, [], [1]),
  (135, .ireturn, 136, [], [])]
theorem zo_X8_one : ab_ok cX8_one zp_X8_one = true := by decide +kernel
def zg_X8_one (e : Nat) : ab_G := (zw_C, zs_tab, zf_X8, zc_X8, [], [(34, 1, zt_X8_advance), (43, 2, zt_X8_either e), (53, 2, zt_X8_put), (69, 2, zt_X8_one e)], [])
theorem zm_X8_one (e : Nat) : ab_MG (zg_X8_one e) := ab_MGof (List.forall_mem_cons.mpr ⟨zt_X8_advance_mono, List.forall_mem_cons.mpr ⟨zt_X8_either_mono _, List.forall_mem_cons.mpr ⟨zt_X8_put_mono, List.forall_mem_cons.mpr ⟨zt_X8_one_mono _, List.forall_mem_nil _⟩⟩⟩⟩) (List.forall_mem_nil _)
abbrev zr_X8_one (e : Nat) (Q : ab_R) : ab_K := ab_Run (zg_X8_one e) zp_X8_one (some .boolean) 4 Q
set_option maxRecDepth 20000 in
theorem zv_X8_one_0 {e : Nat} {Q : ab_R} {M : ab_M} {N : ab_N} (l1 : Int32) (h : ((M 4 3) < 0 → ((M 4 3) = (45 : Int32) → zr_X8_one e Q 63 [some (.ref 4), some (.int l1), none, none] [] M N) ∧ (¬ ((M 4 3) = (45 : Int32)) → ((M 4 3) = (40 : Int32) → zr_X8_one e Q 63 [some (.ref 4), some (.int l1), none, none] [] M N) ∧ (¬ ((M 4 3) = (40 : Int32)) → narrow .boolean (.int (0 : Int32)) = .int (0 : Int32) ∧ Q (some (.int (0 : Int32))) M N))) ∧ (¬ ((M 4 3) < 0) → ((6 : Int32) < (M 4 3) → ((M 4 3) = (45 : Int32) → zr_X8_one e Q 63 [some (.ref 4), some (.int l1), none, none] [] M N) ∧ (¬ ((M 4 3) = (45 : Int32)) → ((M 4 3) = (40 : Int32) → zr_X8_one e Q 63 [some (.ref 4), some (.int l1), none, none] [] M N) ∧ (¬ ((M 4 3) = (40 : Int32)) → narrow .boolean (.int (0 : Int32)) = .int (0 : Int32) ∧ Q (some (.int (0 : Int32))) M N))) ∧ (¬ ((6 : Int32) < (M 4 3)) → ((M 4 3) = 0 → zt_X8_put [.ref 4, .int (M 4 4)] M N (fun r M2 N2 => zr_X8_one e Q 39 [some (.ref 4), none, none, none] (ab_ol r []) M2 N2)) ∧ (¬ ((M 4 3) = 0) → zt_X8_put [.ref 4, .int (-(M 4 3))] M N (fun r M2 N2 => zr_X8_one e Q 39 [some (.ref 4), none, none, none] (ab_ol r []) M2 N2))))) : zr_X8_one e Q 0 [some (.ref 4), some (.int l1)] [] M N := ab_Run_s (zm_X8_one e) (sp := [(39, [true, false, false, false]), (43, [false, false, false, false]), (63, [true, true, false, false]), (89, [true, true, true, false]), (100, [true, false, false, false]), (107, [false, false, false, true]), (116, [true, false, false, false]), (134, [false, false, false, false])]) 76 h
set_option maxRecDepth 20000 in
theorem zv_X8_one_39 {e : Nat} {Q : ab_R} {M : ab_M} {N : ab_N}  (h : zt_X8_advance [.ref 4] M N (fun r M2 N2 => zr_X8_one e Q 43 [none, none, none, none] (ab_ol r []) M2 N2)) : zr_X8_one e Q 39 [some (.ref 4), none, none, none] [] M N := ab_Run_s (zm_X8_one e) (sp := [(39, [true, false, false, false]), (43, [false, false, false, false]), (63, [true, true, false, false]), (89, [true, true, true, false]), (100, [true, false, false, false]), (107, [false, false, false, true]), (116, [true, false, false, false]), (134, [false, false, false, false])]) 76 h
set_option maxRecDepth 20000 in
theorem zv_X8_one_43 {e : Nat} {Q : ab_R} {M : ab_M} {N : ab_N}  (h : narrow .boolean (.int (1 : Int32)) = .int (1 : Int32) ∧ Q (some (.int (1 : Int32))) M N) : zr_X8_one e Q 43 [none, none, none, none] [] M N := ab_Run_s (zm_X8_one e) (sp := [(39, [true, false, false, false]), (43, [false, false, false, false]), (63, [true, true, false, false]), (89, [true, true, true, false]), (100, [true, false, false, false]), (107, [false, false, false, true]), (116, [true, false, false, false]), (134, [false, false, false, false])]) 76 h
set_option maxRecDepth 20000 in
theorem zv_X8_one_63 {e : Nat} {Q : ab_R} {M : ab_M} {N : ab_N} (l1 : Int32) (h : (l1 < (5 : Int32) → ((M 4 3) = (45 : Int32) → zt_X8_advance [.ref 4] M N (fun r M2 N2 => zr_X8_one e Q 89 [some (.ref 4), some (.int l1), some (.int (1 : Int32)), none] (ab_ol r []) M2 N2)) ∧ (¬ ((M 4 3) = (45 : Int32)) → zt_X8_advance [.ref 4] M N (fun r M2 N2 => zr_X8_one e Q 89 [some (.ref 4), some (.int l1), some (.int (0 : Int32)), none] (ab_ol r []) M2 N2))) ∧ (¬ (l1 < (5 : Int32)) → narrow .boolean (.int (0 : Int32)) = .int (0 : Int32) ∧ Q (some (.int (0 : Int32))) M N)) : zr_X8_one e Q 63 [some (.ref 4), some (.int l1), none, none] [] M N := ab_Run_s (zm_X8_one e) (sp := [(39, [true, false, false, false]), (43, [false, false, false, false]), (63, [true, true, false, false]), (89, [true, true, true, false]), (100, [true, false, false, false]), (107, [false, false, false, true]), (116, [true, false, false, false]), (134, [false, false, false, false])]) 76 h
set_option maxRecDepth 20000 in
theorem zv_X8_one_89 {e : Nat} {Q : ab_R} {M : ab_M} {N : ab_N} (l1 : Int32) (l2 : Int32) (h : (l2 = 0 → zt_X8_either e [.ref 4, .int (l1 + (1 : Int32))] M N (fun r M2 N2 => zr_X8_one e Q 116 [some (.ref 4), none, none, none] (ab_ol r []) M2 N2)) ∧ (¬ (l2 = 0) → zt_X8_one e [.ref 4, .int (l1 + (1 : Int32))] M N (fun r M2 N2 => zr_X8_one e Q 100 [some (.ref 4), none, none, none] (ab_ol r []) M2 N2))) : zr_X8_one e Q 89 [some (.ref 4), some (.int l1), some (.int l2), none] [] M N := ab_Run_s (zm_X8_one e) (sp := [(39, [true, false, false, false]), (43, [false, false, false, false]), (63, [true, true, false, false]), (89, [true, true, true, false]), (100, [true, false, false, false]), (107, [false, false, false, true]), (116, [true, false, false, false]), (134, [false, false, false, false])]) 76 h
set_option maxRecDepth 20000 in
theorem zv_X8_one_100 {e : Nat} {Q : ab_R} {M : ab_M} {N : ab_N} (s0 : Int32) (h : zt_X8_put [.ref 4, .int (-8 : Int32)] M N (fun r M2 N2 => zr_X8_one e Q 107 [none, none, none, some (.int s0)] (ab_ol r []) M2 N2)) : zr_X8_one e Q 100 [some (.ref 4), none, none, none] [.int s0] M N := ab_Run_s (zm_X8_one e) (sp := [(39, [true, false, false, false]), (43, [false, false, false, false]), (63, [true, true, false, false]), (89, [true, true, true, false]), (100, [true, false, false, false]), (107, [false, false, false, true]), (116, [true, false, false, false]), (134, [false, false, false, false])]) 76 h
set_option maxRecDepth 20000 in
theorem zv_X8_one_107 {e : Nat} {Q : ab_R} {M : ab_M} {N : ab_N} (l3 : Int32) (h : narrow .boolean (.int l3) = .int l3 ∧ Q (some (.int l3)) M N) : zr_X8_one e Q 107 [none, none, none, some (.int l3)] [] M N := ab_Run_s (zm_X8_one e) (sp := [(39, [true, false, false, false]), (43, [false, false, false, false]), (63, [true, true, false, false]), (89, [true, true, true, false]), (100, [true, false, false, false]), (107, [false, false, false, true]), (116, [true, false, false, false]), (134, [false, false, false, false])]) 76 h
set_option maxRecDepth 20000 in
theorem zv_X8_one_116 {e : Nat} {Q : ab_R} {M : ab_M} {N : ab_N} (s0 : Int32) (h : (s0 = 0 → narrow .boolean (.int (0 : Int32)) = .int (0 : Int32) ∧ Q (some (.int (0 : Int32))) M N) ∧ (¬ (s0 = 0) → ((M 4 3) = (41 : Int32) → zt_X8_advance [.ref 4] M N (fun r M2 N2 => zr_X8_one e Q 134 [none, none, none, none] (ab_ol r []) M2 N2)) ∧ (¬ ((M 4 3) = (41 : Int32)) → narrow .boolean (.int (0 : Int32)) = .int (0 : Int32) ∧ Q (some (.int (0 : Int32))) M N))) : zr_X8_one e Q 116 [some (.ref 4), none, none, none] [.int s0] M N := ab_Run_s (zm_X8_one e) (sp := [(39, [true, false, false, false]), (43, [false, false, false, false]), (63, [true, true, false, false]), (89, [true, true, true, false]), (100, [true, false, false, false]), (107, [false, false, false, true]), (116, [true, false, false, false]), (134, [false, false, false, false])]) 76 h
set_option maxRecDepth 20000 in
theorem zv_X8_one_134 {e : Nat} {Q : ab_R} {M : ab_M} {N : ab_N}  (h : narrow .boolean (.int (1 : Int32)) = .int (1 : Int32) ∧ Q (some (.int (1 : Int32))) M N) : zr_X8_one e Q 134 [none, none, none, none] [] M N := ab_Run_s (zm_X8_one e) (sp := [(39, [true, false, false, false]), (43, [false, false, false, false]), (63, [true, true, false, false]), (89, [true, true, true, false]), (100, [true, false, false, false]), (107, [false, false, false, true]), (116, [true, false, false, false]), (134, [false, false, false, false])]) 76 h
theorem zE_X8_one (e : Nat) (as : List Value) (M : ab_M) (N : ab_N) (k : ab_R) (hT : zt_X8_one (e + 1) as M N k) : ab_cs as ≤ 4 ∧ zr_X8_one e k 0 (ab_en as) [] M N := by
  obtain ⟨n, w, i, dn, o, rfl, ho, he, hp, hk⟩ := zt_P_e hT
  have hi := hp.2.2.2.2.1
  have hn := hp.1.1
  have hdn := hp.2.2.2.2.2.2.2
  have g0 := zPf_rf hp
  obtain ⟨b1, b2, b3, b4, b5⟩ := zTk_b (M 34) hi
  obtain ⟨a1, a2, a3, a4⟩ := hp.2.2.2.1
  have no : ∀ (M1 : ab_M) (i2 : Nat) (C : List Int32), zPf M M1 n dn i2 C → i + C.length ≤ i2 → zBad 8 false (M 34) n o i i2 → narrow .boolean (.int (0 : Int32)) = .int (0 : Int32) ∧ k (some (.int (0 : Int32))) M1 N := fun M1 i2 C g hl hb => ⟨ab_n0, hk 0 M1 i2 C g ⟨hl, Or.inr ⟨rfl, hb⟩⟩⟩
  have yes : ∀ (M1 : ab_M) (i2 : Nat) (C : List Int32), zPf M M1 n dn i2 C → i + C.length ≤ i2 → zGood 8 false (M 34) n o i i2 C → narrow .boolean (.int (1 : Int32)) = .int (1 : Int32) ∧ k (some (.int (1 : Int32))) M1 N := fun M1 i2 C g hl hb => ⟨ab_n1, hk 1 M1 i2 C g ⟨hl, Or.inl ⟨rfl, by simp, fun z => absurd z (by decide), fun _ => hb⟩⟩⟩
  have sg : (zTk (M 34) n i).1 = 45 ∨ (zTk (M 34) n i).1 = 40 → zr_X8_one e k 63 [some (.ref 4), some (.int (nI o)), none, none] [] M N := by
    intro ht
    have hne : ¬ (zTk (M 34) n i).1 = -1 := fun z => by rw [z] at ht; exact absurd ht (by decide)
    have e1 : nI o + 1 = nI (o + 1) := nI_1 o
    refine zv_X8_one_63 _ ?_
    rw [a1]
    refine ⟨fun c => ?_, fun c => ?_⟩
    · have ho5 : o < 5 := Nat.not_le.mp fun z => nI_nlt (a := o) (b := 5) z (by omega) c
      refine ⟨fun c2 => ?_, fun c2 => ?_⟩
      · refine zAdv_call hp g0 hne (fun M2 g2 => zv_X8_one_89 _ _ ⟨fun z => absurd z (by decide), fun _ => ?_⟩)
        refine zP_call (e := e) (o := o + 1) hp g2 (by simp; omega) (by omega) (by omega) e1 (fun b M3 i2 C2 g3 hP2 => zv_X8_one_100 _ ?_)
        have hi2 := g3.2.2.2.1
        have hl2 := hP2.1
        refine zPut_call hp g3 (by rw [List.nil_append]; omega) (fun M4 g4 => zv_X8_one_107 _ ?_)
        rw [List.nil_append] at g4
        have cn : ∀ (K : List Nat) (mn : Bool), zCnd 8 false (M 34) n o i K mn → zCnd 8 false (M 34) n (o + 1) (zTk (M 34) n i).2.2.2 (19 :: K) false := fun K mn q => ⟨by show zRank 19 < 8; decide, by
          show (if 19 = 0 ∨ 19 = 13 ∨ 19 = 19 then 1 else 0) + zOp K = o + 1
          rw [if_pos (by decide), q.2.1]; omega, fun z => absurd z (by decide), fun _ _ => rfl⟩
        rcases hP2.2 with ⟨rfl, -, -, hg⟩ | ⟨rfl, hb⟩
        · refine yes _ i2 _ g4 (by rw [List.length_append]; simp; omega) (fun K O mn q res hv => zR_neg c2 (by rw [q.2.1]; omega) (hg (fun z => absurd z (by decide)) _ _ _ (cn K mn q) _ ?_))
          show zYd _ _ (false, false, i2, zUw 7 (19 :: K) (O ++ C2)) res
          rw [zUw_top (by decide), List.append_assoc]
          exact hv
        · exact no _ i2 _ g4 (by rw [List.length_append]; simp; omega) (fun K O mn q => zR_neg c2 (by rw [q.2.1]; omega) (hb _ _ _ (cn K mn q)))
      · have c3 := ht.resolve_left c2
        refine zAdv_call hp g0 hne (fun M2 g2 => zv_X8_one_89 _ _ ⟨fun _ => ?_, fun z => absurd rfl z⟩)
        refine zP_call (e := e) (o := o + 1) hp g2 (by simp; omega) (by omega) (by omega) e1 (fun b M3 i2 C2 g3 hP2 => zv_X8_one_116 _ ?_)
        rw [List.nil_append] at g3
        have hi2 := g3.2.2.2.1
        have hl2 := hP2.1
        obtain ⟨d1, d2, d3, d4, d5⟩ := zTk_b (M 34) hi2
        have cn : ∀ (K : List Nat) (mn : Bool), zCnd 8 false (M 34) n o i K mn → zCnd 1 true (M 34) n (o + 1) (zTk (M 34) n i).2.2.2 (0 :: K) true := fun K mn q => ⟨by show zRank 0 < 1; decide, by
          show (if 0 = 0 ∨ 0 = 13 ∨ 0 = 19 then 1 else 0) + zOp K = o + 1
          rw [if_pos (by decide), q.2.1]; omega, fun _ => rfl, fun z => absurd z (by decide)⟩
        refine ⟨fun e0 => ?_, fun e0 => ?_⟩
        · rcases hP2.2 with ⟨rfl, -⟩ | ⟨-, hb⟩
          · exact absurd e0 (by decide)
          · exact no _ i2 _ g3 (by omega) (fun K O mn q => zR_par c3 (by rw [q.2.1]; omega) (hb _ _ _ (cn K mn q)))
        · rcases hP2.2 with ⟨rfl, hx, hc, hg⟩ | ⟨z, -⟩
          · rw [g3.2.2.1.1]
            refine ⟨fun c4 => ?_, fun c4 => ?_⟩
            · refine zAdv_call hp g3 (by rw [c4]; decide) (fun M4 g4 => zv_X8_one_134 ?_)
              refine yes _ _ _ g4 (by omega) (fun K O mn q res hv => zR_par c3 (by rw [q.2.1]; omega) (hg (fun _ => by rw [c4]; unfold zCm; decide) _ _ _ (cn K mn q) _ (zV_low (show zRank 0 < 7 by decide) (zA_par c4 hv))))
            · refine no _ i2 _ g3 (by omega) (fun K O mn q => zR_par c3 (by rw [q.2.1]; omega) ?_)
              by_cases cm : zCm (zTk (M 34) n i2).1
              · exact hc rfl cm _ _ _ (cn K mn q)
              · refine hg (fun _ => cm) _ _ _ (cn K mn q) _ (zV_low (show zRank 0 < 7 by decide) (zA_nopar c4 ?_))
                simp only [List.mem_cons, List.not_mem_nil, or_false, not_or] at hx
                unfold zCm at cm
                unfold zSg
                grind
          · exact absurd z e0
    · have ho5 : o = 5 := by
        have : ¬ o < 5 := fun z => c (nI_lt (a := o) (b := 5) z (by omega))
        omega
      exact no M i [] g0 (by simp) (fun K O mn q => zR_full ht (by rw [q.2.1, ho5]))
  have bad : ¬ (0 ≤ (zTk (M 34) n i).1 ∧ (zTk (M 34) n i).1 ≤ 6) → ¬ (zTk (M 34) n i).1 = 45 → ¬ (zTk (M 34) n i).1 = 40 → narrow .boolean (.int (0 : Int32)) = .int (0 : Int32) ∧ k (some (.int (0 : Int32))) M N := fun h1 h2 h3 =>
    no M i [] g0 (by simp) (fun K O mn q => zR_bad h1 h2 h3 (q.2.2.2 rfl))
  have val : 0 ≤ (zTk (M 34) n i).1 → (zTk (M 34) n i).1 ≤ 6 → ∀ v : Int32, v = (if (zTk (M 34) n i).1 = 0 then (zTk (M 34) n i).2.1 else -(zTk (M 34) n i).1) → zt_X8_put [.ref 4, .int v] M N (fun r M2 N2 => zr_X8_one e k 39 [some (.ref 4), none, none, none] (ab_ol r []) M2 N2) := by
    intro h0 h6 v hv
    have hne : ¬ (zTk (M 34) n i).1 = -1 := fun z => by rw [z] at h0; exact absurd h0 (by decide)
    obtain ⟨b6, b7⟩ := b5 hne
    refine zPut_call hp g0 (by simp; omega) (fun M2 g2 => zv_X8_one_39 ?_)
    refine zAdv_call hp g2 hne (fun M4 g4 => zv_X8_one_43 ?_)
    refine yes _ _ _ g4 (by simp; omega) (fun K O mn q res hv2 => zR_val h0 h6 ?_)
    rw [← hv]
    exact hv2
  refine ⟨Nat.le_of_ble_eq_true rfl, zv_X8_one_0 _ ?_⟩
  rw [a1]
  refine ⟨fun c => ⟨fun c2 => sg (Or.inl c2), fun c2 => ⟨fun c3 => sg (Or.inr c3), fun c3 => bad (fun z => absurd c (Int32.not_lt.mpr z.1)) c2 c3⟩⟩, fun c => ⟨fun c1 => ⟨fun c2 => sg (Or.inl c2), fun c2 => ⟨fun c3 => sg (Or.inr c3), fun c3 => bad (fun z => absurd c1 (Int32.not_lt.mpr z.2)) c2 c3⟩⟩, fun c1 => ⟨fun c2 => ?_, fun c2 => ?_⟩⟩⟩
  · exact val (Int32.not_lt.mp c) (Int32.not_lt.mp c1) _ (by rw [if_pos c2, a2 c2])
  · exact val (Int32.not_lt.mp c) (Int32.not_lt.mp c1) _ (by rw [if_neg c2])
def zp_X8_term : ab_P := [(0, .aload_n 0, 1, [0], []),
  (1, .iload_n 1, 2, [1], []),
  (2, .invokevirtual 69, 5, [], []),
  (5, .istore_n 2, 6, [2], []),
  (6, .iconst 0, 7, [], [0]),
  (7, .istore_n 3, 8, [3], []),
  (8, .iload_n 3, 9, [3], []),
  (9, .sipush 160, 12, [], [160]),
  (12, .if_icmp .ge 38, 15, [50], []),
  (15, .iload_n 2, 16, [2], []),
  (16, .ifCond .eq 34, 19, [50], []),
  (19, .aload_n 0, 20, [0], []),
  (20, .getfield 37, 23, [], []),
  (23, .bipush 42, 25, [], [42]),
  (25, .if_icmp .ne 25, 28, [50], []),
  (28, .aload_n 0, 29, [0], []),
  (29, .invokevirtual 34, 32, [], []),
  (32, .aload_n 0, 33, [0], []),
  (33, .iload_n 1, 34, [1], []),
  (34, .invokevirtual 69, 37, [], []),
  (37, .istore_n 2, 38, [2], []),
  (38, .aload_n 0, 39, [0], []),
  (39, .bipush (-15), 41, [], [(-15)]),
  (41, .invokevirtual 53, 44, [], []),
  (44, .iinc 3 1, 47, [], [1]),
  (47, .goto (-39), 50, [8], []),
  (50, .iload_n 2, 51, [2], []),
  (51, .ireturn, 52, [], [])]
theorem zo_X8_term : ab_ok cX8_term zp_X8_term = true := by decide +kernel
def zg_X8_term (e : Nat) : ab_G := (zw_C, zs_tab, zf_X8, zc_X8, [], [(34, 1, zt_X8_advance), (53, 2, zt_X8_put), (69, 2, zt_X8_one (e + 1))], [])
theorem zm_X8_term (e : Nat) : ab_MG (zg_X8_term e) := ab_MGof (List.forall_mem_cons.mpr ⟨zt_X8_advance_mono, List.forall_mem_cons.mpr ⟨zt_X8_put_mono, List.forall_mem_cons.mpr ⟨zt_X8_one_mono _, List.forall_mem_nil _⟩⟩⟩) (List.forall_mem_nil _)
abbrev zr_X8_term (e : Nat) (Q : ab_R) : ab_K := ab_Run (zg_X8_term e) zp_X8_term (some .boolean) 4 Q
set_option maxRecDepth 20000 in
theorem zv_X8_term_0 {e : Nat} {Q : ab_R} {M : ab_M} {N : ab_N} (l1 : Int32) (h : zt_X8_one (e + 1) [.ref 4, .int l1] M N (fun r M2 N2 => zr_X8_term e Q 5 [some (.ref 4), some (.int l1), none, none] (ab_ol r []) M2 N2)) : zr_X8_term e Q 0 [some (.ref 4), some (.int l1)] [] M N := ab_Run_s (zm_X8_term e) (sp := [(5, [true, true, false, false]), (8, [true, true, true, true]), (32, [true, true, false, true]), (37, [true, true, false, true]), (44, [true, true, true, true])]) 30 h
set_option maxRecDepth 20000 in
theorem zv_X8_term_5 {e : Nat} {Q : ab_R} {M : ab_M} {N : ab_N} (l1 : Int32) (s0 : Int32) (h : zr_X8_term e Q 8 [some (.ref 4), some (.int l1), some (.int s0), some (.int (0 : Int32))] [] M N) : zr_X8_term e Q 5 [some (.ref 4), some (.int l1), none, none] [.int s0] M N := ab_Run_s (zm_X8_term e) (sp := [(5, [true, true, false, false]), (8, [true, true, true, true]), (32, [true, true, false, true]), (37, [true, true, false, true]), (44, [true, true, true, true])]) 30 h
set_option maxRecDepth 20000 in
theorem zv_X8_term_8 {e : Nat} {Q : ab_R} {M : ab_M} {N : ab_N} (l1 : Int32) (l2 : Int32) (l3 : Int32) (h : ((160 : Int32) ≤ l3 → narrow .boolean (.int l2) = .int l2 ∧ Q (some (.int l2)) M N) ∧ (¬ ((160 : Int32) ≤ l3) → (l2 = 0 → narrow .boolean (.int l2) = .int l2 ∧ Q (some (.int l2)) M N) ∧ (¬ (l2 = 0) → ((M 4 3) = (42 : Int32) → zt_X8_advance [.ref 4] M N (fun r M2 N2 => zr_X8_term e Q 32 [some (.ref 4), some (.int l1), none, some (.int l3)] (ab_ol r []) M2 N2)) ∧ (¬ ((M 4 3) = (42 : Int32)) → narrow .boolean (.int l2) = .int l2 ∧ Q (some (.int l2)) M N)))) : zr_X8_term e Q 8 [some (.ref 4), some (.int l1), some (.int l2), some (.int l3)] [] M N := ab_Run_s (zm_X8_term e) (sp := [(5, [true, true, false, false]), (8, [true, true, true, true]), (32, [true, true, false, true]), (37, [true, true, false, true]), (44, [true, true, true, true])]) 30 h
set_option maxRecDepth 20000 in
theorem zv_X8_term_32 {e : Nat} {Q : ab_R} {M : ab_M} {N : ab_N} (l1 : Int32) (l3 : Int32) (h : zt_X8_one (e + 1) [.ref 4, .int l1] M N (fun r M2 N2 => zr_X8_term e Q 37 [some (.ref 4), some (.int l1), none, some (.int l3)] (ab_ol r []) M2 N2)) : zr_X8_term e Q 32 [some (.ref 4), some (.int l1), none, some (.int l3)] [] M N := ab_Run_s (zm_X8_term e) (sp := [(5, [true, true, false, false]), (8, [true, true, true, true]), (32, [true, true, false, true]), (37, [true, true, false, true]), (44, [true, true, true, true])]) 30 h
set_option maxRecDepth 20000 in
theorem zv_X8_term_37 {e : Nat} {Q : ab_R} {M : ab_M} {N : ab_N} (l1 : Int32) (l3 : Int32) (s0 : Int32) (h : zt_X8_put [.ref 4, .int (-15 : Int32)] M N (fun r M2 N2 => zr_X8_term e Q 44 [some (.ref 4), some (.int l1), some (.int s0), some (.int l3)] (ab_ol r []) M2 N2)) : zr_X8_term e Q 37 [some (.ref 4), some (.int l1), none, some (.int l3)] [.int s0] M N := ab_Run_s (zm_X8_term e) (sp := [(5, [true, true, false, false]), (8, [true, true, true, true]), (32, [true, true, false, true]), (37, [true, true, false, true]), (44, [true, true, true, true])]) 30 h
set_option maxRecDepth 20000 in
theorem zv_X8_term_44 {e : Nat} {Q : ab_R} {M : ab_M} {N : ab_N} (l1 : Int32) (l2 : Int32) (l3 : Int32) (h : zr_X8_term e Q 8 [some (.ref 4), some (.int l1), some (.int l2), some (.int (l3 + (1 : Int32)))] [] M N) : zr_X8_term e Q 44 [some (.ref 4), some (.int l1), some (.int l2), some (.int l3)] [] M N := ab_Run_s (zm_X8_term e) (sp := [(5, [true, true, false, false]), (8, [true, true, true, true]), (32, [true, true, false, true]), (37, [true, true, false, true]), (44, [true, true, true, true])]) 30 h
theorem zL_X8_term {e : Nat} {Q : ab_R} {M : ab_M} {N : ab_N} {n w i dn o : Nat} (hp : zPp M n w i dn) (ho : o ≤ 5) (he : o + (e + 1) = 6) (hk : ∀ (b : Int32) (M2 : ab_M) (i2 : Nat) (C : List Int32), zPf M M2 n dn i2 C → zPost 6 false false [42] (M 34) n o i i2 C b → Q (some (.int b)) M2 N) : ∀ (d t i1 : Nat) (C : List Int32) (b : Int32) (M1 : ab_M), n - i1 = d → t ≤ i1 → zPf M M1 n dn i1 C → zPost 6 false false [] (M 34) n o i i1 C b → zr_X8_term e Q 8 [some (.ref 4), some (.int (nI o)), some (.int b), some (.int (nI t))] [] M1 N := by
  intro d
  induction d using Nat.strongRecOn with
  | _ d ih =>
    intro t i1 C b M1 hd ht g hP
    have hi1 := g.2.2.2.1
    have hn := hp.1.1
    have hdn := hp.2.2.2.2.2.2.2
    obtain ⟨b1, b2, b3, b4, b5⟩ := zTk_b (M 34) hi1
    have hb := zPost_b hP
    have fin : (b = 1 → (zTk (M 34) n i1).1 ≠ 42) → narrow .boolean (.int b) = .int b ∧ Q (some (.int b)) M1 N := fun z => ⟨zNb hb, hk b M1 i1 C g (zPost_ex hP (fun e1 q1 q => by
      simp only [List.mem_cons, List.not_mem_nil, or_false] at q q1
      have := z e1
      grind))⟩
    refine zv_X8_term_8 _ _ _ ⟨fun c => fin (fun _ => ?_), fun c => ⟨fun c2 => fin (fun e1 => by rw [e1] at c2; exact absurd c2 (by decide)), fun c2 => ?_⟩⟩
    · have h160 : 160 ≤ t := Nat.not_lt.mp fun z => nI_ge (a := t) (b := 160) z (by omega) c
      have hE := b4 (by omega)
      rw [hE]
      exact (by decide)
    · have eb : b = 1 := hb.resolve_right c2
      subst eb
      rw [g.2.2.1.1]
      have hl : i + C.length ≤ (zTk (M 34) n i1).2.2.2 := by have := hP.1; omega
      refine ⟨fun c3 => ?_, fun c3 => fin (fun _ => c3)⟩
      refine zAdv_call hp g (by rw [c3]; decide) (fun M2 g2 => zv_X8_term_32 _ _ ?_)
      refine zP_call (e := e + 1) hp g2 hl ho he rfl (fun bb M3 i2 C2 g3 hP2 => zv_X8_term_37 _ _ _ ?_)
      have hi2 := g3.2.2.2.1
      have hl2 := hP2.1
      refine zPut_call hp g3 (by rw [List.length_append]; have := hP.1; omega) (fun M4 g4 => zv_X8_term_44 _ _ _ ?_)
      rw [nI_1]
      refine ih (n - i2) (by omega) (t + 1) i2 _ bb M4 rfl (by omega) g4 ?_
      exact zPost_bin (s := 18) hP (by rw [c3]; rfl) (by decide) (by decide) (by decide) rfl (by decide) (by decide) (by decide) (by decide) rfl hi1 (fun t _ _ => zThr_6 t) hP2
theorem zE_X8_term (e : Nat) (as : List Value) (M : ab_M) (N : ab_N) (k : ab_R) (hT : zt_X8_term (e + 1) as M N k) : ab_cs as ≤ 4 ∧ zr_X8_term e k 0 (ab_en as) [] M N := by
  obtain ⟨n, w, i, dn, o, rfl, ho, he, hp, hk⟩ := zt_P_e hT
  refine ⟨Nat.le_of_ble_eq_true rfl, zv_X8_term_0 _ ?_⟩
  refine zP_call (C := []) (e := e + 1) hp (zPf_rf hp) (Nat.le_refl _) ho he rfl (fun b M2 i2 C2 g3 hP2 => zv_X8_term_5 _ _ ?_)
  exact zL_X8_term hp ho he hk (n - i2) 0 i2 C2 b M2 rfl (Nat.zero_le _) g3 (zPost_weak (by decide) hP2)
def zp_X8_sum : ab_P := [(0, .aload_n 0, 1, [0], []),
  (1, .iload_n 1, 2, [1], []),
  (2, .invokevirtual 66, 5, [], []),
  (5, .istore_n 2, 6, [2], []),
  (6, .iconst 0, 7, [], [0]),
  (7, .istore_n 3, 8, [3], []),
  (8, .iload_n 3, 9, [3], []),
  (9, .sipush 160, 12, [], [160]),
  (12, .if_icmp .ge 65, 15, [77], []),
  (15, .iload_n 2, 16, [2], []),
  (16, .ifCond .eq 61, 19, [77], []),
  (19, .aload_n 0, 20, [0], []),
  (20, .getfield 37, 23, [], []),
  (23, .bipush 43, 25, [], [43]),
  (25, .if_icmp .eq 12, 28, [37], []),
  (28, .aload_n 0, 29, [0], []),
  (29, .getfield 37, 32, [], []),
  (32, .bipush 45, 34, [], [45]),
  (34, .if_icmp .ne 43, 37, [77], []),
  (37, .aload_n 0, 38, [0], []),
  (38, .getfield 37, 41, [], []),
  (41, .bipush 43, 43, [], [43]),
  (43, .if_icmp .ne 8, 46, [51], []),
  (46, .bipush (-13), 48, [], [(-13)]),
  (48, .goto 5, 51, [53], []),
  (51, .bipush (-14), 53, [], [(-14)]),
  (53, .istore 4, 55, [], []),
  (55, .aload_n 0, 56, [0], []),
  (56, .invokevirtual 34, 59, [], []),
  (59, .aload_n 0, 60, [0], []),
  (60, .iload_n 1, 61, [1], []),
  (61, .invokevirtual 66, 64, [], []),
  (64, .istore_n 2, 65, [2], []),
  (65, .aload_n 0, 66, [0], []),
  (66, .iload 4, 68, [], []),
  (68, .invokevirtual 53, 71, [], []),
  (71, .iinc 3 1, 74, [], [1]),
  (74, .goto (-66), 77, [8], []),
  (77, .iload_n 2, 78, [2], []),
  (78, .ireturn, 79, [], [])]
theorem zo_X8_sum : ab_ok cX8_sum zp_X8_sum = true := by decide +kernel
def zg_X8_sum (e : Nat) : ab_G := (zw_C, zs_tab, zf_X8, zc_X8, [], [(34, 1, zt_X8_advance), (53, 2, zt_X8_put), (66, 2, zt_X8_term (e + 1))], [])
theorem zm_X8_sum (e : Nat) : ab_MG (zg_X8_sum e) := ab_MGof (List.forall_mem_cons.mpr ⟨zt_X8_advance_mono, List.forall_mem_cons.mpr ⟨zt_X8_put_mono, List.forall_mem_cons.mpr ⟨zt_X8_term_mono _, List.forall_mem_nil _⟩⟩⟩) (List.forall_mem_nil _)
abbrev zr_X8_sum (e : Nat) (Q : ab_R) : ab_K := ab_Run (zg_X8_sum e) zp_X8_sum (some .boolean) 5 Q
set_option maxRecDepth 20000 in
theorem zv_X8_sum_0 {e : Nat} {Q : ab_R} {M : ab_M} {N : ab_N} (l1 : Int32) (h : zt_X8_term (e + 1) [.ref 4, .int l1] M N (fun r M2 N2 => zr_X8_sum e Q 5 [some (.ref 4), some (.int l1), none, none, none] (ab_ol r []) M2 N2)) : zr_X8_sum e Q 0 [some (.ref 4), some (.int l1)] [] M N := ab_Run_s (zm_X8_sum e) (sp := [(5, [true, true, false, false, false]), (8, [true, true, true, true, false]), (59, [true, true, false, true, true]), (64, [true, true, false, true, true]), (71, [true, true, true, true, false])]) 42 h
set_option maxRecDepth 20000 in
theorem zv_X8_sum_5 {e : Nat} {Q : ab_R} {M : ab_M} {N : ab_N} (l1 : Int32) (s0 : Int32) (h : zr_X8_sum e Q 8 [some (.ref 4), some (.int l1), some (.int s0), some (.int (0 : Int32)), none] [] M N) : zr_X8_sum e Q 5 [some (.ref 4), some (.int l1), none, none, none] [.int s0] M N := ab_Run_s (zm_X8_sum e) (sp := [(5, [true, true, false, false, false]), (8, [true, true, true, true, false]), (59, [true, true, false, true, true]), (64, [true, true, false, true, true]), (71, [true, true, true, true, false])]) 42 h
set_option maxRecDepth 20000 in
theorem zv_X8_sum_8 {e : Nat} {Q : ab_R} {M : ab_M} {N : ab_N} (l1 : Int32) (l2 : Int32) (l3 : Int32) (h : ((160 : Int32) ≤ l3 → narrow .boolean (.int l2) = .int l2 ∧ Q (some (.int l2)) M N) ∧ (¬ ((160 : Int32) ≤ l3) → (l2 = 0 → narrow .boolean (.int l2) = .int l2 ∧ Q (some (.int l2)) M N) ∧ (¬ (l2 = 0) → ((M 4 3) = (43 : Int32) → ((M 4 3) = (43 : Int32) → zt_X8_advance [.ref 4] M N (fun r M2 N2 => zr_X8_sum e Q 59 [some (.ref 4), some (.int l1), none, some (.int l3), some (.int (-13 : Int32))] (ab_ol r []) M2 N2)) ∧ (¬ ((M 4 3) = (43 : Int32)) → zt_X8_advance [.ref 4] M N (fun r M2 N2 => zr_X8_sum e Q 59 [some (.ref 4), some (.int l1), none, some (.int l3), some (.int (-14 : Int32))] (ab_ol r []) M2 N2))) ∧ (¬ ((M 4 3) = (43 : Int32)) → ((M 4 3) = (45 : Int32) → ((M 4 3) = (43 : Int32) → zt_X8_advance [.ref 4] M N (fun r M2 N2 => zr_X8_sum e Q 59 [some (.ref 4), some (.int l1), none, some (.int l3), some (.int (-13 : Int32))] (ab_ol r []) M2 N2)) ∧ (¬ ((M 4 3) = (43 : Int32)) → zt_X8_advance [.ref 4] M N (fun r M2 N2 => zr_X8_sum e Q 59 [some (.ref 4), some (.int l1), none, some (.int l3), some (.int (-14 : Int32))] (ab_ol r []) M2 N2))) ∧ (¬ ((M 4 3) = (45 : Int32)) → narrow .boolean (.int l2) = .int l2 ∧ Q (some (.int l2)) M N))))) : zr_X8_sum e Q 8 [some (.ref 4), some (.int l1), some (.int l2), some (.int l3), none] [] M N := ab_Run_s (zm_X8_sum e) (sp := [(5, [true, true, false, false, false]), (8, [true, true, true, true, false]), (59, [true, true, false, true, true]), (64, [true, true, false, true, true]), (71, [true, true, true, true, false])]) 42 h
set_option maxRecDepth 20000 in
theorem zv_X8_sum_59 {e : Nat} {Q : ab_R} {M : ab_M} {N : ab_N} (l1 : Int32) (l3 : Int32) (l4 : Int32) (h : zt_X8_term (e + 1) [.ref 4, .int l1] M N (fun r M2 N2 => zr_X8_sum e Q 64 [some (.ref 4), some (.int l1), none, some (.int l3), some (.int l4)] (ab_ol r []) M2 N2)) : zr_X8_sum e Q 59 [some (.ref 4), some (.int l1), none, some (.int l3), some (.int l4)] [] M N := ab_Run_s (zm_X8_sum e) (sp := [(5, [true, true, false, false, false]), (8, [true, true, true, true, false]), (59, [true, true, false, true, true]), (64, [true, true, false, true, true]), (71, [true, true, true, true, false])]) 42 h
set_option maxRecDepth 20000 in
theorem zv_X8_sum_64 {e : Nat} {Q : ab_R} {M : ab_M} {N : ab_N} (l1 : Int32) (l3 : Int32) (l4 : Int32) (s0 : Int32) (h : zt_X8_put [.ref 4, .int l4] M N (fun r M2 N2 => zr_X8_sum e Q 71 [some (.ref 4), some (.int l1), some (.int s0), some (.int l3), none] (ab_ol r []) M2 N2)) : zr_X8_sum e Q 64 [some (.ref 4), some (.int l1), none, some (.int l3), some (.int l4)] [.int s0] M N := ab_Run_s (zm_X8_sum e) (sp := [(5, [true, true, false, false, false]), (8, [true, true, true, true, false]), (59, [true, true, false, true, true]), (64, [true, true, false, true, true]), (71, [true, true, true, true, false])]) 42 h
set_option maxRecDepth 20000 in
theorem zv_X8_sum_71 {e : Nat} {Q : ab_R} {M : ab_M} {N : ab_N} (l1 : Int32) (l2 : Int32) (l3 : Int32) (h : zr_X8_sum e Q 8 [some (.ref 4), some (.int l1), some (.int l2), some (.int (l3 + (1 : Int32))), none] [] M N) : zr_X8_sum e Q 71 [some (.ref 4), some (.int l1), some (.int l2), some (.int l3), none] [] M N := ab_Run_s (zm_X8_sum e) (sp := [(5, [true, true, false, false, false]), (8, [true, true, true, true, false]), (59, [true, true, false, true, true]), (64, [true, true, false, true, true]), (71, [true, true, true, true, false])]) 42 h
theorem zL_X8_sum {e : Nat} {Q : ab_R} {M : ab_M} {N : ab_N} {n w i dn o : Nat} (hp : zPp M n w i dn) (ho : o ≤ 5) (he : o + (e + 1) = 6) (hk : ∀ (b : Int32) (M2 : ab_M) (i2 : Nat) (C : List Int32), zPf M M2 n dn i2 C → zPost 5 false false [42, 43, 45] (M 34) n o i i2 C b → Q (some (.int b)) M2 N) : ∀ (d t i1 : Nat) (C : List Int32) (b : Int32) (M1 : ab_M), n - i1 = d → t ≤ i1 → zPf M M1 n dn i1 C → zPost 5 false false [42] (M 34) n o i i1 C b → zr_X8_sum e Q 8 [some (.ref 4), some (.int (nI o)), some (.int b), some (.int (nI t)), none] [] M1 N := by
  intro d
  induction d using Nat.strongRecOn with
  | _ d ih =>
    intro t i1 C b M1 hd ht g hP
    have hi1 := g.2.2.2.1
    have hn := hp.1.1
    have hdn := hp.2.2.2.2.2.2.2
    obtain ⟨b1, b2, b3, b4, b5⟩ := zTk_b (M 34) hi1
    have hb := zPost_b hP
    have fin : (b = 1 → (zTk (M 34) n i1).1 ≠ 43 ∧ (zTk (M 34) n i1).1 ≠ 45) → narrow .boolean (.int b) = .int b ∧ Q (some (.int b)) M1 N := fun z => ⟨zNb hb, hk b M1 i1 C g (zPost_ex hP (fun e1 q1 q => by
      simp only [List.mem_cons, List.not_mem_nil, or_false] at q q1
      have := z e1
      grind))⟩
    refine zv_X8_sum_8 _ _ _ ⟨fun c => fin (fun _ => ?_), fun c => ⟨fun c2 => fin (fun e1 => by rw [e1] at c2; exact absurd c2 (by decide)), fun c2 => ?_⟩⟩
    · have h160 : 160 ≤ t := Nat.not_lt.mp fun z => nI_ge (a := t) (b := 160) z (by omega) c
      have hE := b4 (by omega)
      rw [hE]
      exact ⟨by decide, by decide⟩
    · have eb : b = 1 := hb.resolve_right c2
      subst eb
      rw [g.2.2.1.1]
      have hl : i + C.length ≤ (zTk (M 34) n i1).2.2.2 := by have := hP.1; omega
      have go : ∀ (T l4 : Int32) (s : Nat), (zTk (M 34) n i1).1 = T → ¬ T = -1 → zSg T = s → ¬ s = 0 → ¬ s = 13 → ¬ s = 19 → zRank s = 5 → false = decide (s ≤ 12) → zCo s = l4 → zt_X8_advance [.ref 4] M1 N (fun r M2 N2 => zr_X8_sum e Q 59 [some (.ref 4), some (.int (nI o)), none, some (.int (nI t)), some (.int l4)] (ab_ol r []) M2 N2) := by
        intro T l4 s c3 hT hs s0 s13 s19 sr sd sc
        refine zAdv_call hp g (by rw [c3]; exact hT) (fun M2 g2 => zv_X8_sum_59 _ _ _ ?_)
        refine zP_call (e := e + 1) hp g2 hl ho he rfl (fun bb M3 i2 C2 g3 hP2 => zv_X8_sum_64 _ _ _ _ ?_)
        have hi2 := g3.2.2.2.1
        have hl2 := hP2.1
        refine zPut_call hp g3 (by rw [List.length_append]; have := hP.1; omega) (fun M4 g4 => zv_X8_sum_71 _ _ _ ?_)
        rw [nI_1]
        refine ih (n - i2) (by omega) (t + 1) i2 _ bb M4 rfl (by omega) g4 ?_
        rw [← sc]
        exact zPost_bin hP (by rw [c3]; exact hs) s0 s13 s19 sr (by decide) (by decide) (by decide) (by decide) sd hi1 (fun t ht _ => zThr_5 t (by simpa using ht)) hP2
      refine ⟨fun c3 => ⟨fun _ => go 43 (-13) 16 c3 (by decide) rfl (by decide) (by decide) (by decide) rfl rfl rfl, fun z => absurd c3 z⟩, fun c3 => ⟨fun c4 => ⟨fun z => absurd z c3, fun _ => go 45 (-14) 17 c4 (by decide) rfl (by decide) (by decide) (by decide) rfl rfl rfl⟩, fun c4 => fin (fun _ => ⟨c3, c4⟩)⟩⟩
theorem zE_X8_sum (e : Nat) (as : List Value) (M : ab_M) (N : ab_N) (k : ab_R) (hT : zt_X8_sum (e + 1) as M N k) : ab_cs as ≤ 5 ∧ zr_X8_sum e k 0 (ab_en as) [] M N := by
  obtain ⟨n, w, i, dn, o, rfl, ho, he, hp, hk⟩ := zt_P_e hT
  refine ⟨Nat.le_of_ble_eq_true rfl, zv_X8_sum_0 _ ?_⟩
  refine zP_call (C := []) (e := e + 1) hp (zPf_rf hp) (Nat.le_refl _) ho he rfl (fun b M2 i2 C2 g3 hP2 => zv_X8_sum_5 _ _ ?_)
  exact zL_X8_sum hp ho he hk (n - i2) 0 i2 C2 b M2 rfl (Nat.zero_le _) g3 (zPost_weak (by decide) hP2)
def zp_X8_comparison : ab_P := [(0, .aload_n 0, 1, [0], []),
  (1, .iload_n 1, 2, [1], []),
  (2, .invokevirtual 63, 5, [], []),
  (5, .istore_n 2, 6, [2], []),
  (6, .iload_n 2, 7, [2], []),
  (7, .ifCond .eq 53, 10, [60], []),
  (10, .aload_n 0, 11, [0], []),
  (11, .getfield 37, 14, [], []),
  (14, .bipush 60, 16, [], [60]),
  (16, .if_icmp .eq 12, 19, [28], []),
  (19, .aload_n 0, 20, [0], []),
  (20, .getfield 37, 23, [], []),
  (23, .bipush 61, 25, [], [61]),
  (25, .if_icmp .ne 35, 28, [60], []),
  (28, .aload_n 0, 29, [0], []),
  (29, .getfield 37, 32, [], []),
  (32, .bipush 60, 34, [], [60]),
  (34, .if_icmp .ne 8, 37, [42], []),
  (37, .bipush (-11), 39, [], [(-11)]),
  (39, .goto 5, 42, [44], []),
  (42, .bipush (-12), 44, [], [(-12)]),
  (44, .istore_n 3, 45, [3], []),
  (45, .aload_n 0, 46, [0], []),
  (46, .invokevirtual 34, 49, [], []),
  (49, .aload_n 0, 50, [0], []),
  (50, .iload_n 1, 51, [1], []),
  (51, .invokevirtual 63, 54, [], []),
  (54, .istore_n 2, 55, [2], []),
  (55, .aload_n 0, 56, [0], []),
  (56, .iload_n 3, 57, [3], []),
  (57, .invokevirtual 53, 60, [], []),
  (60, .iload_n 2, 61, [2], []),
  (61, .ireturn, 62, [], [])]
theorem zo_X8_comparison : ab_ok cX8_comparison zp_X8_comparison = true := by decide +kernel
def zg_X8_comparison (e : Nat) : ab_G := (zw_C, zs_tab, zf_X8, zc_X8, [], [(34, 1, zt_X8_advance), (53, 2, zt_X8_put), (63, 2, zt_X8_sum (e + 1))], [])
theorem zm_X8_comparison (e : Nat) : ab_MG (zg_X8_comparison e) := ab_MGof (List.forall_mem_cons.mpr ⟨zt_X8_advance_mono, List.forall_mem_cons.mpr ⟨zt_X8_put_mono, List.forall_mem_cons.mpr ⟨zt_X8_sum_mono _, List.forall_mem_nil _⟩⟩⟩) (List.forall_mem_nil _)
abbrev zr_X8_comparison (e : Nat) (Q : ab_R) : ab_K := ab_Run (zg_X8_comparison e) zp_X8_comparison (some .boolean) 4 Q
set_option maxRecDepth 20000 in
theorem zv_X8_comparison_0 {e : Nat} {Q : ab_R} {M : ab_M} {N : ab_N} (l1 : Int32) (h : zt_X8_sum (e + 1) [.ref 4, .int l1] M N (fun r M2 N2 => zr_X8_comparison e Q 5 [some (.ref 4), some (.int l1), none, none] (ab_ol r []) M2 N2)) : zr_X8_comparison e Q 0 [some (.ref 4), some (.int l1)] [] M N := ab_Run_s (zm_X8_comparison e) (sp := [(5, [true, true, false, false]), (49, [true, true, false, true]), (54, [true, false, false, true]), (60, [false, false, true, false])]) 35 h
set_option maxRecDepth 20000 in
theorem zv_X8_comparison_5 {e : Nat} {Q : ab_R} {M : ab_M} {N : ab_N} (l1 : Int32) (s0 : Int32) (h : (s0 = 0 → zr_X8_comparison e Q 60 [none, none, some (.int s0), none] [] M N) ∧ (¬ (s0 = 0) → ((M 4 3) = (60 : Int32) → ((M 4 3) = (60 : Int32) → zt_X8_advance [.ref 4] M N (fun r M2 N2 => zr_X8_comparison e Q 49 [some (.ref 4), some (.int l1), none, some (.int (-11 : Int32))] (ab_ol r []) M2 N2)) ∧ (¬ ((M 4 3) = (60 : Int32)) → zt_X8_advance [.ref 4] M N (fun r M2 N2 => zr_X8_comparison e Q 49 [some (.ref 4), some (.int l1), none, some (.int (-12 : Int32))] (ab_ol r []) M2 N2))) ∧ (¬ ((M 4 3) = (60 : Int32)) → ((M 4 3) = (61 : Int32) → ((M 4 3) = (60 : Int32) → zt_X8_advance [.ref 4] M N (fun r M2 N2 => zr_X8_comparison e Q 49 [some (.ref 4), some (.int l1), none, some (.int (-11 : Int32))] (ab_ol r []) M2 N2)) ∧ (¬ ((M 4 3) = (60 : Int32)) → zt_X8_advance [.ref 4] M N (fun r M2 N2 => zr_X8_comparison e Q 49 [some (.ref 4), some (.int l1), none, some (.int (-12 : Int32))] (ab_ol r []) M2 N2))) ∧ (¬ ((M 4 3) = (61 : Int32)) → zr_X8_comparison e Q 60 [none, none, some (.int s0), none] [] M N)))) : zr_X8_comparison e Q 5 [some (.ref 4), some (.int l1), none, none] [.int s0] M N := ab_Run_s (zm_X8_comparison e) (sp := [(5, [true, true, false, false]), (49, [true, true, false, true]), (54, [true, false, false, true]), (60, [false, false, true, false])]) 35 h
set_option maxRecDepth 20000 in
theorem zv_X8_comparison_49 {e : Nat} {Q : ab_R} {M : ab_M} {N : ab_N} (l1 : Int32) (l3 : Int32) (h : zt_X8_sum (e + 1) [.ref 4, .int l1] M N (fun r M2 N2 => zr_X8_comparison e Q 54 [some (.ref 4), none, none, some (.int l3)] (ab_ol r []) M2 N2)) : zr_X8_comparison e Q 49 [some (.ref 4), some (.int l1), none, some (.int l3)] [] M N := ab_Run_s (zm_X8_comparison e) (sp := [(5, [true, true, false, false]), (49, [true, true, false, true]), (54, [true, false, false, true]), (60, [false, false, true, false])]) 35 h
set_option maxRecDepth 20000 in
theorem zv_X8_comparison_54 {e : Nat} {Q : ab_R} {M : ab_M} {N : ab_N} (l3 : Int32) (s0 : Int32) (h : zt_X8_put [.ref 4, .int l3] M N (fun r M2 N2 => zr_X8_comparison e Q 60 [none, none, some (.int s0), none] (ab_ol r []) M2 N2)) : zr_X8_comparison e Q 54 [some (.ref 4), none, none, some (.int l3)] [.int s0] M N := ab_Run_s (zm_X8_comparison e) (sp := [(5, [true, true, false, false]), (49, [true, true, false, true]), (54, [true, false, false, true]), (60, [false, false, true, false])]) 35 h
set_option maxRecDepth 20000 in
theorem zv_X8_comparison_60 {e : Nat} {Q : ab_R} {M : ab_M} {N : ab_N} (l2 : Int32) (h : narrow .boolean (.int l2) = .int l2 ∧ Q (some (.int l2)) M N) : zr_X8_comparison e Q 60 [none, none, some (.int l2), none] [] M N := ab_Run_s (zm_X8_comparison e) (sp := [(5, [true, true, false, false]), (49, [true, true, false, true]), (54, [true, false, false, true]), (60, [false, false, true, false])]) 35 h
theorem zE_X8_comparison (e : Nat) (as : List Value) (M : ab_M) (N : ab_N) (k : ab_R) (hT : zt_X8_comparison (e + 1) as M N k) : ab_cs as ≤ 4 ∧ zr_X8_comparison e k 0 (ab_en as) [] M N := by
  obtain ⟨n, w, i, dn, o, rfl, ho, he, hp, hk⟩ := zt_P_e hT
  have hn := hp.1.1
  have hdn := hp.2.2.2.2.2.2.2
  refine ⟨Nat.le_of_ble_eq_true rfl, zv_X8_comparison_0 _ ?_⟩
  refine zP_call (C := []) (e := e + 1) hp (zPf_rf hp) (Nat.le_refl _) ho he rfl (fun b M1 i1 C g hP => zv_X8_comparison_5 _ _ ?_)
  rw [List.nil_append] at g
  have hi1 := g.2.2.2.1
  obtain ⟨b1, b2, b3, b4, b5⟩ := zTk_b (M 34) hi1
  have fin : ∀ (b : Int32) (M2 : ab_M) (i2 : Nat) (C : List Int32), zPf M M2 n dn i2 C → zPost 4 false true [42, 43, 45] (M 34) n o i i2 C b → zr_X8_comparison e k 60 [none, none, some (.int b), none] [] M2 N := fun b M2 i2 C g2 h2 => zv_X8_comparison_60 _ ⟨zNb (zPost_b h2), hk b M2 i2 C g2 h2⟩
  have hl1 := hP.1
  refine ⟨fun e0 => ?_, fun e0 => ?_⟩
  · rcases hP.2 with ⟨rfl, -⟩ | ⟨rfl, hb⟩
    · exact absurd e0 (by decide)
    · exact fin 0 M1 i1 C g ⟨hl1, Or.inr ⟨rfl, fun K O mn q => hb K O mn (zCnd_weak (by decide) q)⟩⟩
  · rcases hP.2 with ⟨rfl, hx, -, hg⟩ | ⟨z, -⟩
    · have G : zGood 5 false (M 34) n o i i1 C := hg (fun z => absurd z (by decide))
      have go : ∀ (s : Nat) (l3 : Int32), zSg (zTk (M 34) n i1).1 = s → zRank s = 4 → ¬ (zTk (M 34) n i1).1 = -1 → ¬ s = 0 → ¬ s = 13 → ¬ s = 19 → zCo s = l3 → zt_X8_advance [.ref 4] M1 N (fun r M2 N2 => zr_X8_comparison e k 49 [some (.ref 4), some (.int (nI o)), none, some (.int l3)] (ab_ol r []) M2 N2) := by
        intro s l3 hs hr hne s0 s13 s19 sc
        refine zAdv_call hp g hne (fun M2 g2 => zv_X8_comparison_49 _ _ ?_)
        refine zP_call (e := e + 1) hp g2 (by omega) ho he rfl (fun bb M3 i2 C2 g3 hP2 => zv_X8_comparison_54 _ _ ?_)
        have hi2 := g3.2.2.2.1
        have hl2 := hP2.1
        refine zPut_call hp g3 (by rw [List.length_append]; omega) (fun M4 g4 => fin bb M4 i2 _ g4 ?_)
        have cn : ∀ (K : List Nat) (mn : Bool), zCnd 4 false (M 34) n o i K mn → zCnd 5 false (M 34) n o (zTk (M 34) n i1).2.2.2 (s :: K) false := fun K mn q => ⟨show zRank s < 5 by omega, by
          show (if s = 0 ∨ s = 13 ∨ s = 19 then 1 else 0) + zOp K = o
          rw [if_neg (by omega), Nat.zero_add]
          exact q.2.1, fun z => absurd z (by decide), fun _ _ => rfl⟩
        have st : ∀ (K : List Nat) (O : List Int32) (mn : Bool), zCnd 4 false (M 34) n o i K mn → ∀ res : zYr, zR (M 34) n (zTk (M 34) n i1).2.2.2 (s :: K) (O ++ C) false res → zR (M 34) n i K O mn res := fun K O mn q res z =>
          G K O mn (zCnd_weak (by decide) q) res (zV_low (zLow_mono (by decide) q.1) (zA_cmp hs hr q.1 z))
        refine ⟨by rw [List.length_append, List.length_append, List.length_cons, List.length_nil]; omega, ?_⟩
        rcases hP2.2 with ⟨rfl, hx2, -, hg2⟩ | ⟨rfl, hb2⟩
        · have G2 := hg2 (fun z => absurd z (by decide))
          refine Or.inl ⟨rfl, hx2, fun _ z2 K O mn q => st K O mn q _ (G2 _ _ _ (cn K mn q) _ (zV_low (show zRank s < 7 by omega) (zA_cmp2 (zCm_rank z2) hr))), fun z K O mn q res hv => st K O mn q _ (G2 _ _ _ (cn K mn q) _ (zV_low (show zRank s < 7 by omega) (zA_col ?_ (by omega) ?_)))⟩
          · have z := z rfl
            rw [hr]
            simp only [List.mem_cons, List.not_mem_nil, or_false, not_or] at hx2
            unfold zCm at z
            unfold zThr zSg zRank
            grind
          · have hv2 := zA_low (zLow_mono (by decide) q.1) hv
            rw [← List.append_assoc, ← List.append_assoc, ← sc] at hv2
            exact hv2
        · exact Or.inr ⟨rfl, fun K O mn q => st K O mn q _ (hb2 _ _ _ (cn K mn q))⟩
      rw [g.2.2.1.1]
      refine ⟨fun c => ⟨fun _ => go 14 (-11) (by rw [c]; rfl) rfl (by rw [c]; decide) (by decide) (by decide) (by decide) rfl, fun z => absurd c z⟩, fun c => ⟨fun c2 => ⟨fun z => absurd z c, fun _ => go 15 (-12) (by rw [c2]; rfl) rfl (by rw [c2]; decide) (by decide) (by decide) (by decide) rfl⟩, fun c2 => ?_⟩⟩
      exact fin 1 M1 i1 C g ⟨hl1, Or.inl ⟨rfl, hx, fun _ z => (z.elim c c2).elim, fun _ K O mn q => G K O mn (zCnd_weak (by decide) q)⟩⟩
    · exact absurd z e0
def zp_X8_negation : ab_P := [(0, .aload_n 0, 1, [0], []),
  (1, .getfield 37, 4, [], []),
  (4, .bipush 12, 6, [], [12]),
  (6, .if_icmp .eq 9, 9, [15], []),
  (9, .aload_n 0, 10, [0], []),
  (10, .iload_n 1, 11, [1], []),
  (11, .invokevirtual 60, 14, [], []),
  (14, .ireturn, 15, [], []),
  (15, .iload_n 1, 16, [1], []),
  (16, .iconst 5, 17, [], [5]),
  (17, .if_icmp .lt 5, 20, [22], []),
  (20, .iconst 0, 21, [], [0]),
  (21, .ireturn, 22, [], []),
  (22, .aload_n 0, 23, [0], []),
  (23, .invokevirtual 34, 26, [], []),
  (26, .aload_n 0, 27, [0], []),
  (27, .iload_n 1, 28, [1], []),
  (28, .iconst 1, 29, [], [1]),
  (29, .iadd, 30, [], []),
  (30, .invokevirtual 57, 33, [], []),
  (33, .istore_n 2, 34, [2], []),
  (34, .aload_n 0, 35, [0], []),
  (35, .bipush (-7), 37, [], [(-7)]),
  (37, .invokevirtual 53, 40, [], []),
  (40, .iload_n 2, 41, [2], []),
  (41, .ireturn, 42, [], [])]
theorem zo_X8_negation : ab_ok cX8_negation zp_X8_negation = true := by decide +kernel
def zg_X8_negation (e : Nat) : ab_G := (zw_C, zs_tab, zf_X8, zc_X8, [], [(34, 1, zt_X8_advance), (53, 2, zt_X8_put), (57, 2, zt_X8_negation e), (60, 2, zt_X8_comparison (e + 1))], [])
theorem zm_X8_negation (e : Nat) : ab_MG (zg_X8_negation e) := ab_MGof (List.forall_mem_cons.mpr ⟨zt_X8_advance_mono, List.forall_mem_cons.mpr ⟨zt_X8_put_mono, List.forall_mem_cons.mpr ⟨zt_X8_negation_mono _, List.forall_mem_cons.mpr ⟨zt_X8_comparison_mono _, List.forall_mem_nil _⟩⟩⟩⟩) (List.forall_mem_nil _)
abbrev zr_X8_negation (e : Nat) (Q : ab_R) : ab_K := ab_Run (zg_X8_negation e) zp_X8_negation (some .boolean) 3 Q
set_option maxRecDepth 20000 in
theorem zv_X8_negation_0 {e : Nat} {Q : ab_R} {M : ab_M} {N : ab_N} (l1 : Int32) (h : ((M 4 3) = (12 : Int32) → (l1 < (5 : Int32) → zt_X8_advance [.ref 4] M N (fun r M2 N2 => zr_X8_negation e Q 26 [some (.ref 4), some (.int l1), none] (ab_ol r []) M2 N2)) ∧ (¬ (l1 < (5 : Int32)) → narrow .boolean (.int (0 : Int32)) = .int (0 : Int32) ∧ Q (some (.int (0 : Int32))) M N)) ∧ (¬ ((M 4 3) = (12 : Int32)) → zt_X8_comparison (e + 1) [.ref 4, .int l1] M N (fun r M2 N2 => zr_X8_negation e Q 14 [none, none, none] (ab_ol r []) M2 N2))) : zr_X8_negation e Q 0 [some (.ref 4), some (.int l1)] [] M N := ab_Run_s (zm_X8_negation e) (sp := [(14, [false, false, false]), (26, [true, true, false]), (33, [true, false, false]), (40, [false, false, true])]) 28 h
set_option maxRecDepth 20000 in
theorem zv_X8_negation_14 {e : Nat} {Q : ab_R} {M : ab_M} {N : ab_N} (s0 : Int32) (h : narrow .boolean (.int s0) = .int s0 ∧ Q (some (.int s0)) M N) : zr_X8_negation e Q 14 [none, none, none] [.int s0] M N := ab_Run_s (zm_X8_negation e) (sp := [(14, [false, false, false]), (26, [true, true, false]), (33, [true, false, false]), (40, [false, false, true])]) 28 h
set_option maxRecDepth 20000 in
theorem zv_X8_negation_26 {e : Nat} {Q : ab_R} {M : ab_M} {N : ab_N} (l1 : Int32) (h : zt_X8_negation e [.ref 4, .int (l1 + (1 : Int32))] M N (fun r M2 N2 => zr_X8_negation e Q 33 [some (.ref 4), none, none] (ab_ol r []) M2 N2)) : zr_X8_negation e Q 26 [some (.ref 4), some (.int l1), none] [] M N := ab_Run_s (zm_X8_negation e) (sp := [(14, [false, false, false]), (26, [true, true, false]), (33, [true, false, false]), (40, [false, false, true])]) 28 h
set_option maxRecDepth 20000 in
theorem zv_X8_negation_33 {e : Nat} {Q : ab_R} {M : ab_M} {N : ab_N} (s0 : Int32) (h : zt_X8_put [.ref 4, .int (-7 : Int32)] M N (fun r M2 N2 => zr_X8_negation e Q 40 [none, none, some (.int s0)] (ab_ol r []) M2 N2)) : zr_X8_negation e Q 33 [some (.ref 4), none, none] [.int s0] M N := ab_Run_s (zm_X8_negation e) (sp := [(14, [false, false, false]), (26, [true, true, false]), (33, [true, false, false]), (40, [false, false, true])]) 28 h
set_option maxRecDepth 20000 in
theorem zv_X8_negation_40 {e : Nat} {Q : ab_R} {M : ab_M} {N : ab_N} (l2 : Int32) (h : narrow .boolean (.int l2) = .int l2 ∧ Q (some (.int l2)) M N) : zr_X8_negation e Q 40 [none, none, some (.int l2)] [] M N := ab_Run_s (zm_X8_negation e) (sp := [(14, [false, false, false]), (26, [true, true, false]), (33, [true, false, false]), (40, [false, false, true])]) 28 h
theorem zE_X8_negation (e : Nat) (as : List Value) (M : ab_M) (N : ab_N) (k : ab_R) (hT : zt_X8_negation (e + 1) as M N k) : ab_cs as ≤ 3 ∧ zr_X8_negation e k 0 (ab_en as) [] M N := by
  obtain ⟨n, w, i, dn, o, rfl, ho, he, hp, hk⟩ := zt_P_e hT
  have hi := hp.2.2.2.2.1
  have hn := hp.1.1
  have hdn := hp.2.2.2.2.2.2.2
  have g0 := zPf_rf hp
  obtain ⟨b1, b2, b3, b4, b5⟩ := zTk_b (M 34) hi
  refine ⟨Nat.le_of_ble_eq_true rfl, zv_X8_negation_0 _ ?_⟩
  rw [hp.2.2.2.1.1]
  refine ⟨fun c => ⟨fun c2 => ?_, fun c2 => ?_⟩, fun c => ?_⟩
  · have ho5 : o < 5 := Nat.not_le.mp fun z => nI_nlt (a := o) (b := 5) z (by omega) c2
    refine zAdv_call hp g0 (by rw [c]; decide) (fun M2 g2 => zv_X8_negation_26 _ ?_)
    refine zP_call (e := e) (o := o + 1) hp g2 (by simp; omega) (by omega) (by omega) (nI_1 o) (fun b M3 i2 C2 g3 hP2 => zv_X8_negation_33 _ ?_)
    have hi2 := g3.2.2.2.1
    have hl2 := hP2.1
    refine zPut_call hp g3 (by rw [List.nil_append]; omega) (fun M4 g4 => zv_X8_negation_40 _ ⟨zNb (zPost_b hP2), hk b M4 i2 (C2 ++ [-7]) g4 ?_⟩)
    have cn : ∀ (K : List Nat) (mn : Bool), zCnd 4 true (M 34) n o i K mn → zCnd 4 true (M 34) n (o + 1) (zTk (M 34) n i).2.2.2 (13 :: K) true := fun K mn q => ⟨by show zRank 13 < 4; decide, by
      show (if 13 = 0 ∨ 13 = 13 ∨ 13 = 19 then 1 else 0) + zOp K = o + 1
      rw [if_pos (by decide), q.2.1]; omega, fun _ => rfl, fun z => absurd z (by decide)⟩
    have st : ∀ (K : List Nat) (O : List Int32) (mn : Bool), zCnd 4 true (M 34) n o i K mn → ∀ res : zYr, zR (M 34) n (zTk (M 34) n i).2.2.2 (13 :: K) O true res → zR (M 34) n i K O mn res := fun K O mn q res z => by
      rw [q.2.2.1 rfl]
      exact zR_not c (by rw [q.2.1]; omega) z
    refine ⟨by rw [List.length_append, List.length_cons, List.length_nil]; omega, ?_⟩
    rcases hP2.2 with ⟨rfl, hx, hc, hg⟩ | ⟨rfl, hb⟩
    · refine Or.inl ⟨rfl, hx, fun z z2 K O mn q => st K O mn q _ (hc z z2 _ _ _ (cn K mn q)), fun z K O mn q res hv => st K O mn q _ (hg z _ _ _ (cn K mn q) _ (zV_low (show zRank 13 < 7 by decide) (zA_col ?_ (by decide) ?_)))⟩
      · have z := z rfl
        simp only [List.mem_cons, List.not_mem_nil, or_false, not_or] at hx
        unfold zCm at z
        unfold zThr zSg zRank
        grind
      · have hv2 := zA_low (zLow_mono (by decide) q.1) hv
        rw [← List.append_assoc] at hv2
        exact hv2
    · exact Or.inr ⟨rfl, fun K O mn q => st K O mn q _ (hb _ _ _ (cn K mn q))⟩
  · have ho5 : o = 5 := by
      have : ¬ o < 5 := fun z => c2 (nI_lt (a := o) (b := 5) z (by omega))
      omega
    refine ⟨ab_n0, hk 0 M i [] g0 ⟨by simp, Or.inr ⟨rfl, fun K O mn q => ?_⟩⟩⟩
    rw [q.2.2.1 rfl]
    exact zR_fulln c (by rw [q.2.1, ho5])
  · refine zP_call (C := []) (e := e + 1) hp g0 (Nat.le_refl _) ho he rfl (fun b M2 i2 C2 g3 hP2 => zv_X8_negation_14 _ ⟨zNb (zPost_b hP2), hk b M2 i2 C2 g3 ?_⟩)
    have cn : ∀ (K : List Nat) (mn : Bool), zCnd 4 true (M 34) n o i K mn → zCnd 4 false (M 34) n o i K mn := fun K mn q => ⟨q.1, q.2.1, fun z => absurd z (by decide), fun _ z => absurd z c⟩
    exact ⟨hP2.1, hP2.2.elim (fun ⟨a, b2, c3, d⟩ => Or.inl ⟨a, b2, fun z z2 K O mn q => c3 z z2 K O mn (cn K mn q), fun z K O mn q => d z K O mn (cn K mn q)⟩) (fun ⟨a, c3⟩ => Or.inr ⟨a, fun K O mn q => c3 K O mn (cn K mn q)⟩)⟩
def zp_X8_both : ab_P := [(0, .aload_n 0, 1, [0], []),
  (1, .iload_n 1, 2, [1], []),
  (2, .invokevirtual 57, 5, [], []),
  (5, .istore_n 2, 6, [2], []),
  (6, .iconst 0, 7, [], [0]),
  (7, .istore_n 3, 8, [3], []),
  (8, .iload_n 3, 9, [3], []),
  (9, .sipush 160, 12, [], [160]),
  (12, .if_icmp .ge 38, 15, [50], []),
  (15, .iload_n 2, 16, [2], []),
  (16, .ifCond .eq 34, 19, [50], []),
  (19, .aload_n 0, 20, [0], []),
  (20, .getfield 37, 23, [], []),
  (23, .bipush 11, 25, [], [11]),
  (25, .if_icmp .ne 25, 28, [50], []),
  (28, .aload_n 0, 29, [0], []),
  (29, .invokevirtual 34, 32, [], []),
  (32, .aload_n 0, 33, [0], []),
  (33, .iload_n 1, 34, [1], []),
  (34, .invokevirtual 57, 37, [], []),
  (37, .istore_n 2, 38, [2], []),
  (38, .aload_n 0, 39, [0], []),
  (39, .bipush (-10), 41, [], [(-10)]),
  (41, .invokevirtual 53, 44, [], []),
  (44, .iinc 3 1, 47, [], [1]),
  (47, .goto (-39), 50, [8], []),
  (50, .iload_n 2, 51, [2], []),
  (51, .ireturn, 52, [], [])]
theorem zo_X8_both : ab_ok cX8_both zp_X8_both = true := by decide +kernel
def zg_X8_both (e : Nat) : ab_G := (zw_C, zs_tab, zf_X8, zc_X8, [], [(34, 1, zt_X8_advance), (53, 2, zt_X8_put), (57, 2, zt_X8_negation (e + 1))], [])
theorem zm_X8_both (e : Nat) : ab_MG (zg_X8_both e) := ab_MGof (List.forall_mem_cons.mpr ⟨zt_X8_advance_mono, List.forall_mem_cons.mpr ⟨zt_X8_put_mono, List.forall_mem_cons.mpr ⟨zt_X8_negation_mono _, List.forall_mem_nil _⟩⟩⟩) (List.forall_mem_nil _)
abbrev zr_X8_both (e : Nat) (Q : ab_R) : ab_K := ab_Run (zg_X8_both e) zp_X8_both (some .boolean) 4 Q
set_option maxRecDepth 20000 in
theorem zv_X8_both_0 {e : Nat} {Q : ab_R} {M : ab_M} {N : ab_N} (l1 : Int32) (h : zt_X8_negation (e + 1) [.ref 4, .int l1] M N (fun r M2 N2 => zr_X8_both e Q 5 [some (.ref 4), some (.int l1), none, none] (ab_ol r []) M2 N2)) : zr_X8_both e Q 0 [some (.ref 4), some (.int l1)] [] M N := ab_Run_s (zm_X8_both e) (sp := [(5, [true, true, false, false]), (8, [true, true, true, true]), (32, [true, true, false, true]), (37, [true, true, false, true]), (44, [true, true, true, true])]) 30 h
set_option maxRecDepth 20000 in
theorem zv_X8_both_5 {e : Nat} {Q : ab_R} {M : ab_M} {N : ab_N} (l1 : Int32) (s0 : Int32) (h : zr_X8_both e Q 8 [some (.ref 4), some (.int l1), some (.int s0), some (.int (0 : Int32))] [] M N) : zr_X8_both e Q 5 [some (.ref 4), some (.int l1), none, none] [.int s0] M N := ab_Run_s (zm_X8_both e) (sp := [(5, [true, true, false, false]), (8, [true, true, true, true]), (32, [true, true, false, true]), (37, [true, true, false, true]), (44, [true, true, true, true])]) 30 h
set_option maxRecDepth 20000 in
theorem zv_X8_both_8 {e : Nat} {Q : ab_R} {M : ab_M} {N : ab_N} (l1 : Int32) (l2 : Int32) (l3 : Int32) (h : ((160 : Int32) ≤ l3 → narrow .boolean (.int l2) = .int l2 ∧ Q (some (.int l2)) M N) ∧ (¬ ((160 : Int32) ≤ l3) → (l2 = 0 → narrow .boolean (.int l2) = .int l2 ∧ Q (some (.int l2)) M N) ∧ (¬ (l2 = 0) → ((M 4 3) = (11 : Int32) → zt_X8_advance [.ref 4] M N (fun r M2 N2 => zr_X8_both e Q 32 [some (.ref 4), some (.int l1), none, some (.int l3)] (ab_ol r []) M2 N2)) ∧ (¬ ((M 4 3) = (11 : Int32)) → narrow .boolean (.int l2) = .int l2 ∧ Q (some (.int l2)) M N)))) : zr_X8_both e Q 8 [some (.ref 4), some (.int l1), some (.int l2), some (.int l3)] [] M N := ab_Run_s (zm_X8_both e) (sp := [(5, [true, true, false, false]), (8, [true, true, true, true]), (32, [true, true, false, true]), (37, [true, true, false, true]), (44, [true, true, true, true])]) 30 h
set_option maxRecDepth 20000 in
theorem zv_X8_both_32 {e : Nat} {Q : ab_R} {M : ab_M} {N : ab_N} (l1 : Int32) (l3 : Int32) (h : zt_X8_negation (e + 1) [.ref 4, .int l1] M N (fun r M2 N2 => zr_X8_both e Q 37 [some (.ref 4), some (.int l1), none, some (.int l3)] (ab_ol r []) M2 N2)) : zr_X8_both e Q 32 [some (.ref 4), some (.int l1), none, some (.int l3)] [] M N := ab_Run_s (zm_X8_both e) (sp := [(5, [true, true, false, false]), (8, [true, true, true, true]), (32, [true, true, false, true]), (37, [true, true, false, true]), (44, [true, true, true, true])]) 30 h
set_option maxRecDepth 20000 in
theorem zv_X8_both_37 {e : Nat} {Q : ab_R} {M : ab_M} {N : ab_N} (l1 : Int32) (l3 : Int32) (s0 : Int32) (h : zt_X8_put [.ref 4, .int (-10 : Int32)] M N (fun r M2 N2 => zr_X8_both e Q 44 [some (.ref 4), some (.int l1), some (.int s0), some (.int l3)] (ab_ol r []) M2 N2)) : zr_X8_both e Q 37 [some (.ref 4), some (.int l1), none, some (.int l3)] [.int s0] M N := ab_Run_s (zm_X8_both e) (sp := [(5, [true, true, false, false]), (8, [true, true, true, true]), (32, [true, true, false, true]), (37, [true, true, false, true]), (44, [true, true, true, true])]) 30 h
set_option maxRecDepth 20000 in
theorem zv_X8_both_44 {e : Nat} {Q : ab_R} {M : ab_M} {N : ab_N} (l1 : Int32) (l2 : Int32) (l3 : Int32) (h : zr_X8_both e Q 8 [some (.ref 4), some (.int l1), some (.int l2), some (.int (l3 + (1 : Int32)))] [] M N) : zr_X8_both e Q 44 [some (.ref 4), some (.int l1), some (.int l2), some (.int l3)] [] M N := ab_Run_s (zm_X8_both e) (sp := [(5, [true, true, false, false]), (8, [true, true, true, true]), (32, [true, true, false, true]), (37, [true, true, false, true]), (44, [true, true, true, true])]) 30 h
theorem zL_X8_both {e : Nat} {Q : ab_R} {M : ab_M} {N : ab_N} {n w i dn o : Nat} (hp : zPp M n w i dn) (ho : o ≤ 5) (he : o + (e + 1) = 6) (hk : ∀ (b : Int32) (M2 : ab_M) (i2 : Nat) (C : List Int32), zPf M M2 n dn i2 C → zPost 2 true true [42, 43, 45, 11] (M 34) n o i i2 C b → Q (some (.int b)) M2 N) : ∀ (d t i1 : Nat) (C : List Int32) (b : Int32) (M1 : ab_M), n - i1 = d → t ≤ i1 → zPf M M1 n dn i1 C → zPost 2 true true [42, 43, 45] (M 34) n o i i1 C b → zr_X8_both e Q 8 [some (.ref 4), some (.int (nI o)), some (.int b), some (.int (nI t))] [] M1 N := by
  intro d
  induction d using Nat.strongRecOn with
  | _ d ih =>
    intro t i1 C b M1 hd ht g hP
    have hi1 := g.2.2.2.1
    have hn := hp.1.1
    have hdn := hp.2.2.2.2.2.2.2
    obtain ⟨b1, b2, b3, b4, b5⟩ := zTk_b (M 34) hi1
    have hb := zPost_b hP
    have fin : (b = 1 → (zTk (M 34) n i1).1 ≠ 11) → narrow .boolean (.int b) = .int b ∧ Q (some (.int b)) M1 N := fun z => ⟨zNb hb, hk b M1 i1 C g (zPost_ex hP (fun e1 q1 q => by
      simp only [List.mem_cons, List.not_mem_nil, or_false] at q q1
      have := z e1
      grind))⟩
    refine zv_X8_both_8 _ _ _ ⟨fun c => fin (fun _ => ?_), fun c => ⟨fun c2 => fin (fun e1 => by rw [e1] at c2; exact absurd c2 (by decide)), fun c2 => ?_⟩⟩
    · have h160 : 160 ≤ t := Nat.not_lt.mp fun z => nI_ge (a := t) (b := 160) z (by omega) c
      have hE := b4 (by omega)
      rw [hE]
      exact (by decide)
    · have eb : b = 1 := hb.resolve_right c2
      subst eb
      rw [g.2.2.1.1]
      have hl : i + C.length ≤ (zTk (M 34) n i1).2.2.2 := by have := hP.1; omega
      refine ⟨fun c3 => ?_, fun c3 => fin (fun _ => c3)⟩
      refine zAdv_call hp g (by rw [c3]; decide) (fun M2 g2 => zv_X8_both_32 _ _ ?_)
      refine zP_call (e := e + 1) hp g2 hl ho he rfl (fun bb M3 i2 C2 g3 hP2 => zv_X8_both_37 _ _ _ ?_)
      have hi2 := g3.2.2.2.1
      have hl2 := hP2.1
      refine zPut_call hp g3 (by rw [List.length_append]; have := hP.1; omega) (fun M4 g4 => zv_X8_both_44 _ _ _ ?_)
      rw [nI_1]
      refine ih (n - i2) (by omega) (t + 1) i2 _ bb M4 rfl (by omega) g4 ?_
      exact zPost_bin (s := 12) hP (by rw [c3]; rfl) (by decide) (by decide) (by decide) rfl (by decide) (by decide) (by decide) (by decide) rfl hi1 (fun t ht hc => by simp only [List.mem_cons, List.not_mem_nil, or_false, not_or] at ht; have hc := hc rfl; unfold zCm at hc; unfold zThr zSg zRank; grind) hP2
theorem zE_X8_both (e : Nat) (as : List Value) (M : ab_M) (N : ab_N) (k : ab_R) (hT : zt_X8_both (e + 1) as M N k) : ab_cs as ≤ 4 ∧ zr_X8_both e k 0 (ab_en as) [] M N := by
  obtain ⟨n, w, i, dn, o, rfl, ho, he, hp, hk⟩ := zt_P_e hT
  refine ⟨Nat.le_of_ble_eq_true rfl, zv_X8_both_0 _ ?_⟩
  refine zP_call (C := []) (e := e + 1) hp (zPf_rf hp) (Nat.le_refl _) ho he rfl (fun b M2 i2 C2 g3 hP2 => zv_X8_both_5 _ _ ?_)
  exact zL_X8_both hp ho he hk (n - i2) 0 i2 C2 b M2 rfl (Nat.zero_le _) g3 (zPost_weak (by decide) hP2)
def zp_X8_either : ab_P := [(0, .aload_n 0, 1, [0], []),
  (1, .iload_n 1, 2, [1], []),
  (2, .invokevirtual 50, 5, [], []),
  (5, .istore_n 2, 6, [2], []),
  (6, .iconst 0, 7, [], [0]),
  (7, .istore_n 3, 8, [3], []),
  (8, .iload_n 3, 9, [3], []),
  (9, .sipush 160, 12, [], [160]),
  (12, .if_icmp .ge 38, 15, [50], []),
  (15, .iload_n 2, 16, [2], []),
  (16, .ifCond .eq 34, 19, [50], []),
  (19, .aload_n 0, 20, [0], []),
  (20, .getfield 37, 23, [], []),
  (23, .bipush 10, 25, [], [10]),
  (25, .if_icmp .ne 25, 28, [50], []),
  (28, .aload_n 0, 29, [0], []),
  (29, .invokevirtual 34, 32, [], []),
  (32, .aload_n 0, 33, [0], []),
  (33, .iload_n 1, 34, [1], []),
  (34, .invokevirtual 50, 37, [], []),
  (37, .istore_n 2, 38, [2], []),
  (38, .aload_n 0, 39, [0], []),
  (39, .bipush (-9), 41, [], [(-9)]),
  (41, .invokevirtual 53, 44, [], []),
  (44, .iinc 3 1, 47, [], [1]),
  (47, .goto (-39), 50, [8], []),
  (50, .iload_n 2, 51, [2], []),
  (51, .ireturn, 52, [], [])]
theorem zo_X8_either : ab_ok cX8_either zp_X8_either = true := by decide +kernel
def zg_X8_either (e : Nat) : ab_G := (zw_C, zs_tab, zf_X8, zc_X8, [], [(34, 1, zt_X8_advance), (50, 2, zt_X8_both (e + 1)), (53, 2, zt_X8_put)], [])
theorem zm_X8_either (e : Nat) : ab_MG (zg_X8_either e) := ab_MGof (List.forall_mem_cons.mpr ⟨zt_X8_advance_mono, List.forall_mem_cons.mpr ⟨zt_X8_both_mono _, List.forall_mem_cons.mpr ⟨zt_X8_put_mono, List.forall_mem_nil _⟩⟩⟩) (List.forall_mem_nil _)
abbrev zr_X8_either (e : Nat) (Q : ab_R) : ab_K := ab_Run (zg_X8_either e) zp_X8_either (some .boolean) 4 Q
set_option maxRecDepth 20000 in
theorem zv_X8_either_0 {e : Nat} {Q : ab_R} {M : ab_M} {N : ab_N} (l1 : Int32) (h : zt_X8_both (e + 1) [.ref 4, .int l1] M N (fun r M2 N2 => zr_X8_either e Q 5 [some (.ref 4), some (.int l1), none, none] (ab_ol r []) M2 N2)) : zr_X8_either e Q 0 [some (.ref 4), some (.int l1)] [] M N := ab_Run_s (zm_X8_either e) (sp := [(5, [true, true, false, false]), (8, [true, true, true, true]), (32, [true, true, false, true]), (37, [true, true, false, true]), (44, [true, true, true, true])]) 30 h
set_option maxRecDepth 20000 in
theorem zv_X8_either_5 {e : Nat} {Q : ab_R} {M : ab_M} {N : ab_N} (l1 : Int32) (s0 : Int32) (h : zr_X8_either e Q 8 [some (.ref 4), some (.int l1), some (.int s0), some (.int (0 : Int32))] [] M N) : zr_X8_either e Q 5 [some (.ref 4), some (.int l1), none, none] [.int s0] M N := ab_Run_s (zm_X8_either e) (sp := [(5, [true, true, false, false]), (8, [true, true, true, true]), (32, [true, true, false, true]), (37, [true, true, false, true]), (44, [true, true, true, true])]) 30 h
set_option maxRecDepth 20000 in
theorem zv_X8_either_8 {e : Nat} {Q : ab_R} {M : ab_M} {N : ab_N} (l1 : Int32) (l2 : Int32) (l3 : Int32) (h : ((160 : Int32) ≤ l3 → narrow .boolean (.int l2) = .int l2 ∧ Q (some (.int l2)) M N) ∧ (¬ ((160 : Int32) ≤ l3) → (l2 = 0 → narrow .boolean (.int l2) = .int l2 ∧ Q (some (.int l2)) M N) ∧ (¬ (l2 = 0) → ((M 4 3) = (10 : Int32) → zt_X8_advance [.ref 4] M N (fun r M2 N2 => zr_X8_either e Q 32 [some (.ref 4), some (.int l1), none, some (.int l3)] (ab_ol r []) M2 N2)) ∧ (¬ ((M 4 3) = (10 : Int32)) → narrow .boolean (.int l2) = .int l2 ∧ Q (some (.int l2)) M N)))) : zr_X8_either e Q 8 [some (.ref 4), some (.int l1), some (.int l2), some (.int l3)] [] M N := ab_Run_s (zm_X8_either e) (sp := [(5, [true, true, false, false]), (8, [true, true, true, true]), (32, [true, true, false, true]), (37, [true, true, false, true]), (44, [true, true, true, true])]) 30 h
set_option maxRecDepth 20000 in
theorem zv_X8_either_32 {e : Nat} {Q : ab_R} {M : ab_M} {N : ab_N} (l1 : Int32) (l3 : Int32) (h : zt_X8_both (e + 1) [.ref 4, .int l1] M N (fun r M2 N2 => zr_X8_either e Q 37 [some (.ref 4), some (.int l1), none, some (.int l3)] (ab_ol r []) M2 N2)) : zr_X8_either e Q 32 [some (.ref 4), some (.int l1), none, some (.int l3)] [] M N := ab_Run_s (zm_X8_either e) (sp := [(5, [true, true, false, false]), (8, [true, true, true, true]), (32, [true, true, false, true]), (37, [true, true, false, true]), (44, [true, true, true, true])]) 30 h
set_option maxRecDepth 20000 in
theorem zv_X8_either_37 {e : Nat} {Q : ab_R} {M : ab_M} {N : ab_N} (l1 : Int32) (l3 : Int32) (s0 : Int32) (h : zt_X8_put [.ref 4, .int (-9 : Int32)] M N (fun r M2 N2 => zr_X8_either e Q 44 [some (.ref 4), some (.int l1), some (.int s0), some (.int l3)] (ab_ol r []) M2 N2)) : zr_X8_either e Q 37 [some (.ref 4), some (.int l1), none, some (.int l3)] [.int s0] M N := ab_Run_s (zm_X8_either e) (sp := [(5, [true, true, false, false]), (8, [true, true, true, true]), (32, [true, true, false, true]), (37, [true, true, false, true]), (44, [true, true, true, true])]) 30 h
set_option maxRecDepth 20000 in
theorem zv_X8_either_44 {e : Nat} {Q : ab_R} {M : ab_M} {N : ab_N} (l1 : Int32) (l2 : Int32) (l3 : Int32) (h : zr_X8_either e Q 8 [some (.ref 4), some (.int l1), some (.int l2), some (.int (l3 + (1 : Int32)))] [] M N) : zr_X8_either e Q 44 [some (.ref 4), some (.int l1), some (.int l2), some (.int l3)] [] M N := ab_Run_s (zm_X8_either e) (sp := [(5, [true, true, false, false]), (8, [true, true, true, true]), (32, [true, true, false, true]), (37, [true, true, false, true]), (44, [true, true, true, true])]) 30 h
theorem zL_X8_either {e : Nat} {Q : ab_R} {M : ab_M} {N : ab_N} {n w i dn o : Nat} (hp : zPp M n w i dn) (ho : o ≤ 5) (he : o + (e + 1) = 6) (hk : ∀ (b : Int32) (M2 : ab_M) (i2 : Nat) (C : List Int32), zPf M M2 n dn i2 C → zPost 1 true true [42, 43, 45, 11, 10] (M 34) n o i i2 C b → Q (some (.int b)) M2 N) : ∀ (d t i1 : Nat) (C : List Int32) (b : Int32) (M1 : ab_M), n - i1 = d → t ≤ i1 → zPf M M1 n dn i1 C → zPost 1 true true [42, 43, 45, 11] (M 34) n o i i1 C b → zr_X8_either e Q 8 [some (.ref 4), some (.int (nI o)), some (.int b), some (.int (nI t))] [] M1 N := by
  intro d
  induction d using Nat.strongRecOn with
  | _ d ih =>
    intro t i1 C b M1 hd ht g hP
    have hi1 := g.2.2.2.1
    have hn := hp.1.1
    have hdn := hp.2.2.2.2.2.2.2
    obtain ⟨b1, b2, b3, b4, b5⟩ := zTk_b (M 34) hi1
    have hb := zPost_b hP
    have fin : (b = 1 → (zTk (M 34) n i1).1 ≠ 10) → narrow .boolean (.int b) = .int b ∧ Q (some (.int b)) M1 N := fun z => ⟨zNb hb, hk b M1 i1 C g (zPost_ex hP (fun e1 q1 q => by
      simp only [List.mem_cons, List.not_mem_nil, or_false] at q q1
      have := z e1
      grind))⟩
    refine zv_X8_either_8 _ _ _ ⟨fun c => fin (fun _ => ?_), fun c => ⟨fun c2 => fin (fun e1 => by rw [e1] at c2; exact absurd c2 (by decide)), fun c2 => ?_⟩⟩
    · have h160 : 160 ≤ t := Nat.not_lt.mp fun z => nI_ge (a := t) (b := 160) z (by omega) c
      have hE := b4 (by omega)
      rw [hE]
      exact (by decide)
    · have eb : b = 1 := hb.resolve_right c2
      subst eb
      rw [g.2.2.1.1]
      have hl : i + C.length ≤ (zTk (M 34) n i1).2.2.2 := by have := hP.1; omega
      refine ⟨fun c3 => ?_, fun c3 => fin (fun _ => c3)⟩
      refine zAdv_call hp g (by rw [c3]; decide) (fun M2 g2 => zv_X8_either_32 _ _ ?_)
      refine zP_call (e := e + 1) hp g2 hl ho he rfl (fun bb M3 i2 C2 g3 hP2 => zv_X8_either_37 _ _ _ ?_)
      have hi2 := g3.2.2.2.1
      have hl2 := hP2.1
      refine zPut_call hp g3 (by rw [List.length_append]; have := hP.1; omega) (fun M4 g4 => zv_X8_either_44 _ _ _ ?_)
      rw [nI_1]
      refine ih (n - i2) (by omega) (t + 1) i2 _ bb M4 rfl (by omega) g4 ?_
      exact zPost_bin (s := 11) hP (by rw [c3]; rfl) (by decide) (by decide) (by decide) rfl (by decide) (by decide) (by decide) (by decide) rfl hi1 (fun t ht hc => by simp only [List.mem_cons, List.not_mem_nil, or_false, not_or] at ht; have hc := hc rfl; unfold zCm at hc; unfold zThr zSg zRank; grind) hP2
theorem zE_X8_either (e : Nat) (as : List Value) (M : ab_M) (N : ab_N) (k : ab_R) (hT : zt_X8_either (e + 1) as M N k) : ab_cs as ≤ 4 ∧ zr_X8_either e k 0 (ab_en as) [] M N := by
  obtain ⟨n, w, i, dn, o, rfl, ho, he, hp, hk⟩ := zt_P_e hT
  refine ⟨Nat.le_of_ble_eq_true rfl, zv_X8_either_0 _ ?_⟩
  refine zP_call (C := []) (e := e + 1) hp (zPf_rf hp) (Nat.le_refl _) ho he rfl (fun b M2 i2 C2 g3 hP2 => zv_X8_either_5 _ _ ?_)
  exact zL_X8_either hp ho he hk (n - i2) 0 i2 C2 b M2 rfl (Nat.zero_le _) g3 (zPost_weak (by decide) hP2)
