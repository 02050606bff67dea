/-! the reference: rounds, next *)
-/
theorem zFo_c {g : Nat → Int64} {nm : Nat → Int32} {ok : Nat → Bool} {s : Int32 × Int64} {p0 : Nat} (hs : s.1 = -1 → s.2 = 1000000000000000000) (hp : ok p0 = true) : ∀ n, (∀ k, k < n → ¬ nm k = -1 ∧ g k < 1000000000000000000) → ((zFo g nm ok s n).1 = -1 → (zFo g nm ok s n).2 = 1000000000000000000) ∧ (p0 < n ∨ ¬ s.1 = -1 → ¬ (zFo g nm ok s n).1 = -1)
  | 0, _ => ⟨hs, fun z => z.elim (fun q => absurd q (Nat.not_lt_zero _)) id⟩
  | n + 1, h => by
    obtain ⟨i1, i2⟩ := zFo_c (g := g) (nm := nm) hs hp n (fun k hk => h k (by omega))
    obtain ⟨h1, h2⟩ := h n (by omega)
    unfold zFo
    by_cases c : ok n = true
    · rw [if_pos c]
      unfold zOf
      by_cases q : g n < (zFo g nm ok s n).2
      · rw [if_pos q]
        exact ⟨fun z => absurd z h1, fun _ => h1⟩
      · rw [if_neg q]
        refine ⟨i1, fun _ z => ?_⟩
        rw [i1 z] at q
        exact q h2
    · rw [if_neg c]
      refine ⟨i1, fun z => i2 ?_⟩
      rcases z with z | z
      · by_cases e : p0 = n
        · rw [e] at hp; exact absurd hp c
        · exact Or.inl (by omega)
      · exact Or.inr z
theorem zI1_25 {d : ab_M} (h : zI1 d) (m : Nat) : zI1 (ab_u d 25 (upd (d 25) m 1)) := by
  have e : ∀ c, c ≠ 25 → ab_u d 25 (upd (d 25) m 1) c = d c := fun c hc => ab_u_ne _ _ hc
  unfold zI1 zMen at h ⊢
  rw [e 1 (by decide), e 2 (by decide), e 6 (by decide), e 26 (by decide), e 27 (by decide), e 28 (by decide), e 29 (by decide), ab_u_eq]
  intro q hq
  obtain ⟨a1, a2, a3, a4, a5, a6⟩ := h q hq
  refine ⟨?_, a2, a3, a4, a5, a6⟩
  by_cases c : q = m
  · rw [c, upd_eq]; decide
  · rw [upd_ne _ _ c]; exact a1
theorem zI1_26 {d : ab_M} (h0 : zI0 d) (h : zI1 d) (m : Nat) {a : Nat} (ha : a < zPcs d) : zI1 (ab_u d 26 (upd (d 26) m (nI a))) := by
  obtain ⟨hP, hP8⟩ := zP_eq h0
  have e : ∀ c, c ≠ 26 → ab_u d 26 (upd (d 26) m (nI a)) c = d c := fun c hc => ab_u_ne _ _ hc
  unfold zI1 zMen at h ⊢
  rw [e 1 (by decide), e 2 (by decide), e 6 (by decide), e 25 (by decide), e 27 (by decide), e 28 (by decide), e 29 (by decide), ab_u_eq]
  intro q hq
  obtain ⟨a1, a2, a3, a4, a5, a6⟩ := h q hq
  refine ⟨a1, ?_, a3, a4, a5, a6⟩
  by_cases c : q = m
  · rw [c, upd_eq, hP]; exact ⟨nI_pos' (by omega), nI_lt ha (by omega)⟩
  · rw [upd_ne _ _ c]; exact a2
def zt_X12_rounds : ab_T := ab_lq (α := ab_M × Int32 × Int32) (fun x r M _ => r = [.int x.2.1, .int x.2.2] ∧ zRN x.1 M)
  (fun x M N o M2 N2 => zFr zSL M M2 ∧ zNfr [0, 32] N N2 ∧ o = some (.long (zRoA x.1 x.2.1 x.2.2)))
theorem zt_X12_rounds_mono : ab_mono zt_X12_rounds := ab_lq_mono _ _
theorem zV_X12_rounds : ab_recv zw_M vwCl RX12 zt_X12_rounds := ab_lq_v
def zp_X12_rounds : ab_P := [(0, .aload_n 0, 1, [0], []),
  (1, .iload_n 1, 2, [1], []),
  (2, .invokevirtual 268, 5, [], []),
  (5, .ifCond .eq 12, 8, [17], []),
  (8, .iload_n 2, 9, [2], []),
  (9, .iconst 0, 10, [], [0]),
  (10, .iconst 1, 11, [], [1]),
  (11, .invokestatic 175, 14, [], []),
  (14, .ifCond .ne 7, 17, [21], []),
  (17, .ldc2_w 341, 20, [], []),
  (20, .lreturn, 21, [], []),
  (21, .aload_n 0, 22, [0], []),
  (22, .getfield 41, 25, [], []),
  (25, .iload_n 1, 26, [1], []),
  (26, .iaload, 27, [], []),
  (27, .istore_n 3, 28, [3], []),
  (28, .aload_n 0, 29, [0], []),
  (29, .getfield 44, 32, [], []),
  (32, .iload_n 1, 33, [1], []),
  (33, .iaload, 34, [], []),
  (34, .istore 4, 36, [], []),
  (36, .aload_n 0, 37, [0], []),
  (37, .getfield 47, 40, [], []),
  (40, .iload_n 1, 41, [1], []),
  (41, .iaload, 42, [], []),
  (42, .istore 5, 44, [], []),
  (44, .aload_n 0, 45, [0], []),
  (45, .getfield 41, 48, [], []),
  (48, .iload_n 1, 49, [1], []),
  (49, .iconst 1, 50, [], [1]),
  (50, .iastore, 51, [], []),
  (51, .iconst (-1), 52, [], [(-1)]),
  (52, .istore 6, 54, [], []),
  (54, .lconst 0, 55, [0], []),
  (55, .lstore 7, 57, [], []),
  (57, .iconst 0, 58, [], [0]),
  (58, .istore 9, 60, [], []),
  (60, .iload 9, 62, [], []),
  (62, .aload_n 0, 63, [0], []),
  (63, .getfield 172, 66, [], []),
  (66, .if_icmp .ge 79, 69, [145], []),
  (69, .iload 9, 71, [], []),
  (71, .istore 10, 73, [], []),
  (73, .iload 10, 75, [], []),
  (75, .aload_n 0, 76, [0], []),
  (76, .getfield 172, 79, [], []),
  (79, .if_icmp .ge 60, 82, [139], []),
  (82, .aload_n 0, 83, [0], []),
  (83, .getfield 44, 86, [], []),
  (86, .iload_n 1, 87, [1], []),
  (87, .iload 9, 89, [], []),
  (89, .iastore, 90, [], []),
  (90, .aload_n 0, 91, [0], []),
  (91, .getfield 47, 94, [], []),
  (94, .iload_n 1, 95, [1], []),
  (95, .iload 10, 97, [], []),
  (97, .iastore, 98, [], []),
  (98, .aload_n 0, 99, [0], []),
  (99, .iconst 0, 100, [], [0]),
  (100, .invokevirtual 337, 103, [], []),
  (103, .lstore 11, 105, [], []),
  (105, .iload 6, 107, [], []),
  (107, .iconst (-1), 108, [], [(-1)]),
  (108, .if_icmp .eq 11, 111, [119], []),
  (111, .lload 11, 113, [], []),
  (113, .lload 7, 115, [], []),
  (115, .lcmp, 116, [], []),
  (116, .ifCond .ge 17, 119, [133], []),
  (119, .bipush 10, 121, [], [10]),
  (121, .iload 9, 123, [], []),
  (123, .imul, 124, [], []),
  (124, .iload 10, 126, [], []),
  (126, .iadd, 127, [], []),
  (127, .istore 6, 129, [], []),
  (129, .lload 11, 131, [], []),
  (131, .lstore 7, 133, [], []),
  (133, .iinc 10 1, 136, [], [1]),
  (136, .goto (-63), 139, [73], []),
  (139, .iinc 9 1, 142, [], [1]),
  (142, .goto (-82), 145, [60], []),
  (145, .aload_n 0, 146, [0], []),
  (146, .getfield 41, 149, [], []),
  (149, .iload_n 1, 150, [1], []),
  (150, .iload_n 3, 151, [3], []),
  (151, .iastore, 152, [], []),
  (152, .aload_n 0, 153, [0], []),
  (153, .getfield 44, 156, [], []),
  (156, .iload_n 1, 157, [1], []),
  (157, .iload 4, 159, [], []),
  (159, .iastore, 160, [], []),
  (160, .aload_n 0, 161, [0], []),
  (161, .getfield 47, 164, [], []),
  (164, .iload_n 1, 165, [1], []),
  (165, .iload 5, 167, [], []),
  (167, .iastore, 168, [], []),
  (168, .iload_n 2, 169, [2], []),
  (169, .ifCond .ne 9, 172, [178], []),
  (172, .iload 6, 174, [], []),
  (174, .i2l, 175, [], []),
  (175, .goto 5, 178, [180], []),
  (178, .lload 7, 180, [], []),
  (180, .lreturn, 181, [], [])]
theorem zo_X12_rounds : ab_ok cX12_rounds zp_X12_rounds = true := by decide +kernel
def zg_X12_rounds : ab_G := (zw_M, [], zf_X12, zc_X12, [], [(268, 2, zt_X12_isMan), (337, 2, zt_X12_runAll)], [(175, 3, zt_X12_in)])
theorem zm_X12_rounds : ab_MG zg_X12_rounds := ab_MGof (List.forall_mem_cons.mpr ⟨ab_pure_mono _, List.forall_mem_cons.mpr ⟨zt_X12_runAll_mono, List.forall_mem_nil _⟩⟩) (List.forall_mem_cons.mpr ⟨ab_pure_mono _, List.forall_mem_nil _⟩)
abbrev zr_X12_rounds (Q : ab_R) : ab_K := ab_Run zg_X12_rounds zp_X12_rounds (some .long) 13 Q
set_option maxRecDepth 20000 in
theorem zv_X12_rounds_0 {Q : ab_R} {M : ab_M} {N : ab_N} (l1 : Int32) (l2 : Int32) (h : ((ab_b (0 ≤ l1 ∧ l1 ≤ (M 0) 12 - 1)) = 0 → Q (some (.long (-4611686018427387904 : Int64))) M N) ∧ (¬ ((ab_b (0 ≤ l1 ∧ l1 ≤ (M 0) 12 - 1)) = 0) → ((ab_b ((0 : Int32) ≤ l2 ∧ l2 ≤ (1 : Int32))) = 0 → Q (some (.long (-4611686018427387904 : Int64))) M N) ∧ (¬ ((ab_b ((0 : Int32) ≤ l2 ∧ l2 ≤ (1 : Int32))) = 0) → vp_in l1 5 ∧ (vp_in l1 5 ∧ (vp_in l1 5 ∧ (vp_in l1 5 ∧ (let z1 : Nat → Int32 := upd (M 6) l1.toNatClampNeg (1 : Int32); zr_X12_rounds Q 60 [some (.ref 0), some (.int l1), some (.int l2), some (.int (M 6 l1.toNatClampNeg)), some (.int (M 7 l1.toNatClampNeg)), some (.int (M 8 l1.toNatClampNeg)), some (.int (-1 : Int32)), some (.long (0 : Int64)), none, some (.int (0 : Int32)), none, none, none] [] (ab_u M 6 z1) N))))))) : zr_X12_rounds Q 0 [some (.ref 0), some (.int l1), some (.int l2)] [] M N := ab_Run_s zm_X12_rounds (sp := [(60, [true, true, true, true, true, true, true, true, false, true, false, false, false]), (73, [true, true, true, true, true, true, true, true, false, true, true, false, false]), (103, [true, true, true, true, true, true, true, true, false, true, true, false, false])]) 104 h
set_option maxRecDepth 20000 in
theorem zv_X12_rounds_60 {Q : ab_R} {M : ab_M} {N : ab_N} (l1 : Int32) (l2 : Int32) (l3 : Int32) (l4 : Int32) (l5 : Int32) (l6 : Int32) (l7 : Int64) (l9 : Int32) (h : ((M 0 7) ≤ l9 → vp_in l1 5 ∧ (let z1 : Nat → Int32 := upd (M 6) l1.toNatClampNeg l3; vp_in l1 5 ∧ (let z2 : Nat → Int32 := upd (M 7) l1.toNatClampNeg l4; vp_in l1 5 ∧ (let z3 : Nat → Int32 := upd (M 8) l1.toNatClampNeg l5; (l2 = 0 → Q (some (.long (l6.toInt64))) (ab_u (ab_u (ab_u M 6 z1) 7 z2) 8 z3) N) ∧ (¬ (l2 = 0) → Q (some (.long l7)) (ab_u (ab_u (ab_u M 6 z1) 7 z2) 8 z3) N))))) ∧ (¬ ((M 0 7) ≤ l9) → zr_X12_rounds Q 73 [some (.ref 0), some (.int l1), some (.int l2), some (.int l3), some (.int l4), some (.int l5), some (.int l6), some (.long l7), none, some (.int l9), some (.int l9), none, none] [] M N)) : zr_X12_rounds Q 60 [some (.ref 0), some (.int l1), some (.int l2), some (.int l3), some (.int l4), some (.int l5), some (.int l6), some (.long l7), none, some (.int l9), none, none, none] [] M N := ab_Run_s zm_X12_rounds (sp := [(60, [true, true, true, true, true, true, true, true, false, true, false, false, false]), (73, [true, true, true, true, true, true, true, true, false, true, true, false, false]), (103, [true, true, true, true, true, true, true, true, false, true, true, false, false])]) 104 h
set_option maxRecDepth 20000 in
theorem zv_X12_rounds_73 {Q : ab_R} {M : ab_M} {N : ab_N} (l1 : Int32) (l2 : Int32) (l3 : Int32) (l4 : Int32) (l5 : Int32) (l6 : Int32) (l7 : Int64) (l9 : Int32) (l10 : Int32) (h : ((M 0 7) ≤ l10 → zr_X12_rounds Q 60 [some (.ref 0), some (.int l1), some (.int l2), some (.int l3), some (.int l4), some (.int l5), some (.int l6), some (.long l7), none, some (.int (l9 + (1 : Int32))), none, none, none] [] M N) ∧ (¬ ((M 0 7) ≤ l10) → vp_in l1 5 ∧ (let z1 : Nat → Int32 := upd (M 7) l1.toNatClampNeg l9; vp_in l1 5 ∧ (let z2 : Nat → Int32 := upd (M 8) l1.toNatClampNeg l10; zt_X12_runAll [.ref 0, .int (0 : Int32)] (ab_u (ab_u M 7 z1) 8 z2) N (fun r M2 N2 => zr_X12_rounds Q 103 [some (.ref 0), some (.int l1), some (.int l2), some (.int l3), some (.int l4), some (.int l5), some (.int l6), some (.long l7), none, some (.int l9), some (.int l10), none, none] (ab_ol r []) M2 N2))))) : zr_X12_rounds Q 73 [some (.ref 0), some (.int l1), some (.int l2), some (.int l3), some (.int l4), some (.int l5), some (.int l6), some (.long l7), none, some (.int l9), some (.int l10), none, none] [] M N := ab_Run_s zm_X12_rounds (sp := [(60, [true, true, true, true, true, true, true, true, false, true, false, false, false]), (73, [true, true, true, true, true, true, true, true, false, true, true, false, false]), (103, [true, true, true, true, true, true, true, true, false, true, true, false, false])]) 104 h
set_option maxRecDepth 20000 in
theorem zv_X12_rounds_103 {Q : ab_R} {M : ab_M} {N : ab_N} (l1 : Int32) (l2 : Int32) (l3 : Int32) (l4 : Int32) (l5 : Int32) (l6 : Int32) (l7 : Int64) (l9 : Int32) (l10 : Int32) (s0 : Int64) (h : (l6 = (-1 : Int32) → zr_X12_rounds Q 73 [some (.ref 0), some (.int l1), some (.int l2), some (.int l3), some (.int l4), some (.int l5), some (.int (((10 : Int32) * l9) + l10)), some (.long s0), none, some (.int l9), some (.int (l10 + (1 : Int32))), none, none] [] M N) ∧ (¬ (l6 = (-1 : Int32)) → (0 ≤ (lg_cmp s0 l7) → zr_X12_rounds Q 73 [some (.ref 0), some (.int l1), some (.int l2), some (.int l3), some (.int l4), some (.int l5), some (.int l6), some (.long l7), none, some (.int l9), some (.int (l10 + (1 : Int32))), none, none] [] M N) ∧ (¬ (0 ≤ (lg_cmp s0 l7)) → zr_X12_rounds Q 73 [some (.ref 0), some (.int l1), some (.int l2), some (.int l3), some (.int l4), some (.int l5), some (.int (((10 : Int32) * l9) + l10)), some (.long s0), none, some (.int l9), some (.int (l10 + (1 : Int32))), none, none] [] M N))) : zr_X12_rounds Q 103 [some (.ref 0), some (.int l1), some (.int l2), some (.int l3), some (.int l4), some (.int l5), some (.int l6), some (.long l7), none, some (.int l9), some (.int l10), none, none] [.long s0] M N := ab_Run_s zm_X12_rounds (sp := [(60, [true, true, true, true, true, true, true, true, false, true, false, false, false]), (73, [true, true, true, true, true, true, true, true, false, true, true, false, false]), (103, [true, true, true, true, true, true, true, true, false, true, true, false, false])]) 104 h
def zRoR (d : ab_M) (m : Nat) (M0 M : ab_M) : Prop := zFr (7 :: 8 :: zSL) (ab_u M0 6 (upd (d 25) m 1)) M ∧ (∃ x, M 7 = upd (d 26) m x) ∧ ∃ y, M 8 = upd (d 27) m y
theorem zRN_ro {d M0 M : ab_M} {m a b : Nat} (hR : zRN d M0) (ha : a < zPcs d) (hb : b < zPcs d) (hF : zFr (7 :: 8 :: zSL) (ab_u M0 6 (upd (d 25) m 1)) M) : zRN (zRoD d m (nI a) (nI b)) (ab_u (ab_u M 7 (upd (d 26) m (nI a))) 8 (upd (d 27) m (nI b))) := by
  have i0 := hR.2.1
  have i1 := hR.2.2.1
  have r1 := zRN_a25 hR _ (zI1_25 i1 m)
  have j0 : zI0 (ab_u d 25 (upd (d 25) m 1)) := zI0_6 i0 _ (by decide)
  have r2 := zRN_a26 r1 _ (zI1_26 (d := ab_u d 25 (upd (d 25) m 1)) j0 (zI1_25 i1 m) m (a := a) ha)
  have r3 := zRN_a27 r2 (upd (d 27) m (nI b)) (zI1_ro i0 i1 ha hb)
  exact zRN_zfr r3 (zFr_same (zFr_same hF _) _) (by decide)
theorem zL_X12_roundsI {Q : ab_R} {d M0 : ab_M} {N0 : ab_N} {w : Int32} {m a : Nat} {s : Int32 × Int64} (hR : zRN d M0) (hm : m < zMen d) (ha : a < zPcs d) (hk : ∀ M N x y, zRoR d m M0 M → zNfr [0, 32] N0 N → zRl (-1) (zRoI d m a s (zPcs d - a)) x y → zr_X12_rounds Q 60 [some (.ref 0), some (.int (nI m)), some (.int w), some (.int (d 25 m)), some (.int (d 26 m)), some (.int (d 27 m)), some (.int x), some (.long y), none, some (.int (nI (a + 1))), none, none, none] [] M N) : ∀ (r k : Nat) (M : ab_M) (N : ab_N) (x : Int32) (y : Int64), a + k + r = zPcs d → zRoR d m M0 M → zNfr [0, 32] N0 N → zRl (-1) (zRoI d m a s k) x y → zr_X12_rounds Q 73 [some (.ref 0), some (.int (nI m)), some (.int w), some (.int (d 25 m)), some (.int (d 26 m)), some (.int (d 27 m)), some (.int x), some (.long y), none, some (.int (nI a)), some (.int (nI (a + k))), none, none] [] M N := by
  obtain ⟨n7, p8, n12, m5, n0, h1, h12, -⟩ := zNI_n hR
  have hin : vp_in (nI m) 5 := nI_in_ (by omega)
  have cm : (nI m).toNatClampNeg = m := nI_clamp (by omega)
  intro r
  induction r with
  | zero =>
    intro k M N x y hr hM hN hl
    have e : k = zPcs d - a := by omega
    subst e
    have n7 : M 0 7 = nI (zPcs d) := by rw [hM.1 0 (by decide), ab_u_ne _ _ (by decide)]; exact n7
    refine zv_X12_rounds_73 _ _ _ _ _ _ _ _ _ ?_
    rw [nI_1]
    exact ⟨fun _ => hk M N x y hM hN hl, fun c => absurd (by rw [n7]; exact nI_le (by omega) (by omega)) c⟩
  | succ r ih =>
    intro k M N x y hr hM hN hl
    have n7 : M 0 7 = nI (zPcs d) := by rw [hM.1 0 (by decide), ab_u_ne _ _ (by decide)]; exact n7
    obtain ⟨hF, ⟨x7, e7⟩, y8, e8⟩ := hM
    refine zv_X12_rounds_73 _ _ _ _ _ _ _ _ _ ?_
    rw [cm]
    refine ⟨fun c => absurd (by rw [← n7]; exact c) (nI_ge (a := a + k) (b := zPcs d) (by omega) (by omega)), fun _ => ⟨hin, ?_⟩⟩
    intro z1
    refine ⟨hin, ?_⟩
    intro z2
    have ez1 : z1 = upd (d 26) m (nI a) := by simp only [z1]; rw [e7, upd_upd]
    have ez2 : z2 = upd (d 27) m (nI (a + k)) := by simp only [z2]; rw [e8, upd_upd]
    clear_value z1 z2
    subst ez1 ez2
    have hR2 := zRN_ro (b := a + k) hR ha (by omega) hF
    refine zRA hR2 (fun M2 N2 f1 f2 => ?_)
    have es : zRoI d m a s (k + 1) = zOf (zRoI d m a s k) (nI (10 * a + (a + k))) (zAll (zRoD d m (nI a) (nI (a + k)))) := zFo_t
    obtain ⟨s1, s2⟩ := zRl_step (i := nI (10 * a + (a + k))) hl (nI_m1 (by omega)) (nI_m1 (by omega)) (zAll_lt hR2.2.1)
    have go := fun a2 y2 (q : zRl (-1) (zOf (zRoI d m a s k) (nI (10 * a + (a + k))) (zAll (zRoD d m (nI a) (nI (a + k))))) a2 y2) => ih (k + 1) M2 N2 a2 y2 (by omega) ⟨zFr_tr (zFr_u (zFr_u hF (by decide) _) (by decide) _) (zFr_mono f1 (by decide)), ⟨nI a, by rw [f1 7 (by decide), ab_u_ne _ _ (by decide), ab_u_eq]⟩, ⟨nI (a + k), by rw [f1 8 (by decide), ab_u_eq]⟩⟩ (zNfr_tr hN f2) (by rw [es]; exact q)
    refine zv_X12_rounds_103 _ _ _ _ _ _ _ _ _ _ ?_
    rw [nI_1, show (10 : Int32) * nI a + nI (a + k) = nI (10 * a + (a + k)) by rw [show (10 : Int32) = nI 10 from rfl, pk_mul, nI_add], Nat.add_assoc a k 1]
    exact ⟨fun c => go _ _ (s1 c), fun c => ⟨fun c2 => go _ _ ((s2 c).1 c2), fun c2 => go _ _ ((s2 c).2 c2)⟩⟩
theorem zRo_nn {d : ab_M} (i0 : zI0 d) {m : Nat} : ∀ a, a ≤ zPcs d → ((zRoO d m a).1 = -1 → (zRoO d m a).2 = 1000000000000000000) ∧ (0 < a → ¬ (zRoO d m a).1 = -1)
  | 0, _ => ⟨fun _ => rfl, fun z => absurd z (Nat.lt_irrefl _)⟩
  | a + 1, ha => by
    obtain ⟨-, p8⟩ := zP_eq i0
    obtain ⟨i1, -⟩ := zRo_nn i0 (m := m) a (by omega)
    have := zFo_c (g := fun k => zAll (zRoD d m (nI a) (nI (a + k)))) (nm := fun k => nI (10 * a + (a + k))) (ok := fun _ => true) (s := zRoO d m a) (p0 := 0) i1 rfl (zPcs d - a) (fun k hk => ⟨nI_m1 (by omega), zAll_lt (zI0_6 (zI0_6 (zI0_6 i0 _ (by decide)) _ (by decide)) _ (by decide))⟩)
    exact ⟨this.1, fun _ => this.2 (Or.inl (by omega))⟩
theorem zL_X12_rounds {Q : ab_R} {d M0 : ab_M} {N0 : ab_N} {w : Int32} {m : Nat} (hR : zRN d M0) (hm : m < zMen d) (hP : 0 < zPcs d) (hk : ∀ M N, zFr zSL M0 M → zNfr [0, 32] N0 N → Q (some (.long (if w = 0 then (zRoO d m (zPcs d)).1.toInt64 else (zRoO d m (zPcs d)).2))) M N) : ∀ (r a : Nat) (M : ab_M) (N : ab_N) (x : Int32) (y : Int64), a + r = zPcs d → zRoR d m M0 M → zNfr [0, 32] N0 N → zRl (-1) (zRoO d m a) x y → zr_X12_rounds Q 60 [some (.ref 0), some (.int (nI m)), some (.int w), some (.int (d 25 m)), some (.int (d 26 m)), some (.int (d 27 m)), some (.int x), some (.long y), none, some (.int (nI a)), none, none, none] [] M N := by
  obtain ⟨n7, p8, n12, m5, n0, h1, h12, -⟩ := zNI_n hR
  have hin : vp_in (nI m) 5 := nI_in_ (by omega)
  have cm : (nI m).toNatClampNeg = m := nI_clamp (by omega)
  obtain ⟨-, -, -, -, -, b6, b7, b8, -⟩ := hR.1.2.1
  intro r
  induction r with
  | zero =>
    intro a M N x y hr hM hN hl
    have e : a = zPcs d := by omega
    subst e
    have n7 : M 0 7 = nI (zPcs d) := by rw [hM.1 0 (by decide), ab_u_ne _ _ (by decide)]; exact n7
    obtain ⟨hF, ⟨x7, e7⟩, y8, e8⟩ := hM
    refine zv_X12_rounds_60 _ _ _ _ _ _ _ _ ?_
    rw [cm]
    refine ⟨fun _ => ⟨hin, ?_⟩, fun c => absurd (by rw [n7]; exact nI_le (by omega) (by omega)) c⟩
    intro z1
    refine ⟨hin, ?_⟩
    intro z2
    refine ⟨hin, ?_⟩
    intro z3
    have ez1 : z1 = M0 6 := by simp only [z1]; rw [hF 6 (by decide), ab_u_eq, upd_upd, upd_same, b6]
    have ez2 : z2 = M0 7 := by simp only [z2]; rw [e7, upd_upd, upd_same, b7]
    have ez3 : z3 = M0 8 := by simp only [z3]; rw [e8, upd_upd, upd_same, b8]
    have hk := hk (ab_u (ab_u (ab_u M 6 z1) 7 z2) 8 z3) N (fun c hc => by
      by_cases c8 : c = 8
      · rw [c8, ab_u_eq, ez3]
      · rw [ab_u_ne _ _ c8]
        by_cases c7 : c = 7
        · rw [c7, ab_u_eq, ez2]
        · rw [ab_u_ne _ _ c7]
          by_cases c6 : c = 6
          · rw [c6, ab_u_eq, ez1]
          · rw [ab_u_ne _ _ c6, hF c (by simp only [List.mem_cons, not_or]; exact ⟨c7, c8, by simpa using hc⟩), ab_u_ne _ _ c6]) hN
    have nn := (zRo_nn (d := d) hR.2.1 (m := m) (zPcs d) (Nat.le_refl _)).2 hP
    rcases hl with ⟨q, -⟩ | ⟨-, -, q1, q2⟩
    · exact absurd q nn
    · rw [q1, q2]
      refine ⟨fun c => ?_, fun c => ?_⟩
      · rw [if_pos c] at hk; exact hk
      · rw [if_neg c] at hk; exact hk
  | succ r ih =>
    intro a M N x y hr hM hN hl
    have n7 : M 0 7 = nI (zPcs d) := by rw [hM.1 0 (by decide), ab_u_ne _ _ (by decide)]; exact n7
    refine zv_X12_rounds_60 _ _ _ _ _ _ _ _ ⟨fun c => absurd (by rw [← n7]; exact c) (nI_ge (a := a) (b := zPcs d) (by omega) (by omega)), fun _ => ?_⟩
    exact zL_X12_roundsI (s := zRoO d m a) hR hm (by omega) (fun M2 N2 x2 y2 q1 q2 q3 => ih (a + 1) M2 N2 x2 y2 (by omega) q1 q2 q3) (zPcs d - a) 0 M N x y (by omega) hM hN hl
theorem zMan_P {d : ab_M} (i0 : zI0 d) (i1 : zI1 d) {m : Nat} (hm : m < zMen d) : 0 < zPcs d := by
  obtain ⟨q, hq, -⟩ := zWk_nat i0 i1 hm 0
  omega
theorem zE_X12_rounds (as : List Value) (M : ab_M) (N : ab_N) (k : ab_R) (hT : zt_X12_rounds as M N k) : ab_cs as ≤ 13 ∧ zr_X12_rounds k 0 (ab_en as) [] M N := by
  obtain ⟨⟨d, l, w⟩, q, rfl, ⟨rfl, hR⟩, hk⟩ := hT
  dsimp only at hR hk ⊢
  obtain ⟨n7, p8, n12, m5, n0, h1, h12, -⟩ := zNI_n hR
  obtain ⟨-, -, -, -, -, b6, b7, b8, -⟩ := hR.1.2.1
  have hk := fun M2 N2 (hF : zFr zSL M M2) (hN : zNfr [0, 32] N N2) => hk _ M2 N2 ⟨hF, hN, rfl⟩
  unfold zRoA at hk
  refine ⟨Nat.le_of_ble_eq_true rfl, zv_X12_rounds_0 _ _ ?_⟩
  rw [n12]
  refine ⟨fun c => ?_, fun c => ⟨fun c2 => ?_, fun c2 => ?_⟩⟩
  · have hk := hk M N (zFr_rf _ _) (zNfr_rf _ _)
    rw [if_neg (ab_b_0.mp c)] at hk
    exact hk
  · have hk := hk M N (zFr_rf _ _) (zNfr_rf _ _)
    rw [if_pos (zIx0 c), if_neg (ab_b_0.mp c2)] at hk
    exact hk
  · have a1 := zIx0 c
    rw [if_pos a1, if_pos (zIx0 c2)] at hk
    obtain ⟨km, y1, rfl⟩ := zIxN (by omega) a1
    have cm : (nI km).toNatClampNeg = km := nI_clamp (by omega)
    have hin : vp_in (nI km) 5 := nI_in_ (by omega)
    rw [cm] at hk ⊢
    rw [← b6, ← b7, ← b8]
    refine ⟨hin, hin, hin, hin, ?_⟩
    intro z1
    exact zL_X12_rounds hR y1 (zMan_P hR.2.1 hR.2.2.1 y1) hk (zPcs d) 0 _ N (-1) 0 (by omega) ⟨zFr_rf _ _, ⟨d 26 km, by rw [ab_u_ne _ _ (by decide), upd_same, b7]⟩, ⟨d 27 km, by rw [ab_u_ne _ _ (by decide), upd_same, b8]⟩⟩ (zNfr_rf _ _) (zRl_0 _)
abbrev zR_X12_rounds : Room := { frames := 8, cells := 0, slots := 0, locals := 190 }
set_option maxRecDepth 20000 in
theorem zM_X12_rounds (l : Launch) : ab_Met l zw_M vwCl zZ_M yX12_rounds cX12_rounds 13 (some .long) zR_X12_rounds zt_X12_rounds := ab_ofRun (G := zg_X12_rounds) (P := zp_X12_rounds) rfl zo_X12_rounds (by decide +kernel) zl_cl zl_lamM zf_X12_ok ab_Tab_nil zc_X12_ok ab_Sta_nil (List.forall_mem_cons.mpr ⟨ab_callV zZ_M_ok (zM_X12_isMan l) (ab_in 1301 (by decide +kernel) rfl) (ab_in 1298 (by decide +kernel) rfl) (ab_in 1300 (by decide +kernel) rfl) (ab_inS (List.mem_of_getElem? (i := 39) (by decide +kernel)) rfl) (ab_in 17 (by decide +kernel) rfl) (by unfold ab_yok; decide +kernel) ⟨rfl, rfl⟩ (by decide) zV_X12_isMan, List.forall_mem_cons.mpr ⟨ab_callV zZ_M_ok (zM_X12_runAll l) (ab_in 1372 (by decide +kernel) rfl) (ab_in 1369 (by decide +kernel) rfl) (ab_in 1371 (by decide +kernel) rfl) (ab_inS (List.mem_of_getElem? (i := 50) (by decide +kernel)) rfl) (ab_in 17 (by decide +kernel) rfl) (by unfold ab_yok; decide +kernel) ⟨rfl, rfl⟩ (by decide) zV_X12_runAll, List.forall_mem_nil _⟩⟩) (List.forall_mem_cons.mpr ⟨ab_callS zZ_M_ok (zM_X12_in l) (ab_in 1200 (by decide +kernel) rfl) (ab_in 1198 (by decide +kernel) rfl) (ab_in 1199 (by decide +kernel) rfl) (ab_in 17 (by decide +kernel) rfl) (by unfold ab_yok; decide +kernel) ⟨rfl, rfl⟩ (by decide), List.forall_mem_nil _⟩) zE_X12_rounds
theorem zNear : ∀ f, f < 8 → ∀ p, p < 8 → ∀ v, v < 4 → decide (nI f - nI v ≤ nI p ∧ nI p ≤ nI f + nI v) = decide (zAbs (nI p - nI f) ≤ nI v) := by decide +kernel
def zt_X12_next_ : ab_T := ab_lq (α := ab_M × Int32 × Int32 × Int32) (fun x r M _ => r = [.int x.2.1, .int x.2.2.1, .int x.2.2.2] ∧ zRN x.1 M ∧ M 0 27 = -1)
  (fun x M N o M2 N2 => zFr (0 :: zSL) M M2 ∧ (∀ j, j ≠ 28 → j ≠ 29 → M2 0 j = M 0 j) ∧ zNfr [0, 32] N N2 ∧ o = some (.long (zNxA x.1 x.2.1 x.2.2.1 x.2.2.2)))
theorem zt_X12_next__mono : ab_mono zt_X12_next_ := ab_lq_mono _ _
theorem zV_X12_next_ : ab_recv zw_M vwCl RX12 zt_X12_next_ := ab_lq_v
def zp_X12_next_ : ab_P := [(0, .aload_n 0, 1, [0], []),
  (1, .iload_n 1, 2, [1], []),
  (2, .invokevirtual 268, 5, [], []),
  (5, .ifCond .eq 26, 8, [31], []),
  (8, .iload_n 2, 9, [2], []),
  (9, .iconst 1, 10, [], [1]),
  (10, .aload_n 0, 11, [0], []),
  (11, .getfield 7, 14, [], []),
  (14, .iconst 1, 15, [], [1]),
  (15, .isub, 16, [], []),
  (16, .invokestatic 175, 19, [], []),
  (19, .ifCond .eq 12, 22, [31], []),
  (22, .iload_n 3, 23, [3], []),
  (23, .iconst 0, 24, [], [0]),
  (24, .iconst 1, 25, [], [1]),
  (25, .invokestatic 175, 28, [], []),
  (28, .ifCond .ne 7, 31, [35], []),
  (31, .ldc2_w 341, 34, [], []),
  (34, .lreturn, 35, [], []),
  (35, .aload_n 0, 36, [0], []),
  (36, .invokevirtual 311, 39, [], []),
  (39, .aload_n 0, 40, [0], []),
  (40, .getfield 144, 43, [], []),
  (43, .bipush 12, 45, [], [12]),
  (45, .iload_n 1, 46, [1], []),
  (46, .imul, 47, [], []),
  (47, .iload_n 2, 48, [2], []),
  (48, .iadd, 49, [], []),
  (49, .iconst 1, 50, [], [1]),
  (50, .isub, 51, [], []),
  (51, .iaload, 52, [], []),
  (52, .istore 4, 54, [], []),
  (54, .iconst (-1), 55, [], [(-1)]),
  (55, .istore 5, 57, [], []),
  (57, .lconst 0, 58, [0], []),
  (58, .lstore 6, 60, [], []),
  (60, .iconst 0, 61, [], [0]),
  (61, .istore 8, 63, [], []),
  (63, .iload 8, 65, [], []),
  (65, .aload_n 0, 66, [0], []),
  (66, .getfield 172, 69, [], []),
  (69, .if_icmp .ge 85, 72, [154], []),
  (72, .iload 8, 74, [], []),
  (74, .iload 4, 76, [], []),
  (76, .aload_n 0, 77, [0], []),
  (77, .getfield 50, 80, [], []),
  (80, .iload_n 1, 81, [1], []),
  (81, .iaload, 82, [], []),
  (82, .isub, 83, [], []),
  (83, .iload 4, 85, [], []),
  (85, .aload_n 0, 86, [0], []),
  (86, .getfield 50, 89, [], []),
  (89, .iload_n 1, 90, [1], []),
  (90, .iaload, 91, [], []),
  (91, .iadd, 92, [], []),
  (92, .invokestatic 175, 95, [], []),
  (95, .ifCond .eq 53, 98, [148], []),
  (98, .aload_n 0, 99, [0], []),
  (99, .iload_n 1, 100, [1], []),
  (100, .putfield 74, 103, [], []),
  (103, .aload_n 0, 104, [0], []),
  (104, .iload_n 2, 105, [2], []),
  (105, .putfield 292, 108, [], []),
  (108, .aload_n 0, 109, [0], []),
  (109, .iload 8, 111, [], []),
  (111, .putfield 295, 114, [], []),
  (114, .aload_n 0, 115, [0], []),
  (115, .iconst 0, 116, [], [0]),
  (116, .invokevirtual 337, 119, [], []),
  (119, .lstore 9, 121, [], []),
  (121, .aload_n 0, 122, [0], []),
  (122, .iconst (-1), 123, [], [(-1)]),
  (123, .putfield 74, 126, [], []),
  (126, .iload 5, 128, [], []),
  (128, .iconst (-1), 129, [], [(-1)]),
  (129, .if_icmp .eq 11, 132, [140], []),
  (132, .lload 9, 134, [], []),
  (134, .lload 6, 136, [], []),
  (136, .lcmp, 137, [], []),
  (137, .ifCond .ge 11, 140, [148], []),
  (140, .iload 8, 142, [], []),
  (142, .istore 5, 144, [], []),
  (144, .lload 9, 146, [], []),
  (146, .lstore 6, 148, [], []),
  (148, .iinc 8 1, 151, [], [1]),
  (151, .goto (-88), 154, [63], []),
  (154, .iload_n 3, 155, [3], []),
  (155, .ifCond .ne 9, 158, [164], []),
  (158, .iload 5, 160, [], []),
  (160, .i2l, 161, [], []),
  (161, .goto 5, 164, [166], []),
  (164, .lload 6, 166, [], []),
  (166, .lreturn, 167, [], [])]
theorem zo_X12_next_ : ab_ok cX12_next_ zp_X12_next_ = true := by decide +kernel
def zg_X12_next_ : ab_G := (zw_M, [], zf_X12, zc_X12, [], [(268, 2, zt_X12_isMan), (311, 1, zt_X12_walk), (337, 2, zt_X12_runAll)], [(175, 3, zt_X12_in)])
theorem zm_X12_next_ : ab_MG zg_X12_next_ := ab_MGof (List.forall_mem_cons.mpr ⟨ab_pure_mono _, List.forall_mem_cons.mpr ⟨zt_X12_walk_mono, List.forall_mem_cons.mpr ⟨zt_X12_runAll_mono, List.forall_mem_nil _⟩⟩⟩) (List.forall_mem_cons.mpr ⟨ab_pure_mono _, List.forall_mem_nil _⟩)
abbrev zr_X12_next_ (Q : ab_R) : ab_K := ab_Run zg_X12_next_ zp_X12_next_ (some .long) 11 Q
set_option maxRecDepth 20000 in
theorem zv_X12_next__0 {Q : ab_R} {M : ab_M} {N : ab_N} (l1 : Int32) (l2 : Int32) (l3 : Int32) (h : ((ab_b (0 ≤ l1 ∧ l1 ≤ (M 0) 12 - 1)) = 0 → Q (some (.long (-4611686018427387904 : Int64))) M N) ∧ (¬ ((ab_b (0 ≤ l1 ∧ l1 ≤ (M 0) 12 - 1)) = 0) → ((ab_b ((1 : Int32) ≤ l2 ∧ l2 ≤ ((M 0 0) - (1 : Int32)))) = 0 → Q (some (.long (-4611686018427387904 : Int64))) M N) ∧ (¬ ((ab_b ((1 : Int32) ≤ l2 ∧ l2 ≤ ((M 0 0) - (1 : Int32)))) = 0) → ((ab_b ((0 : Int32) ≤ l3 ∧ l3 ≤ (1 : Int32))) = 0 → Q (some (.long (-4611686018427387904 : Int64))) M N) ∧ (¬ ((ab_b ((0 : Int32) ≤ l3 ∧ l3 ≤ (1 : Int32))) = 0) → zt_X12_walk [.ref 0] M N (fun r M2 N2 => zr_X12_next_ Q 39 [some (.ref 0), some (.int l1), some (.int l2), some (.int l3), none, none, none, none, none, none, none] (ab_ol r []) M2 N2))))) : zr_X12_next_ Q 0 [some (.ref 0), some (.int l1), some (.int l2), some (.int l3)] [] M N := ab_Run_s zm_X12_next_ (sp := [(39, [true, true, true, true, false, false, false, false, false, false, false]), (63, [true, true, true, true, true, true, true, false, true, false, false]), (119, [true, true, true, true, true, true, true, false, true, false, false])]) 95 h
set_option maxRecDepth 20000 in
theorem zv_X12_next__39 {Q : ab_R} {M : ab_M} {N : ab_N} (l1 : Int32) (l2 : Int32) (l3 : Int32) (h : vp_in ((((12 : Int32) * l1) + l2) - (1 : Int32)) 60 ∧ (zr_X12_next_ Q 63 [some (.ref 0), some (.int l1), some (.int l2), some (.int l3), some (.int (M 28 ((((12 : Int32) * l1) + l2) - (1 : Int32)).toNatClampNeg)), some (.int (-1 : Int32)), some (.long (0 : Int64)), none, some (.int (0 : Int32)), none, none] [] M N)) : zr_X12_next_ Q 39 [some (.ref 0), some (.int l1), some (.int l2), some (.int l3), none, none, none, none, none, none, none] [] M N := ab_Run_s zm_X12_next_ (sp := [(39, [true, true, true, true, false, false, false, false, false, false, false]), (63, [true, true, true, true, true, true, true, false, true, false, false]), (119, [true, true, true, true, true, true, true, false, true, false, false])]) 95 h
set_option maxRecDepth 20000 in
theorem zv_X12_next__63 {Q : ab_R} {M : ab_M} {N : ab_N} (l1 : Int32) (l2 : Int32) (l3 : Int32) (l4 : Int32) (l5 : Int32) (l6 : Int64) (l8 : Int32) (h : ((M 0 7) ≤ l8 → (l3 = 0 → Q (some (.long (l5.toInt64))) M N) ∧ (¬ (l3 = 0) → Q (some (.long l6)) M N)) ∧ (¬ ((M 0 7) ≤ l8) → vp_in l1 5 ∧ (vp_in l1 5 ∧ (((ab_b ((l4 - (M 9 l1.toNatClampNeg)) ≤ l8 ∧ l8 ≤ (l4 + (M 9 l1.toNatClampNeg)))) = 0 → zr_X12_next_ Q 63 [some (.ref 0), some (.int l1), some (.int l2), some (.int l3), some (.int l4), some (.int l5), some (.long l6), none, some (.int (l8 + (1 : Int32))), none, none] [] M N) ∧ (¬ ((ab_b ((l4 - (M 9 l1.toNatClampNeg)) ≤ l8 ∧ l8 ≤ (l4 + (M 9 l1.toNatClampNeg)))) = 0) → let z1 : Nat → Int32 := upd (M 0) 27 l1; let z2 : Nat → Int32 := upd (z1) 28 l2; let z3 : Nat → Int32 := upd (z2) 29 l8; zt_X12_runAll [.ref 0, .int (0 : Int32)] (ab_u (ab_u (ab_u M 0 z1) 0 z2) 0 z3) N (fun r M2 N2 => zr_X12_next_ Q 119 [some (.ref 0), some (.int l1), some (.int l2), some (.int l3), some (.int l4), some (.int l5), some (.long l6), none, some (.int l8), none, none] (ab_ol r []) M2 N2)))))) : zr_X12_next_ Q 63 [some (.ref 0), some (.int l1), some (.int l2), some (.int l3), some (.int l4), some (.int l5), some (.long l6), none, some (.int l8), none, none] [] M N := ab_Run_s zm_X12_next_ (sp := [(39, [true, true, true, true, false, false, false, false, false, false, false]), (63, [true, true, true, true, true, true, true, false, true, false, false]), (119, [true, true, true, true, true, true, true, false, true, false, false])]) 95 h
set_option maxRecDepth 20000 in
theorem zv_X12_next__119 {Q : ab_R} {M : ab_M} {N : ab_N} (l1 : Int32) (l2 : Int32) (l3 : Int32) (l4 : Int32) (l5 : Int32) (l6 : Int64) (l8 : Int32) (s0 : Int64) (h : let z1 : Nat → Int32 := upd (M 0) 27 (-1 : Int32); (l5 = (-1 : Int32) → zr_X12_next_ Q 63 [some (.ref 0), some (.int l1), some (.int l2), some (.int l3), some (.int l4), some (.int l8), some (.long s0), none, some (.int (l8 + (1 : Int32))), none, none] [] (ab_u M 0 z1) N) ∧ (¬ (l5 = (-1 : Int32)) → (0 ≤ (lg_cmp s0 l6) → zr_X12_next_ Q 63 [some (.ref 0), some (.int l1), some (.int l2), some (.int l3), some (.int l4), some (.int l5), some (.long l6), none, some (.int (l8 + (1 : Int32))), none, none] [] (ab_u M 0 z1) N) ∧ (¬ (0 ≤ (lg_cmp s0 l6)) → zr_X12_next_ Q 63 [some (.ref 0), some (.int l1), some (.int l2), some (.int l3), some (.int l4), some (.int l8), some (.long s0), none, some (.int (l8 + (1 : Int32))), none, none] [] (ab_u M 0 z1) N))) : zr_X12_next_ Q 119 [some (.ref 0), some (.int l1), some (.int l2), some (.int l3), some (.int l4), some (.int l5), some (.long l6), none, some (.int l8), none, none] [.long s0] M N := ab_Run_s zm_X12_next_ (sp := [(39, [true, true, true, true, false, false, false, false, false, false, false]), (63, [true, true, true, true, true, true, true, false, true, false, false]), (119, [true, true, true, true, true, true, true, false, true, false, false])]) 95 h
theorem zL_X12_next_ {Q : ab_R} {d M0 : ab_M} {N0 : ab_N} {w : Int32} {m h f0 : Nat} (hR : zRN d M0) (h27 : M0 0 27 = -1) (hm : m < zMen d) (hh : h < zHrs d) (hf : f0 < zPcs d) (ef : (zWk d (h - 1)).1 m = nI f0) (hk : ∀ M N, zFr (0 :: zSL) M0 M → (∀ j, j ≠ 28 → j ≠ 29 → M 0 j = M0 0 j) → zNfr [0, 32] N0 N → Q (some (.long (if w = 0 then (zNxS d m h (zPcs d)).1.toInt64 else (zNxS d m h (zPcs d)).2))) M N) : ∀ (r p : Nat) (M : ab_M) (N : ab_N) (x : Int32) (y : Int64), p + r = zPcs d → zFr (0 :: zSL) M0 M → (∀ j, j ≠ 28 → j ≠ 29 → M 0 j = M0 0 j) → zNfr [0, 32] N0 N → zRl (-1) (zNxS d m h p) x y → zr_X12_next_ Q 63 [some (.ref 0), some (.int (nI m)), some (.int (nI h)), some (.int w), some (.int (nI f0)), some (.int x), some (.long y), none, some (.int (nI p)), none, none] [] M N := by
  obtain ⟨n7, p8, n12, m5, n0, h1, h12, -⟩ := zNI_n hR
  have hin : vp_in (nI m) 5 := nI_in_ (by omega)
  have cm : (nI m).toNatClampNeg = m := nI_clamp (by omega)
  have b9 : d 28 = M0 9 := hR.1.2.1.2.2.2.2.2.2.2.2.1
  obtain ⟨pv, p1, p2⟩ : ∃ pv : Nat, pv < 4 ∧ d 28 m = nI pv := by
    obtain ⟨-, -, -, ⟨a, b⟩, -⟩ := hR.2.2.1 m hm
    obtain ⟨q, q1, q2⟩ := zIxM (n := 3) (by decide) ⟨Int32.le_trans (by decide) a, b⟩
    exact ⟨q, by omega, q2⟩
  intro r
  induction r with
  | zero =>
    intro p M N x y hr hF e0 hN hl
    have e : p = zPcs d := by omega
    subst e
    have n7 : M 0 7 = nI (zPcs d) := by rw [e0 7 (by decide) (by decide)]; exact n7
    have nn := (zFo_c (g := fun p => zAll (zPuD d (nI m) (nI h) (nI p))) (nm := nI) (ok := fun p => decide (zAbs (nI p - (zWk d (h - 1)).1 m) ≤ d 28 m)) (s := (-1, 1000000000000000000)) (p0 := f0) (fun _ => rfl) (by
      show decide _ = true
      rw [ef, p2]
      refine decide_eq_true ?_
      rw [Int32.sub_self]
      exact nI_pos' (by omega)) (zPcs d) (fun k hk => ⟨nI_m1 (by omega), zAll_lt (zI0_6 hR.2.1 _ (by decide))⟩)).2 (Or.inl hf)
    have hk := hk M N hF e0 hN
    refine zv_X12_next__63 _ _ _ _ _ _ _ ⟨fun _ => ?_, fun c => absurd (by rw [n7]; exact nI_le (Nat.le_refl _) (by omega)) c⟩
    rcases hl with ⟨q, -⟩ | ⟨-, -, q1, q2⟩
    · exact absurd q nn
    · rw [q1, q2]
      refine ⟨fun c => ?_, fun c => ?_⟩
      · rw [if_pos c] at hk; exact hk
      · rw [if_neg c] at hk; exact hk
  | succ r ih =>
    intro p M N x y hr hF e0 hN hl
    have n7 : M 0 7 = nI (zPcs d) := by rw [e0 7 (by decide) (by decide)]; exact n7
    have es : zNxS d m h (p + 1) = if decide (zAbs (nI p - (zWk d (h - 1)).1 m) ≤ d 28 m) = true then zOf (zNxS d m h p) (nI p) (zAll (zPuD d (nI m) (nI h) (nI p))) else zNxS d m h p := rfl
    rw [ef, p2, ← zNear f0 (by omega) p (by omega) pv p1] at es
    refine zv_X12_next__63 _ _ _ _ _ _ _ ?_
    rw [n7, cm, hF 9 (by decide), ← b9, p2]
    refine ⟨fun c => absurd c (nI_ge (by omega) (by omega)), fun _ => ⟨hin, hin, fun c => ?_, fun c => ?_⟩⟩
    · rw [nI_1]
      refine ih (p + 1) M N x y (by omega) hF e0 hN ?_
      rw [es, if_neg (fun z => ab_b_0.mp c (of_decide_eq_true z))]
      exact hl
    · rw [if_pos (decide_eq_true (zIx0 c))] at es
      intro z1 z2 z3
      rw [ab_u_u, ab_u_u]
      have ez : z3 = upd (upd (upd (M0 0) 27 (nI m)) 28 (nI h)) 29 (nI p) := by
        simp only [z3, z2, z1]
        funext j
        by_cases c3 : j = 29
        · rw [c3, upd_eq, upd_eq]
        · rw [upd_ne _ _ c3, upd_ne _ _ c3]
          by_cases c2 : j = 28
          · rw [c2, upd_eq, upd_eq]
          · rw [upd_ne _ _ c2, upd_ne _ _ c2]
            by_cases c1 : j = 27
            · rw [c1, upd_eq, upd_eq]
            · rw [upd_ne _ _ c1, upd_ne _ _ c1, e0 j c2 c3]
      clear_value z3
      subst ez
      have hR1 : zRN (zPuD d (nI m) (nI h) (nI p)) (ab_u M0 0 (upd (upd (upd (M0 0) 27 (nI m)) 28 (nI h)) 29 (nI p))) := zRN_put hR (nI m) (nI h) (nI p) (zI1_pu hR.2.1 hR.2.2.1 (by omega) _ _)
      have hR2 : zRN (zPuD d (nI m) (nI h) (nI p)) (ab_u M 0 (upd (upd (upd (M0 0) 27 (nI m)) 28 (nI h)) 29 (nI p))) := zRN_zfr hR1 (zFr_same hF _) (by decide)
      refine zRA hR2 (fun M2 N2 f1 f2 => zv_X12_next__119 _ _ _ _ _ _ _ _ ?_)
      intro z1
      have e2 : ∀ j, j ≠ 28 → j ≠ 29 → ab_u M2 0 z1 0 j = M0 0 j := fun j a b => by
        rw [ab_u_eq]
        show upd (M2 0) 27 (-1) j = _
        by_cases c1 : j = 27
        · rw [c1, upd_eq, h27]
        · rw [upd_ne _ _ c1, f1 0 (by decide), ab_u_eq, upd_ne _ _ b, upd_ne _ _ a, upd_ne _ _ c1]
      obtain ⟨s1, s2⟩ := zRl_step (i := nI p) hl (nI_m1 (by omega)) (nI_m1 (by omega)) (zAll_lt hR2.2.1)
      have go := fun a2 y2 (q : zRl (-1) (zOf (zNxS d m h p) (nI p) (zAll (zPuD d (nI m) (nI h) (nI p)))) a2 y2) => ih (p + 1) (ab_u M2 0 z1) N2 a2 y2 (by omega) (zFr_u (zFr_tr (zFr_u hF (by decide) _) (zFr_mono f1 (by decide))) (by decide) _) e2 (zNfr_tr hN f2) (by rw [es]; exact q)
      rw [nI_1]
      exact ⟨fun c => go _ _ (s1 c), fun c => ⟨fun c2 => go _ _ ((s2 c).1 c2), fun c2 => go _ _ ((s2 c).2 c2)⟩⟩
theorem zE_X12_next_ (as : List Value) (M : ab_M) (N : ab_N) (k : ab_R) (hT : zt_X12_next_ as M N k) : ab_cs as ≤ 11 ∧ zr_X12_next_ k 0 (ab_en as) [] M N := by
  obtain ⟨⟨d, l1, l2, w⟩, q, rfl, ⟨rfl, hR, h27⟩, hk⟩ := hT
  dsimp only at hR h27 hk ⊢
  obtain ⟨n7, p8, n12, m5, n0, h1, h12, -⟩ := zNI_n hR
  have hk := fun M2 N2 hF h0 hN => hk _ M2 N2 ⟨hF, h0, hN, rfl⟩
  unfold zNxA at hk
  have ec : (1 ≤ l2 ∧ l2 ≤ nI (zHrs d) - 1) ↔ zHasN l2 (zHrs d) ∧ ¬ l2 = 0 := by
    unfold zHasN
    grind
  refine ⟨Nat.le_of_ble_eq_true rfl, zv_X12_next__0 _ _ _ ?_⟩
  rw [n12, n0]
  refine ⟨fun c => ?_, fun c => ⟨fun c2 => ?_, fun c2 => ⟨fun c3 => ?_, fun c3 => ⟨d, _, rfl, ⟨rfl, hR⟩, ?_⟩⟩⟩⟩
  · have hk := hk M N (zFr_rf _ _) (fun _ _ _ => rfl) (zNfr_rf _ _)
    rw [if_neg (ab_b_0.mp c)] at hk
    exact hk
  · have hk := hk M N (zFr_rf _ _) (fun _ _ _ => rfl) (zNfr_rf _ _)
    have c2 := fun z => ab_b_0.mp c2 (ec.mpr z)
    rw [if_pos (zIx0 c)] at hk
    by_cases q1 : zHasN l2 (zHrs d)
    · by_cases q2 : l2 = 0
      · rw [if_pos q1, if_pos q2] at hk; exact hk
      · exact absurd ⟨q1, q2⟩ c2
    · rw [if_neg q1] at hk; exact hk
  · have hk := hk M N (zFr_rf _ _) (fun _ _ _ => rfl) (zNfr_rf _ _)
    obtain ⟨q1, q2⟩ := ec.mp (zIx0 c2)
    rw [if_pos (zIx0 c), if_pos q1, if_neg q2, if_neg (ab_b_0.mp c3)] at hk
    exact hk
  · rintro o M2 N2 ⟨rfl, rfl, g1, g2⟩
    have a1 := zIx0 c
    obtain ⟨q1, q2⟩ := ec.mp (zIx0 c2)
    rw [if_pos a1, if_pos q1, if_neg q2, if_pos (zIx0 c3)] at hk
    obtain ⟨km, y1, rfl⟩ := zIxN (by omega) a1
    obtain ⟨kh, y2, rfl⟩ := zIxN (by omega) q1
    have e0 : ¬ kh = 0 := fun z => q2 (by rw [z]; rfl)
    rw [nI_clamp (show km < 2 ^ 31 by omega), nI_clamp (show kh < 2 ^ 31 by omega)] at hk
    obtain ⟨f0, hf, ef⟩ := zWk_nat hR.2.1 hR.2.2.1 y1 (kh - 1)
    have ei : (12 : Int32) * nI km + nI kh - 1 = nI (12 * km + (kh - 1)) := by
      rw [show (12 : Int32) = nI 12 from rfl, pk_mul, nI_add, show 12 * km + kh = (12 * km + (kh - 1)) + 1 by omega, nI_pred]
    refine zv_X12_next__39 _ _ _ ?_
    rw [ei, nI_clamp (show 12 * km + (kh - 1) < 2 ^ 31 by omega), (g2 (kh - 1) (by omega)).1 km y1, ef]
    refine ⟨nI_in_ (by omega), ?_⟩
    exact zL_X12_next_ (f0 := f0) (zRN_zfr hR g1 (by decide)) (by rw [g1 0 (by decide)]; exact h27) y1 y2 hf ef (fun M3 N3 a b c => hk M3 N3 (zFr_tr (zFr_mono g1 (by decide)) a) (fun j x y => by rw [b j x y, g1 0 (by decide)]) c) (zPcs d) 0 M2 N2 (-1) 0 (by omega) (zFr_rf _ _) (fun _ _ _ => rfl) (zNfr_rf _ _) (zRl_0 _)
abbrev zR_X12_next_ : Room := { frames := 8, cells := 0, slots := 0, locals := 190 }
set_option maxRecDepth 20000 in
theorem zM_X12_next_ (l : Launch) : ab_Met l zw_M vwCl zZ_M yX12_next_ cX12_next_ 11 (some .long) zR_X12_next_ zt_X12_next_ := ab_ofRun (G := zg_X12_next_) (P := zp_X12_next_) rfl zo_X12_next_ (by decide +kernel) zl_cl zl_lamM zf_X12_ok ab_Tab_nil zc_X12_ok ab_Sta_nil (List.forall_mem_cons.mpr ⟨ab_callV zZ_M_ok (zM_X12_isMan l) (ab_in 1301 (by decide +kernel) rfl) (ab_in 1298 (by decide +kernel) rfl) (ab_in 1300 (by decide +kernel) rfl) (ab_inS (List.mem_of_getElem? (i := 39) (by decide +kernel)) rfl) (ab_in 17 (by decide +kernel) rfl) (by unfold ab_yok; decide +kernel) ⟨rfl, rfl⟩ (by decide) zV_X12_isMan, List.forall_mem_cons.mpr ⟨ab_callV zZ_M_ok (zM_X12_walk l) (ab_in 1317 (by decide +kernel) rfl) (ab_in 1314 (by decide +kernel) rfl) (ab_in 1316 (by decide +kernel) rfl) (ab_inS (List.mem_of_getElem? (i := 41) (by decide +kernel)) rfl) (ab_in 17 (by decide +kernel) rfl) (by unfold ab_yok; decide +kernel) ⟨rfl, rfl⟩ (by decide) zV_X12_walk, List.forall_mem_cons.mpr ⟨ab_callV zZ_M_ok (zM_X12_runAll l) (ab_in 1372 (by decide +kernel) rfl) (ab_in 1369 (by decide +kernel) rfl) (ab_in 1371 (by decide +kernel) rfl) (ab_inS (List.mem_of_getElem? (i := 50) (by decide +kernel)) rfl) (ab_in 17 (by decide +kernel) rfl) (by unfold ab_yok; decide +kernel) ⟨rfl, rfl⟩ (by decide) zV_X12_runAll, List.forall_mem_nil _⟩⟩⟩) (List.forall_mem_cons.mpr ⟨ab_callS zZ_M_ok (zM_X12_in l) (ab_in 1200 (by decide +kernel) rfl) (ab_in 1198 (by decide +kernel) rfl) (ab_in 1199 (by decide +kernel) rfl) (ab_in 17 (by decide +kernel) rfl) (by unfold ab_yok; decide +kernel) ⟨rfl, rfl⟩ (by decide), List.forall_mem_nil _⟩) zE_X12_next_
