/-! the class: next, worst, drawn *)
-/
def zPuD (d : ab_M) (m h p : Int32) : ab_M := ab_u d 6 (upd (upd (upd (d 6) 8 m) 9 h) 10 p)
def zNxS (d : ab_M) (m h n : Nat) : Int32 × Int64 := zFo (fun p => zAll (zPuD d (nI m) (nI h) (nI p))) nI (fun p => decide (zAbs (nI p - (zWk d (h - 1)).1 m) ≤ d 28 m)) (-1, 1000000000000000000) n
def zNxA (d : ab_M) (l1 l2 l3 : Int32) : Int64 := if zHasN l1 (zMen d) then (if zHasN l2 (zHrs d) then (if l2 = 0 then zNO else (if 0 ≤ l3 ∧ l3 ≤ 1 then (if l3 = 0 then (zNxS d l1.toNatClampNeg l2.toNatClampNeg (zPcs d)).1.toInt64 else (zNxS d l1.toNatClampNeg l2.toNatClampNeg (zPcs d)).2) else zNO)) else zNO) else zNO
theorem zI1_pu {d : ab_M} (h0 : zI0 d) (h : zI1 d) {p : Nat} (hp : p < zPcs d) (m g : Int32) : zI1 (zPuD d m g (nI p)) := by
  obtain ⟨hP, hP8⟩ := zP_eq h0
  have e : ∀ c, c ≠ 6 → zPuD d m g (nI p) c = d c := fun c hc => ab_u_ne _ _ hc
  have e10 : zPuD d m g (nI p) 6 10 = nI p := by unfold zPuD; rw [ab_u_eq, upd_eq]
  unfold zI1 zMen at h ⊢
  rw [e 1 (by decide), e 2 (by decide), e 25 (by decide), e 26 (by decide), e 27 (by decide), e 28 (by decide), e 29 (by decide), e10, hP]
  rw [hP] at h
  intro q hq
  obtain ⟨a1, a2, a3, a4, a5, a6⟩ := h q hq
  exact ⟨a1, a2, a3, a4, a5, fun _ => ⟨nI_pos' (by omega), nI_lt hp (by omega)⟩⟩
def zt_X11_next : ab_T := ab_m3 0 (fun _ _ _ M _ => zNight M ∧ zT6 M) (fun a b c M N o M2 N2 => zFr (6 :: zQc) M M2 ∧ zAsks M2 ∧ zT6 M2 ∧ o = some (.long (zNxA M a b c)))
theorem zt_X11_next_mono : ab_mono zt_X11_next := ab_m3_mono _ _ _
theorem zV_X11_next : ab_recv zw_C vwCl RX11 zt_X11_next := ab_m3_v rfl rfl
def zp_X11_next : ab_P := [(0, .aload_n 0, 1, [0], []),
  (1, .getfield 19, 4, [], []),
  (4, .iload_n 1, 5, [1], []),
  (5, .invokevirtual 179, 8, [], []),
  (8, .ifCond .eq 27, 11, [35], []),
  (11, .aload_n 0, 12, [0], []),
  (12, .getfield 10, 15, [], []),
  (15, .iload_n 2, 16, [2], []),
  (16, .invokevirtual 195, 19, [], []),
  (19, .ifCond .eq 16, 22, [35], []),
  (22, .iload_n 2, 23, [2], []),
  (23, .ifCond .eq 12, 26, [35], []),
  (26, .iload_n 3, 27, [3], []),
  (27, .iconst 0, 28, [], [0]),
  (28, .iconst 1, 29, [], [1]),
  (29, .invokestatic 117, 32, [], []),
  (32, .ifCond .ne 7, 35, [39], []),
  (35, .ldc2_w 218, 38, [], []),
  (38, .lreturn, 39, [], []),
  (39, .aload_n 0, 40, [0], []),
  (40, .getfield 53, 43, [], []),
  (43, .invokevirtual 198, 46, [], []),
  (46, .aload_n 0, 47, [0], []),
  (47, .getfield 53, 50, [], []),
  (50, .iload_n 1, 51, [1], []),
  (51, .iload_n 2, 52, [2], []),
  (52, .iconst 1, 53, [], [1]),
  (53, .isub, 54, [], []),
  (54, .invokevirtual 201, 57, [], []),
  (57, .istore 4, 59, [], []),
  (59, .aload_n 0, 60, [0], []),
  (60, .getfield 53, 63, [], []),
  (63, .iload_n 1, 64, [1], []),
  (64, .putfield 261, 67, [], []),
  (67, .aload_n 0, 68, [0], []),
  (68, .getfield 53, 71, [], []),
  (71, .iload_n 2, 72, [2], []),
  (72, .putfield 264, 75, [], []),
  (75, .aload_n 0, 76, [0], []),
  (76, .getfield 90, 79, [], []),
  (79, .ldc2_w 259, 82, [], []),
  (82, .invokevirtual 231, 85, [], []),
  (85, .iconst 0, 86, [], [0]),
  (86, .istore 5, 88, [], []),
  (88, .iload 5, 90, [], []),
  (90, .aload_n 0, 91, [0], []),
  (91, .getfield 10, 94, [], []),
  (94, .getfield 121, 97, [], []),
  (97, .if_icmp .ge 51, 100, [148], []),
  (100, .iload 5, 102, [], []),
  (102, .iload 4, 104, [], []),
  (104, .isub, 105, [], []),
  (105, .invokestatic 267, 108, [], []),
  (108, .aload_n 0, 109, [0], []),
  (109, .getfield 19, 112, [], []),
  (112, .getfield 180, 115, [], []),
  (115, .iload_n 1, 116, [1], []),
  (116, .iaload, 117, [], []),
  (117, .if_icmp .gt 25, 120, [142], []),
  (120, .aload_n 0, 121, [0], []),
  (121, .getfield 53, 124, [], []),
  (124, .iload 5, 126, [], []),
  (126, .putfield 272, 129, [], []),
  (129, .aload_n 0, 130, [0], []),
  (130, .getfield 90, 133, [], []),
  (133, .iload 5, 135, [], []),
  (135, .aload_n 0, 136, [0], []),
  (136, .invokevirtual 242, 139, [], []),
  (139, .invokevirtual 235, 142, [], []),
  (142, .iinc 5 1, 145, [], [1]),
  (145, .goto (-57), 148, [88], []),
  (148, .aload_n 0, 149, [0], []),
  (149, .getfield 53, 152, [], []),
  (152, .iconst (-1), 153, [], [(-1)]),
  (153, .putfield 261, 156, [], []),
  (156, .iload_n 3, 157, [3], []),
  (157, .ifCond .ne 14, 160, [171], []),
  (160, .aload_n 0, 161, [0], []),
  (161, .getfield 90, 164, [], []),
  (164, .getfield 239, 167, [], []),
  (167, .i2l, 168, [], []),
  (168, .goto 10, 171, [178], []),
  (171, .aload_n 0, 172, [0], []),
  (172, .getfield 90, 175, [], []),
  (175, .getfield 252, 178, [], []),
  (178, .lreturn, 179, [], [])]
theorem zo_X11_next : ab_ok cX11_next zp_X11_next = true := by decide +kernel
def zg_X11_next : ab_G := (zw_C, zs_tab, zf_X11, zc_X11, [(144, 50), (147, 51)], [(179, 2, zt_X5_has), (195, 2, zt_X2_hasHour), (198, 1, zt_X10_go), (201, 3, zt_X10_placeOf), (231, 2, zt_X0_begin), (235, 3, zt_X0_offer), (242, 1, zt_X11_allHarm)], [(117, 3, zt_X11_within), (267, 1, zt_abs)])
theorem zm_X11_next : ab_MG zg_X11_next := ab_MGof (List.forall_mem_cons.mpr ⟨ab_pure_mono _, List.forall_mem_cons.mpr ⟨ab_pure_mono _, List.forall_mem_cons.mpr ⟨zt_X10_go_mono, List.forall_mem_cons.mpr ⟨ab_pp_mono _, List.forall_mem_cons.mpr ⟨zt_X0_begin_mono, List.forall_mem_cons.mpr ⟨zt_X0_offer_mono, List.forall_mem_cons.mpr ⟨zt_X11_allHarm_mono, List.forall_mem_nil _⟩⟩⟩⟩⟩⟩⟩) (List.forall_mem_cons.mpr ⟨ab_pure_mono _, List.forall_mem_cons.mpr ⟨ab_pure_mono _, List.forall_mem_nil _⟩⟩)
abbrev zr_X11_next (Q : ab_R) : ab_K := ab_Run zg_X11_next zp_X11_next (some .long) 6 Q
set_option maxRecDepth 20000 in
theorem zv_X11_next_0 {Q : ab_R} {M : ab_M} {N : ab_N} (l1 : Int32) (l2 : Int32) (l3 : Int32) (h : ((ab_b (0 ≤ l1 ∧ l1 < (M 2) 6 ∧ l1 < 5)) = 0 → Q (some (.long (-4611686018427387904 : Int64))) M N) ∧ (¬ ((ab_b (0 ≤ l1 ∧ l1 < (M 2) 6 ∧ l1 < 5)) = 0) → ((ab_b (0 ≤ l2 ∧ l2 < (M 17) 0 ∧ l2 < 12)) = 0 → Q (some (.long (-4611686018427387904 : Int64))) M N) ∧ (¬ ((ab_b (0 ≤ l2 ∧ l2 < (M 17) 0 ∧ l2 < 12)) = 0) → (l2 = 0 → Q (some (.long (-4611686018427387904 : Int64))) M N) ∧ (¬ (l2 = 0) → ((ab_b ((0 : Int32) ≤ l3 ∧ l3 ≤ (1 : Int32))) = 0 → Q (some (.long (-4611686018427387904 : Int64))) M N) ∧ (¬ ((ab_b ((0 : Int32) ≤ l3 ∧ l3 ≤ (1 : Int32))) = 0) → zt_X10_go [.ref 6] M N (fun r M2 N2 => zr_X11_next Q 46 [some (.ref 0), some (.int l1), some (.int l2), some (.int l3), none, none] (ab_ol r []) M2 N2)))))) : zr_X11_next Q 0 [some (.ref 0), some (.int l1), some (.int l2), some (.int l3)] [] M N := ab_Run_s zm_X11_next (sp := [(46, [true, true, true, true, false, false]), (85, [true, true, false, true, true, false]), (88, [true, true, false, true, true, true]), (139, [true, true, false, true, true, true]), (142, [true, true, false, true, true, true])]) 88 h
set_option maxRecDepth 20000 in
theorem zv_X11_next_46 {Q : ab_R} {M : ab_M} {N : ab_N} (l1 : Int32) (l2 : Int32) (l3 : Int32) (h : (vp_in ((l2 - (1 : Int32)) * 5 + l1) 60) ∧ (let z1 : Nat → Int32 := upd (M 6) 8 l1; let z2 : Nat → Int32 := upd (z1) 9 l2; zt_X0_begin [.ref 11, .long (1000000000000000000 : Int64)] (ab_u (ab_u M 6 z1) 6 z2) N (fun r M2 N2 => zr_X11_next Q 85 [some (.ref 0), some (.int l1), none, some (.int l3), some (.int ((M 37) ((l2 - (1 : Int32)) * 5 + l1).toNatClampNeg)), none] (ab_ol r []) M2 N2))) : zr_X11_next Q 46 [some (.ref 0), some (.int l1), some (.int l2), some (.int l3), none, none] [] M N := ab_Run_s zm_X11_next (sp := [(46, [true, true, true, true, false, false]), (85, [true, true, false, true, true, false]), (88, [true, true, false, true, true, true]), (139, [true, true, false, true, true, true]), (142, [true, true, false, true, true, true])]) 88 h
set_option maxRecDepth 20000 in
theorem zv_X11_next_85 {Q : ab_R} {M : ab_M} {N : ab_N} (l1 : Int32) (l3 : Int32) (l4 : Int32) (h : zr_X11_next Q 88 [some (.ref 0), some (.int l1), none, some (.int l3), some (.int l4), some (.int (0 : Int32))] [] M N) : zr_X11_next Q 85 [some (.ref 0), some (.int l1), none, some (.int l3), some (.int l4), none] [] M N := ab_Run_s zm_X11_next (sp := [(46, [true, true, true, true, false, false]), (85, [true, true, false, true, true, false]), (88, [true, true, false, true, true, true]), (139, [true, true, false, true, true, true]), (142, [true, true, false, true, true, true])]) 88 h
set_option maxRecDepth 20000 in
theorem zv_X11_next_88 {Q : ab_R} {M : ab_M} {N : ab_N} (l1 : Int32) (l3 : Int32) (l4 : Int32) (l5 : Int32) (h : ((M 1 4) ≤ l5 → let z1 : Nat → Int32 := upd (M 6) 8 (-1 : Int32); (l3 = 0 → Q (some (.long ((M 11 0).toInt64))) (ab_u M 6 z1) N) ∧ (¬ (l3 = 0) → Q (some (.long (N 11 1))) (ab_u M 6 z1) N)) ∧ (¬ ((M 1 4) ≤ l5) → vp_in l1 5 ∧ (((M 28 l1.toNatClampNeg) < (if 0 ≤ (l5 - l4) then (l5 - l4) else 0 - (l5 - l4)) → zr_X11_next Q 142 [some (.ref 0), some (.int l1), none, some (.int l3), some (.int l4), some (.int l5)] [] M N) ∧ (¬ ((M 28 l1.toNatClampNeg) < (if 0 ≤ (l5 - l4) then (l5 - l4) else 0 - (l5 - l4))) → let z2 : Nat → Int32 := upd (M 6) 10 l5; zt_X11_allHarm [.ref 0] (ab_u M 6 z2) N (fun r M2 N2 => zr_X11_next Q 139 [some (.ref 0), some (.int l1), none, some (.int l3), some (.int l4), some (.int l5)] (ab_ol r [.int l5, .ref 11]) M2 N2))))) : zr_X11_next Q 88 [some (.ref 0), some (.int l1), none, some (.int l3), some (.int l4), some (.int l5)] [] M N := ab_Run_s zm_X11_next (sp := [(46, [true, true, true, true, false, false]), (85, [true, true, false, true, true, false]), (88, [true, true, false, true, true, true]), (139, [true, true, false, true, true, true]), (142, [true, true, false, true, true, true])]) 88 h
set_option maxRecDepth 20000 in
theorem zv_X11_next_139 {Q : ab_R} {M : ab_M} {N : ab_N} (l1 : Int32) (l3 : Int32) (l4 : Int32) (l5 : Int32) (s1 : Int32) (s2 : Int64) (h : zt_X0_offer [.ref 11, .int s1, .long s2] M N (fun r M2 N2 => zr_X11_next Q 142 [some (.ref 0), some (.int l1), none, some (.int l3), some (.int l4), some (.int l5)] (ab_ol r []) M2 N2)) : zr_X11_next Q 139 [some (.ref 0), some (.int l1), none, some (.int l3), some (.int l4), some (.int l5)] [.long s2, .int s1, .ref 11] M N := ab_Run_s zm_X11_next (sp := [(46, [true, true, true, true, false, false]), (85, [true, true, false, true, true, false]), (88, [true, true, false, true, true, true]), (139, [true, true, false, true, true, true]), (142, [true, true, false, true, true, true])]) 88 h
set_option maxRecDepth 20000 in
theorem zv_X11_next_142 {Q : ab_R} {M : ab_M} {N : ab_N} (l1 : Int32) (l3 : Int32) (l4 : Int32) (l5 : Int32) (h : zr_X11_next Q 88 [some (.ref 0), some (.int l1), none, some (.int l3), some (.int l4), some (.int (l5 + (1 : Int32)))] [] M N) : zr_X11_next Q 142 [some (.ref 0), some (.int l1), none, some (.int l3), some (.int l4), some (.int l5)] [] M N := ab_Run_s zm_X11_next (sp := [(46, [true, true, true, true, false, false]), (85, [true, true, false, true, true, false]), (88, [true, true, false, true, true, true]), (139, [true, true, false, true, true, true]), (142, [true, true, false, true, true, true])]) 88 h
theorem zL_X11_next {Q : ab_R} {d : ab_M} {w : Int32} {m h : Nat} (hN : zNight d) (h6 : zT6 d) (hm : m < zMen d) (hk : ∀ M N, zFr (6 :: zQc) d M → zAsks M → zT6 M → Q (some (.long (if w = 0 then (zNxS d m h (zPcs d)).1.toInt64 else (zNxS d m h (zPcs d)).2))) M N) : ∀ (r p : Nat) (M : ab_M) (N : ab_N) (x : Int32), p + r = zPcs d → zFr (6 :: zQc) d M → zAsks M → M 6 = upd (upd (upd (d 6) 8 (nI m)) 9 (nI h)) 10 x → zBst M N (zNxS d m h p) → zr_X11_next Q 88 [some (.ref 0), some (.int (nI m)), none, some (.int w), some (.int ((zWk d (h - 1)).1 m)), some (.int (nI p))] [] M N := by
  obtain ⟨n7, p8, n12, m5, n0, h12, -⟩ := zCn hN
  have hin : vp_in (nI m) 5 := nI_in_ (by omega)
  have cm : (nI m).toNatClampNeg = m := nI_clamp (by omega)
  intro r
  induction r with
  | zero =>
    intro p M N x hr hF hA e6 hb
    have e : p = zPcs d := by omega
    subst e
    have n7 : M 1 4 = nI (zPcs d) := by rw [hF 1 (by decide)]; exact n7
    refine zv_X11_next_88 _ _ _ _ ⟨fun _ => ?_, fun c => absurd (by rw [n7]; exact nI_le (Nat.le_refl _) (by omega)) c⟩
    intro z1
    rw [hb.1, hb.2]
    have q1 : ∀ j, j ≠ 8 → j ≠ 9 → j ≠ 10 → z1 j = d 6 j := fun j a b c => by
      show upd (M 6) 8 (-1) j = _
      rw [upd_ne _ _ a, e6, upd_ne _ _ c, upd_ne _ _ b, upd_ne _ _ a]
    have hk := hk (ab_u M 6 z1) N (zFr_u hF (by decide) _) (zAsks_u hA _ (by decide)) ⟨by rw [ab_u_eq, q1 7 (by decide) (by decide) (by decide)]; exact h6.1, by rw [ab_u_eq]; exact upd_eq _ _ _, by rw [ab_u_eq, q1 11 (by decide) (by decide) (by decide)]; exact h6.2.2⟩
    refine ⟨fun c => ?_, fun c => ?_⟩
    · rw [if_pos c] at hk; exact hk
    · rw [if_neg c] at hk; exact hk
  | succ r ih =>
    intro p M N x hr hF hA e6 hb
    have n7 : M 1 4 = nI (zPcs d) := by rw [hF 1 (by decide)]; exact n7
    have ef : zNxS d m h (p + 1) = if decide (zAbs (nI p - (zWk d (h - 1)).1 m) ≤ d 28 m) = true then zOf (zNxS d m h p) (nI p) (zAll (zPuD d (nI m) (nI h) (nI p))) else zNxS d m h p := rfl
    refine zv_X11_next_88 _ _ _ _ ?_
    rw [n7, cm, hF 28 (by decide)]
    refine ⟨fun c => absurd c (nI_ge (by omega) (by omega)), fun _ => ⟨hin, fun c => ?_, fun c => ?_⟩⟩
    · refine zv_X11_next_142 _ _ _ _ ?_
      rw [nI_1]
      refine ih (p + 1) M N x (by omega) hF hA e6 ?_
      have c2 : ¬ zAbs (nI p - (zWk d (h - 1)).1 m) ≤ d 28 m := Int32.not_le.mpr c
      rw [ef, if_neg (fun z => c2 (of_decide_eq_true z))]
      exact hb
    · rw [if_pos (decide_eq_true (show zAbs (nI p - (zWk d (h - 1)).1 m) ≤ d 28 m from Int32.not_lt.mp c))] at ef
      intro z2
      have ez : z2 = upd (upd (upd (d 6) 8 (nI m)) 9 (nI h)) 10 (nI p) := by simp only [z2]; rw [e6, upd_upd]
      clear_value z2
      subst ez
      refine zAHC (d := zPuD d (nI m) (nI h) (nI p)) (s := zNxS d m h p) (zI0_6 hN.2.1 _ (by decide)) (zI1_pu hN.2.1 hN.2.2 (by omega) _ _) (zFr_same hF _) (zAsks_u hA _ (by decide)) ⟨by rw [ab_u_ne _ _ (by decide)]; exact hb.1, hb.2⟩ (fun M2 N2 f1 f2 f3 => ?_)
      refine zv_X11_next_139 _ _ _ _ _ _ (zOfC f3 (fun M3 N3 f4 f5 => zv_X11_next_142 _ _ _ _ ?_))
      rw [nI_1]
      refine ih (p + 1) M3 N3 (nI p) (by omega) (zFr_tr (zFr_tr (zFr_u hF (by decide) _) (zFr_mono f1 (by decide))) (zFr_mono f4 (by decide))) (zAsks_11 f2 f4) (by rw [f4 6 (by decide), f1 6 (by decide), ab_u_eq]) ?_
      rw [ef]
      exact f5
theorem zE_X11_next (as : List Value) (M : ab_M) (N : ab_N) (k : ab_R) (hT : zt_X11_next as M N k) : ab_cs as ≤ 6 ∧ zr_X11_next k 0 (ab_en as) [] M N := by
  obtain ⟨l1, l2, w, rfl, ⟨hN, h6⟩, hk⟩ := ab_m3_e hT
  obtain ⟨n7, p8, n12, m5, n0, h12, -⟩ := zCn hN
  have hk := fun M2 N2 (hF : zFr (6 :: zQc) M M2) (hA : zAsks M2) (h6 : zT6 M2) => hk _ M2 N2 ⟨hF, hA, h6, rfl⟩
  unfold zNxA at hk
  refine ⟨Nat.le_of_ble_eq_true rfl, zv_X11_next_0 _ _ _ ?_⟩
  rw [n12, n0]
  refine ⟨fun c => ?_, fun c => ⟨fun c2 => ?_, fun c2 => ⟨fun c3 => ?_, fun c3 => ⟨fun c4 => ?_, fun c4 => ab_m0_i hN ?_⟩⟩⟩⟩
  · have hk := hk M N (zFr_rf _ _) hN.1 h6
    rw [if_neg (zIcn m5 rfl (by decide) c)] at hk
    exact hk
  · have hk := hk M N (zFr_rf _ _) hN.1 h6
    rw [if_pos (zIcp m5 rfl (by decide) c), if_neg (zIcn h12 rfl (by decide) c2)] at hk
    exact hk
  · have hk := hk M N (zFr_rf _ _) hN.1 h6
    rw [if_pos (zIcp m5 rfl (by decide) c), if_pos (zIcp h12 rfl (by decide) c2), if_pos c3] at hk
    exact hk
  · have hk := hk M N (zFr_rf _ _) hN.1 h6
    rw [if_pos (zIcp m5 rfl (by decide) c), if_pos (zIcp h12 rfl (by decide) c2), if_neg c3, if_neg (ab_b_0.mp c4)] at hk
    exact hk
  · rintro o M2 N2 ⟨rfl, rfl, g1, gA, g2⟩
    have a1 := zIcp m5 rfl (by decide) c
    have a2 := zIcp h12 rfl (by decide) c2
    rw [if_pos a1, if_pos a2, if_neg c3, if_pos (zIx0 c4)] at hk
    obtain ⟨km, y1, rfl⟩ := zIxN (by omega) a1
    obtain ⟨kh, y2, rfl⟩ := zIxN (by omega) a2
    have e0 : ¬ kh = 0 := fun z => c3 (by rw [z]; rfl)
    rw [nI_clamp (show km < 2 ^ 31 by omega), nI_clamp (show kh < 2 ^ 31 by omega)] at hk
    refine zv_X11_next_46 _ _ _ ?_
    rw [show nI kh - 1 = nI (kh - 1) by rw [show kh = (kh - 1) + 1 by omega, nI_pred]; rfl, zN_mul (kh - 1) 5 5, nI_add, nI_clamp (show (kh - 1) * 5 + km < 2 ^ 31 by omega), (g2 (kh - 1) (by omega)).1 km y1]
    refine ⟨nI_in_ (by omega), ?_⟩
    intro z1 z2
    rw [ab_u_u]
    have ez : z2 = upd (upd (upd (M 6) 8 (nI km)) 9 (nI kh)) 10 (M 6 10) := by
      simp only [z2, z1]
      rw [g1 6 (by decide)]
      funext j
      by_cases c1 : j = 10
      · rw [c1, upd_eq, upd_ne _ _ (by decide), upd_ne _ _ (by decide)]
      · rw [upd_ne _ _ c1]
    refine zBgC (fun M3 N3 f1 f2 => zv_X11_next_85 _ _ _ (zL_X11_next hN h6 y1 hk (zPcs M) 0 M3 N3 (M 6 10) (by omega) ?_ (zAsks_11 (zAsks_u gA _ (by decide)) f1) ?_ f2))
    · exact zFr_tr (zFr_u (zFr_mono g1 (by decide)) (by decide) _) (zFr_mono f1 (by decide))
    · rw [f1 6 (by decide), ab_u_eq, ez]
abbrev zR_X11_next : Room := { frames := 7, cells := 0, slots := 0, locals := 178 }
set_option maxRecDepth 20000 in
theorem zM_X11_next (l : Launch) : ab_Met l zw_C vwCl zZ_C yX11_next cX11_next 6 (some .long) zR_X11_next zt_X11_next := ab_ofRun (G := zg_X11_next) (P := zp_X11_next) rfl zo_X11_next (by decide +kernel) zl_cl zl_lamC zf_X11_ok zs_tabOK zc_X11_ok zs_X11_ok (List.forall_mem_cons.mpr ⟨ab_callV zZ_C_ok (zM_X5_has l) (ab_in 642 (by decide +kernel) rfl) (ab_in 639 (by decide +kernel) rfl) (ab_in 640 (by decide +kernel) rfl) (ab_in 641 (by decide +kernel) rfl) (ab_in 3 (by decide +kernel) rfl) (by unfold ab_yok; decide +kernel) ⟨rfl, rfl⟩ (by decide) zV_X5_has, List.forall_mem_cons.mpr ⟨ab_callV zZ_C_ok (zM_X2_hasHour l) (ab_in 654 (by decide +kernel) rfl) (ab_in 651 (by decide +kernel) rfl) (ab_in 652 (by decide +kernel) rfl) (ab_in 653 (by decide +kernel) rfl) (ab_in 2 (by decide +kernel) rfl) (by unfold ab_yok; decide +kernel) ⟨rfl, rfl⟩ (by decide) zV_X2_hasHour, List.forall_mem_cons.mpr ⟨ab_callV zZ_C_ok (zM_X10_go l) (ab_in 658 (by decide +kernel) rfl) (ab_in 655 (by decide +kernel) rfl) (ab_in 656 (by decide +kernel) rfl) (ab_in 657 (by decide +kernel) rfl) (ab_in 7 (by decide +kernel) rfl) (by unfold ab_yok; decide +kernel) ⟨rfl, rfl⟩ (by decide) zV_X10_go, List.forall_mem_cons.mpr ⟨ab_callV zZ_C_ok (zM_X10_placeOf l) (ab_in 678 (by decide +kernel) rfl) (ab_in 702 (by decide +kernel) rfl) (ab_in 676 (by decide +kernel) rfl) (ab_in 677 (by decide +kernel) rfl) (ab_in 7 (by decide +kernel) rfl) (by unfold ab_yok; decide +kernel) ⟨rfl, rfl⟩ (by decide) zV_X10_placeOf, List.forall_mem_cons.mpr ⟨ab_callV zZ_C_ok (zM_X0_begin l) (ab_in 783 (by decide +kernel) rfl) (ab_in 780 (by decide +kernel) rfl) (ab_in 781 (by decide +kernel) rfl) (ab_in 782 (by decide +kernel) rfl) (ab_in 12 (by decide +kernel) rfl) (by unfold ab_yok; decide +kernel) ⟨rfl, rfl⟩ (by decide) zV_X0_begin, List.forall_mem_cons.mpr ⟨ab_callV zZ_C_ok (zM_X0_offer l) (ab_in 787 (by decide +kernel) rfl) (ab_in 784 (by decide +kernel) rfl) (ab_in 785 (by decide +kernel) rfl) (ab_in 786 (by decide +kernel) rfl) (ab_in 12 (by decide +kernel) rfl) (by unfold ab_yok; decide +kernel) ⟨rfl, rfl⟩ (by decide) zV_X0_offer, List.forall_mem_cons.mpr ⟨ab_callV zZ_C_ok (zM_X11_allHarm l) (ab_in 795 (by decide +kernel) rfl) (ab_in 792 (by decide +kernel) rfl) (ab_in 794 (by decide +kernel) rfl) (ab_inS (List.mem_of_getElem? (i := 21) (by decide +kernel)) rfl) (ab_in 1 (by decide +kernel) rfl) (by unfold ab_yok; decide +kernel) ⟨rfl, rfl⟩ (by decide) zV_X11_allHarm, List.forall_mem_nil _⟩⟩⟩⟩⟩⟩⟩) (List.forall_mem_cons.mpr ⟨ab_callS zZ_C_ok (zM_X11_within l) (ab_in 538 (by decide +kernel) rfl) (ab_in 536 (by decide +kernel) rfl) (ab_in 537 (by decide +kernel) rfl) (ab_in 1 (by decide +kernel) rfl) (by unfold ab_yok; decide +kernel) ⟨rfl, rfl⟩ (by decide), List.forall_mem_cons.mpr ⟨ab_callAbs (ab_in 821 (by decide +kernel) rfl) (ab_in 694 (by decide +kernel) rfl) (ab_in 18 (by decide +kernel) rfl) (ab_in 695 (by decide +kernel) rfl) (by decide) (by decide), List.forall_mem_nil _⟩⟩) zE_X11_next
theorem zNeg_lt {a b : Nat} (ha : a < 2 ^ 62) (hb : b < 2 ^ 62) : -(lN a) < -(lN b) ↔ b < a := by
  rw [← pk_lLT (a := b) (b := a) (by omega) (by omega)]
  have h1 : (0 : Int64) ≤ lN a := (pk_lLE (a := 0) (by decide) (by omega)).mpr (Nat.zero_le _)
  have h2 : (0 : Int64) ≤ lN b := (pk_lLE (a := 0) (by decide) (by omega)).mpr (Nat.zero_le _)
  grind
def zt_X11_worst : ab_T := ab_m0 0 (fun M _ => zNight M) (fun M N o M2 N2 => zFr zQc M M2 ∧ zAsks M2 ∧ o = some (.int (zWo M (zPcs M)).1))
theorem zt_X11_worst_mono : ab_mono zt_X11_worst := ab_m0_mono _ _ _
theorem zV_X11_worst : ab_recv zw_C vwCl RX11 zt_X11_worst := ab_m0_v rfl rfl
def zp_X11_worst : ab_P := [(0, .aload_n 0, 1, [0], []),
  (1, .getfield 53, 4, [], []),
  (4, .invokevirtual 198, 7, [], []),
  (7, .aload_n 0, 8, [0], []),
  (8, .getfield 90, 11, [], []),
  (11, .lconst 0, 12, [0], []),
  (12, .invokevirtual 231, 15, [], []),
  (15, .iconst 0, 16, [], [0]),
  (16, .istore_n 1, 17, [1], []),
  (17, .iload_n 1, 18, [1], []),
  (18, .aload_n 0, 19, [0], []),
  (19, .getfield 10, 22, [], []),
  (22, .getfield 121, 25, [], []),
  (25, .if_icmp .ge 43, 28, [68], []),
  (28, .aload_n 0, 29, [0], []),
  (29, .getfield 62, 32, [], []),
  (32, .iload_n 1, 33, [1], []),
  (33, .aload_n 0, 34, [0], []),
  (34, .getfield 10, 37, [], []),
  (37, .getfield 150, 40, [], []),
  (40, .iconst 0, 41, [], [0]),
  (41, .iaload, 42, [], []),
  (42, .invokevirtual 220, 45, [], []),
  (45, .aload_n 0, 46, [0], []),
  (46, .getfield 90, 49, [], []),
  (49, .iload_n 1, 50, [1], []),
  (50, .aload_n 0, 51, [0], []),
  (51, .getfield 62, 54, [], []),
  (54, .iconst 1, 55, [], [1]),
  (55, .invokevirtual 224, 58, [], []),
  (58, .lneg, 59, [], []),
  (59, .invokevirtual 235, 62, [], []),
  (62, .iinc 1 1, 65, [], [1]),
  (65, .goto (-48), 68, [17], []),
  (68, .aload_n 0, 69, [0], []),
  (69, .getfield 90, 72, [], []),
  (72, .getfield 239, 75, [], []),
  (75, .ireturn, 76, [], [])]
theorem zo_X11_worst : ab_ok cX11_worst zp_X11_worst = true := by decide +kernel
def zg_X11_worst : ab_G := (zw_C, zs_tab, zf_X11, zc_X11, [(144, 50), (147, 51)], [(198, 1, zt_X10_go), (220, 3, zt_X6_reckon), (224, 2, zt_X6_told), (231, 2, zt_X0_begin), (235, 3, zt_X0_offer)], [])
theorem zm_X11_worst : ab_MG zg_X11_worst := ab_MGof (List.forall_mem_cons.mpr ⟨zt_X10_go_mono, List.forall_mem_cons.mpr ⟨zt_X6_reckon_mono, List.forall_mem_cons.mpr ⟨ab_pp_mono _, List.forall_mem_cons.mpr ⟨zt_X0_begin_mono, List.forall_mem_cons.mpr ⟨zt_X0_offer_mono, List.forall_mem_nil _⟩⟩⟩⟩⟩) (List.forall_mem_nil _)
abbrev zr_X11_worst (Q : ab_R) : ab_K := ab_Run zg_X11_worst zp_X11_worst (some .int) 2 Q
set_option maxRecDepth 20000 in
theorem zv_X11_worst_0 {Q : ab_R} {M : ab_M} {N : ab_N}  (h : zt_X10_go [.ref 6] M N (fun r M2 N2 => zr_X11_worst Q 7 [some (.ref 0), none] (ab_ol r []) M2 N2)) : zr_X11_worst Q 0 [some (.ref 0)] [] M N := ab_Run_s zm_X11_worst (sp := [(7, [true, false]), (15, [true, false]), (17, [true, true]), (45, [true, true]), (62, [true, true])]) 40 h
set_option maxRecDepth 20000 in
theorem zv_X11_worst_7 {Q : ab_R} {M : ab_M} {N : ab_N}  (h : zt_X0_begin [.ref 11, .long (0 : Int64)] M N (fun r M2 N2 => zr_X11_worst Q 15 [some (.ref 0), none] (ab_ol r []) M2 N2)) : zr_X11_worst Q 7 [some (.ref 0), none] [] M N := ab_Run_s zm_X11_worst (sp := [(7, [true, false]), (15, [true, false]), (17, [true, true]), (45, [true, true]), (62, [true, true])]) 40 h
set_option maxRecDepth 20000 in
theorem zv_X11_worst_15 {Q : ab_R} {M : ab_M} {N : ab_N}  (h : zr_X11_worst Q 17 [some (.ref 0), some (.int (0 : Int32))] [] M N) : zr_X11_worst Q 15 [some (.ref 0), none] [] M N := ab_Run_s zm_X11_worst (sp := [(7, [true, false]), (15, [true, false]), (17, [true, true]), (45, [true, true]), (62, [true, true])]) 40 h
set_option maxRecDepth 20000 in
theorem zv_X11_worst_17 {Q : ab_R} {M : ab_M} {N : ab_N} (l1 : Int32) (h : ((M 1 4) ≤ l1 → Q (some (.int (M 11 0))) M N) ∧ (¬ ((M 1 4) ≤ l1) → vp_in (0 : Int32) 5 ∧ (zt_X6_reckon [.ref 7, .int l1, .int (M 17 0)] M N (fun r M2 N2 => zr_X11_worst Q 45 [some (.ref 0), some (.int l1)] (ab_ol r []) M2 N2)))) : zr_X11_worst Q 17 [some (.ref 0), some (.int l1)] [] M N := ab_Run_s zm_X11_worst (sp := [(7, [true, false]), (15, [true, false]), (17, [true, true]), (45, [true, true]), (62, [true, true])]) 40 h
set_option maxRecDepth 20000 in
theorem zv_X11_worst_45 {Q : ab_R} {M : ab_M} {N : ab_N} (l1 : Int32) (h : (vp_in ((M 17) 1) 7) ∧ (zt_X0_offer [.ref 11, .int l1, .long (-(if (1 : Int32) = 0 then N 7 4 else if (1 : Int32) = 1 then N 41 ((M 17) 1).toNatClampNeg else N 7 5))] M N (fun r M2 N2 => zr_X11_worst Q 62 [some (.ref 0), some (.int l1)] (ab_ol r []) M2 N2))) : zr_X11_worst Q 45 [some (.ref 0), some (.int l1)] [] M N := ab_Run_s zm_X11_worst (sp := [(7, [true, false]), (15, [true, false]), (17, [true, true]), (45, [true, true]), (62, [true, true])]) 40 h
set_option maxRecDepth 20000 in
theorem zv_X11_worst_62 {Q : ab_R} {M : ab_M} {N : ab_N} (l1 : Int32) (h : zr_X11_worst Q 17 [some (.ref 0), some (.int (l1 + (1 : Int32)))] [] M N) : zr_X11_worst Q 62 [some (.ref 0), some (.int l1)] [] M N := ab_Run_s zm_X11_worst (sp := [(7, [true, false]), (15, [true, false]), (17, [true, true]), (45, [true, true]), (62, [true, true])]) 40 h
theorem zWo_bd {d : ab_M} (b2 : 2 ≤ zBrk d) (b6 : zBrk d ≤ 6) : ∀ n, ∃ x, x ≤ 1000000000 ∧ (zWo d n).2 = lN x
  | 0 => ⟨0, by omega, rfl⟩
  | n + 1 => by
    obtain ⟨x, x1, x2⟩ := (zBd_rk (d := d) (p := n) b2 b6 (zHrs d)).1
    unfold zWo
    split
    · exact zWo_bd b2 b6 n
    · exact ⟨x, x1, x2⟩
theorem zWo_of {d : ab_M} (b2 : 2 ≤ zBrk d) (b6 : zBrk d ≤ 6) (n : Nat) : zOf ((zWo d n).1, -(zWo d n).2) (nI n) (-(zWoX d n)) = ((zWo d (n + 1)).1, -(zWo d (n + 1)).2) := by
  obtain ⟨x, x1, x2⟩ := (zBd_rk (d := d) (p := n) b2 b6 (zHrs d)).1
  obtain ⟨y, y1, y2⟩ := zWo_bd (d := d) b2 b6 n
  have ex : zWoX d n = lN x := x2
  have e : zWo d (n + 1) = if lg_cmp (zWoX d n) (zWo d n).2 ≤ 0 then zWo d n else (nI n, zWoX d n) := rfl
  rw [e]
  unfold zOf
  dsimp only
  rw [ex, y2]
  have k := zNeg_lt (a := x) (b := y) (by omega) (by omega)
  by_cases c : y < x
  · rw [if_pos (k.mpr c), if_neg (fun z => by
      have := (lg_cmp_le _ _).mp z
      have := (pk_lLE (by omega) (by omega)).mp this
      omega)]
  · rw [if_neg (fun z => c (k.mp z)), if_pos ((lg_cmp_le _ _).mpr ((pk_lLE (by omega) (by omega)).mpr (by omega))), ← y2]
theorem zL_X11_worst {Q : ab_R} {d : ab_M} (hk : ∀ M N, zFr zQc d M → zAsks M → Q (some (.int (zWo d (zPcs d)).1)) M N) : ∀ (r p : Nat) (M : ab_M) (N : ab_N), p + r = zPcs d → zFr zQc d M → zNight M → zWalked M → zBst M N ((zWo d p).1, -(zWo d p).2) → zr_X11_worst Q 17 [some (.ref 0), some (.int (nI p))] [] M N := by
  intro r
  induction r with
  | zero =>
    intro p M N hr hF hN hW hb
    obtain ⟨n7, p8, -⟩ := zCn hN
    have eP := zEqv_pcs (zQc_E hF)
    have e : p = zPcs d := by omega
    subst e
    refine zv_X11_worst_17 _ ⟨fun _ => ?_, fun c => absurd (by rw [n7, eP]; exact nI_le (Nat.le_refl _) (by omega)) c⟩
    rw [hb.1]
    exact hk M N hF hN.1
  | succ r ih =>
    intro p M N hr hF hN hW hb
    obtain ⟨n7, p8, n12, m5, n0, h12, n1, b6, b2⟩ := zCn hN
    have E := zQc_E hF
    have eP := zEqv_pcs E
    refine zv_X11_worst_17 _ ?_
    rw [n7, n0]
    refine ⟨fun c => absurd c (nI_ge (by omega) (by omega)), fun _ => ⟨ab_vpk (by decide), zRkC hN hW (by omega) (Nat.le_refl _) (fun M2 N2 f1 f2 f3 f4 f5 => ?_)⟩⟩
    rw [zRk_eqv E (by omega), zEqv_hrs E] at f5
    have e1 : M2 17 1 = nI (zBrk d) := by rw [f1 17 (by decide), n1, zEqv_brk E]
    rw [zEqv_brk E] at b6 b2
    have et : (if (1 : Int32) = 0 then N2 7 4 else if (1 : Int32) = 1 then N2 41 ((M2 17) 1).toNatClampNeg else N2 7 5) = zTold d (zRk d p (zHrs d)) 1 := zTold_k (w := 1) (by decide) f5 e1 b6
    refine zv_X11_worst_45 _ ?_
    rw [et, e1]
    refine ⟨nI_in_ (by omega), ?_⟩
    have ew : zTold d (zRk d p (zHrs d)) 1 = zWoX d p := rfl
    rw [ew]
    have hb2 : zBst M2 N2 ((zWo d p).1, -(zWo d p).2) := ⟨by rw [f1 11 (by decide)]; exact hb.1, by rw [f4 11 (by decide)]; exact hb.2⟩
    refine zOfC hb2 (fun M3 N3 f6 f7 => zv_X11_worst_62 _ ?_)
    rw [nI_1]
    rw [zWo_of b2 b6] at f7
    have E3 : zFr zGx M2 M3 := zFr_mono f6 (by decide)
    have hA3 := zAsks_11 f2.1 f6
    exact ih (p + 1) M3 N3 (by omega) (zFr_tr (zFr_tr hF (zFr_mono f1 (by decide))) (zFr_mono f6 (by decide))) (zNight_gx f2 hA3 E3) (zWalked_eqv f2.2.1 (zEqv_gx E3) (f6 37 (by decide)) (f6 38 (by decide)) (f6 39 (by decide)) f3) f7
theorem zE_X11_worst (as : List Value) (M : ab_M) (N : ab_N) (k : ab_R) (hT : zt_X11_worst as M N k) : ab_cs as ≤ 2 ∧ zr_X11_worst k 0 (ab_en as) [] M N := by
  obtain ⟨rfl, hN, hk⟩ := ab_m0_e hT
  refine ⟨Nat.le_of_ble_eq_true rfl, zv_X11_worst_0 (ab_m0_i hN ?_)⟩
  rintro o M2 N2 ⟨rfl, rfl, g1, gA, g2⟩
  refine zv_X11_worst_7 (zBgC (fun M3 N3 f1 f2 => zv_X11_worst_15 ?_))
  have hN2 := zNight_of hN gA g1
  have E3 : zFr zGx M2 M3 := zFr_mono f1 (by decide)
  exact zL_X11_worst (d := M) (fun M4 N4 a b => hk _ _ _ ⟨a, b, rfl⟩) (zPcs M) 0 M3 N3 (by omega) (zFr_tr (zFr_mono g1 (by decide)) (zFr_mono f1 (by decide))) (zNight_gx hN2 (zAsks_11 gA f1) E3) (zWalked_eqv hN2.2.1 (zEqv_gx E3) (f1 37 (by decide)) (f1 38 (by decide)) (f1 39 (by decide)) (zWalked_go g1 g2)) (by
    have e : ((zWo M 0).1, -(zWo M 0).2) = ((-1 : Int32), (0 : Int64)) := by
      show ((-1 : Int32), -(0 : Int64)) = _
      rw [show -(0 : Int64) = 0 by decide]
    rw [e]
    exact f2)
abbrev zR_X11_worst : Room := { frames := 6, cells := 0, slots := 0, locals := 155 }
set_option maxRecDepth 20000 in
theorem zM_X11_worst (l : Launch) : ab_Met l zw_C vwCl zZ_C yX11_worst cX11_worst 2 (some .int) zR_X11_worst zt_X11_worst := ab_ofRun (G := zg_X11_worst) (P := zp_X11_worst) rfl zo_X11_worst (by decide +kernel) zl_cl zl_lamC zf_X11_ok zs_tabOK zc_X11_ok zs_X11_ok (List.forall_mem_cons.mpr ⟨ab_callV zZ_C_ok (zM_X10_go l) (ab_in 658 (by decide +kernel) rfl) (ab_in 655 (by decide +kernel) rfl) (ab_in 656 (by decide +kernel) rfl) (ab_in 657 (by decide +kernel) rfl) (ab_in 7 (by decide +kernel) rfl) (by unfold ab_yok; decide +kernel) ⟨rfl, rfl⟩ (by decide) zV_X10_go, List.forall_mem_cons.mpr ⟨ab_callV zZ_C_ok (zM_X6_reckon l) (ab_in 737 (by decide +kernel) rfl) (ab_in 734 (by decide +kernel) rfl) (ab_in 735 (by decide +kernel) rfl) (ab_in 736 (by decide +kernel) rfl) (ab_in 8 (by decide +kernel) rfl) (by unfold ab_yok; decide +kernel) ⟨rfl, rfl⟩ (by decide) zV_X6_reckon, List.forall_mem_cons.mpr ⟨ab_callV zZ_C_ok (zM_X6_told l) (ab_in 767 (by decide +kernel) rfl) (ab_in 764 (by decide +kernel) rfl) (ab_in 765 (by decide +kernel) rfl) (ab_in 766 (by decide +kernel) rfl) (ab_in 8 (by decide +kernel) rfl) (by unfold ab_yok; decide +kernel) ⟨rfl, rfl⟩ (by decide) zV_X6_told, List.forall_mem_cons.mpr ⟨ab_callV zZ_C_ok (zM_X0_begin l) (ab_in 783 (by decide +kernel) rfl) (ab_in 780 (by decide +kernel) rfl) (ab_in 781 (by decide +kernel) rfl) (ab_in 782 (by decide +kernel) rfl) (ab_in 12 (by decide +kernel) rfl) (by unfold ab_yok; decide +kernel) ⟨rfl, rfl⟩ (by decide) zV_X0_begin, List.forall_mem_cons.mpr ⟨ab_callV zZ_C_ok (zM_X0_offer l) (ab_in 787 (by decide +kernel) rfl) (ab_in 784 (by decide +kernel) rfl) (ab_in 785 (by decide +kernel) rfl) (ab_in 786 (by decide +kernel) rfl) (ab_in 12 (by decide +kernel) rfl) (by unfold ab_yok; decide +kernel) ⟨rfl, rfl⟩ (by decide) zV_X0_offer, List.forall_mem_nil _⟩⟩⟩⟩⟩) (List.forall_mem_nil _) zE_X11_worst
def zDrA (d : ab_M) (x w : Int32) : Int64 := if 0 ≤ x ∧ x ≤ 99999 then (if 0 ≤ w ∧ w ≤ 2 then (if w = 0 then (zDAll d (zDs0 x) (zHrs d)).2.2.1 else if w = 1 then (zDAll d (zDs0 x) (zHrs d)).2.2.2.1.toInt64 else (zDAll d (zDs0 x) (zHrs d)).2.2.2.2.toInt64) else zNO) else zNO
def zt_X11_drawn : ab_T := ab_m2 0 (fun _ _ M _ => zNight M) (fun a b M N o M2 N2 => zFr zQc M M2 ∧ zAsks M2 ∧ o = some (.long (zDrA M a b)))
theorem zt_X11_drawn_mono : ab_mono zt_X11_drawn := ab_m2_mono _ _ _
theorem zV_X11_drawn : ab_recv zw_C vwCl RX11 zt_X11_drawn := ab_m2_v rfl rfl
def zp_X11_drawn : ab_P := [(0, .iload_n 1, 1, [1], []),
  (1, .iconst 0, 2, [], [0]),
  (2, .ldc_w 295, 5, [], []),
  (5, .invokestatic 117, 8, [], []),
  (8, .ifCond .eq 12, 11, [20], []),
  (11, .iload_n 2, 12, [2], []),
  (12, .iconst 0, 13, [], [0]),
  (13, .iconst 2, 14, [], [2]),
  (14, .invokestatic 117, 17, [], []),
  (17, .ifCond .ne 7, 20, [24], []),
  (20, .ldc2_w 218, 23, [], []),
  (23, .lreturn, 24, [], []),
  (24, .aload_n 0, 25, [0], []),
  (25, .getfield 53, 28, [], []),
  (28, .invokevirtual 198, 31, [], []),
  (31, .aload_n 0, 32, [0], []),
  (32, .getfield 69, 35, [], []),
  (35, .iload_n 1, 36, [1], []),
  (36, .invokevirtual 296, 39, [], []),
  (39, .iload_n 2, 40, [2], []),
  (40, .ifCond .ne 13, 43, [53], []),
  (43, .aload_n 0, 44, [0], []),
  (44, .getfield 69, 47, [], []),
  (47, .getfield 298, 50, [], []),
  (50, .goto 27, 53, [77], []),
  (53, .iload_n 2, 54, [2], []),
  (54, .iconst 1, 55, [], [1]),
  (55, .if_icmp .ne 14, 58, [69], []),
  (58, .aload_n 0, 59, [0], []),
  (59, .getfield 69, 62, [], []),
  (62, .getfield 301, 65, [], []),
  (65, .i2l, 66, [], []),
  (66, .goto 11, 69, [77], []),
  (69, .aload_n 0, 70, [0], []),
  (70, .getfield 69, 73, [], []),
  (73, .getfield 304, 76, [], []),
  (76, .i2l, 77, [], []),
  (77, .lreturn, 78, [], [])]
theorem zo_X11_drawn : ab_ok cX11_drawn zp_X11_drawn = true := by decide +kernel
def zg_X11_drawn : ab_G := (zw_C, zs_tab, zf_X11, zc_X11, [(144, 50), (147, 51)], [(198, 1, zt_X10_go), (296, 2, zt_X3_go)], [(117, 3, zt_X11_within)])
theorem zm_X11_drawn : ab_MG zg_X11_drawn := ab_MGof (List.forall_mem_cons.mpr ⟨zt_X10_go_mono, List.forall_mem_cons.mpr ⟨zt_X3_go_mono, List.forall_mem_nil _⟩⟩) (List.forall_mem_cons.mpr ⟨ab_pure_mono _, List.forall_mem_nil _⟩)
abbrev zr_X11_drawn (Q : ab_R) : ab_K := ab_Run zg_X11_drawn zp_X11_drawn (some .long) 3 Q
set_option maxRecDepth 20000 in
theorem zv_X11_drawn_0 {Q : ab_R} {M : ab_M} {N : ab_N} (l1 : Int32) (l2 : Int32) (h : ((ab_b ((0 : Int32) ≤ l1 ∧ l1 ≤ (99999 : Int32))) = 0 → Q (some (.long (-4611686018427387904 : Int64))) M N) ∧ (¬ ((ab_b ((0 : Int32) ≤ l1 ∧ l1 ≤ (99999 : Int32))) = 0) → ((ab_b ((0 : Int32) ≤ l2 ∧ l2 ≤ (2 : Int32))) = 0 → Q (some (.long (-4611686018427387904 : Int64))) M N) ∧ (¬ ((ab_b ((0 : Int32) ≤ l2 ∧ l2 ≤ (2 : Int32))) = 0) → zt_X10_go [.ref 6] M N (fun r M2 N2 => zr_X11_drawn Q 31 [some (.ref 0), some (.int l1), some (.int l2)] (ab_ol r []) M2 N2)))) : zr_X11_drawn Q 0 [some (.ref 0), some (.int l1), some (.int l2)] [] M N := ab_Run_s zm_X11_drawn (sp := [(31, [true, true, true]), (39, [true, false, true])]) 40 h
set_option maxRecDepth 20000 in
theorem zv_X11_drawn_31 {Q : ab_R} {M : ab_M} {N : ab_N} (l1 : Int32) (l2 : Int32) (h : zt_X3_go [.ref 8, .int l1] M N (fun r M2 N2 => zr_X11_drawn Q 39 [some (.ref 0), none, some (.int l2)] (ab_ol r []) M2 N2)) : zr_X11_drawn Q 31 [some (.ref 0), some (.int l1), some (.int l2)] [] M N := ab_Run_s zm_X11_drawn (sp := [(31, [true, true, true]), (39, [true, false, true])]) 40 h
set_option maxRecDepth 20000 in
theorem zv_X11_drawn_39 {Q : ab_R} {M : ab_M} {N : ab_N} (l2 : Int32) (h : (l2 = 0 → Q (some (.long (N 8 5))) M N) ∧ (¬ (l2 = 0) → (l2 = (1 : Int32) → Q (some (.long ((M 8 6).toInt64))) M N) ∧ (¬ (l2 = (1 : Int32)) → Q (some (.long ((M 8 7).toInt64))) M N))) : zr_X11_drawn Q 39 [some (.ref 0), none, some (.int l2)] [] M N := ab_Run_s zm_X11_drawn (sp := [(31, [true, true, true]), (39, [true, false, true])]) 40 h
theorem zE_X11_drawn (as : List Value) (M : ab_M) (N : ab_N) (k : ab_R) (hT : zt_X11_drawn as M N k) : ab_cs as ≤ 3 ∧ zr_X11_drawn k 0 (ab_en as) [] M N := by
  obtain ⟨x, w, rfl, hN, hk⟩ := ab_m2_e hT
  have hk := fun M2 N2 (hF : zFr zQc M M2) (hA : zAsks M2) => hk _ M2 N2 ⟨hF, hA, rfl⟩
  unfold zDrA at hk
  refine ⟨Nat.le_of_ble_eq_true rfl, zv_X11_drawn_0 _ _ ⟨fun c => ?_, fun c => ⟨fun c2 => ?_, fun c2 => ab_m0_i hN ?_⟩⟩⟩
  · have hk := hk M N (zFr_rf _ _) hN.1
    rw [if_neg (ab_b_0.mp c)] at hk
    exact hk
  · have hk := hk M N (zFr_rf _ _) hN.1
    rw [if_pos (zIx0 c), if_neg (ab_b_0.mp c2)] at hk
    exact hk
  · rintro o M2 N2 ⟨rfl, rfl, g1, gA, g2⟩
    rw [if_pos (zIx0 c), if_pos (zIx0 c2)] at hk
    refine zv_X11_drawn_31 _ _ (ab_m1_i ⟨zNight_of hN gA g1, zWalked_go g1 g2⟩ ?_)
    rintro o M3 N3 ⟨rfl, f1, f2, f3, f4⟩
    rw [zDAll_eqv (zEqv_go g1), zEqv_hrs (zEqv_go g1)] at f4
    have hk := hk M3 N3 (zFr_tr (zFr_mono g1 (by decide)) (zFr_mono f1 (by decide))) f2
    obtain ⟨-, -, q1, q2, q3⟩ := f4
    refine zv_X11_drawn_39 _ ⟨fun c => ?_, fun c => ⟨fun c2 => ?_, fun c2 => ?_⟩⟩
    · rw [if_pos c, ← q1] at hk
      exact hk
    · rw [if_neg c, if_pos c2, ← q2] at hk
      exact hk
    · rw [if_neg c, if_neg c2, ← q3] at hk
      exact hk
abbrev zR_X11_drawn : Room := { frames := 6, cells := 0, slots := 0, locals := 155 }
set_option maxRecDepth 20000 in
theorem zM_X11_drawn (l : Launch) : ab_Met l zw_C vwCl zZ_C yX11_drawn cX11_drawn 3 (some .long) zR_X11_drawn zt_X11_drawn := ab_ofRun (G := zg_X11_drawn) (P := zp_X11_drawn) rfl zo_X11_drawn (by decide +kernel) zl_cl zl_lamC zf_X11_ok zs_tabOK zc_X11_ok zs_X11_ok (List.forall_mem_cons.mpr ⟨ab_callV zZ_C_ok (zM_X10_go l) (ab_in 658 (by decide +kernel) rfl) (ab_in 655 (by decide +kernel) rfl) (ab_in 656 (by decide +kernel) rfl) (ab_in 657 (by decide +kernel) rfl) (ab_in 7 (by decide +kernel) rfl) (by unfold ab_yok; decide +kernel) ⟨rfl, rfl⟩ (by decide) zV_X10_go, List.forall_mem_cons.mpr ⟨ab_callV zZ_C_ok (zM_X3_go l) (ab_in 880 (by decide +kernel) rfl) (ab_in 877 (by decide +kernel) rfl) (ab_in 878 (by decide +kernel) rfl) (ab_in 879 (by decide +kernel) rfl) (ab_in 9 (by decide +kernel) rfl) (by unfold ab_yok; decide +kernel) ⟨rfl, rfl⟩ (by decide) zV_X3_go, List.forall_mem_nil _⟩⟩) (List.forall_mem_cons.mpr ⟨ab_callS zZ_C_ok (zM_X11_within l) (ab_in 538 (by decide +kernel) rfl) (ab_in 536 (by decide +kernel) rfl) (ab_in 537 (by decide +kernel) rfl) (ab_in 1 (by decide +kernel) rfl) (by unfold ab_yok; decide +kernel) ⟨rfl, rfl⟩ (by decide), List.forall_mem_nil _⟩) zE_X11_drawn
