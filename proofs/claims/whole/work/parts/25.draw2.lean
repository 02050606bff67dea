/-! Drawing.grow, go *)
-/
theorem zDGrow_0 {d : ab_M} {p h sc : Nat} {f : Nat → Nat} {l L ha : Int64} {br fo : Int32} (c : f p = 0) (e : zLot l = L) : zDGrow d p h sc (f, l, ha, br, fo) = (zUp f p (if L - L / 1000 * 1000 < lN (zAsk d 0 p h sc 0) then 1 else 0), L, ha, br, fo) := by
  unfold zDGrow
  dsimp only
  rw [if_pos c, e]
theorem zDGrow_1 {d : ab_M} {p h sc : Nat} {f : Nat → Nat} {l ha : Int64} {br fo : Int32} (c : ¬ f p = 0) (c2 : f p + 1 = zBrk d) : zDGrow d p h sc (f, l, ha, br, fo) = (zUp f p (f p + 1), l, ha + lN (zAsk d 2 p h (f p + 1) 0), br + 1, fo) := by
  unfold zDGrow
  dsimp only
  rw [if_neg c, if_pos c2]
theorem zDGrow_2 {d : ab_M} {p h sc : Nat} {f : Nat → Nat} {l ha : Int64} {br fo : Int32} (c : ¬ f p = 0) (c2 : ¬ f p + 1 = zBrk d) : zDGrow d p h sc (f, l, ha, br, fo) = (zUp f p (f p + 1), l, ha, br, fo) := by
  unfold zDGrow
  dsimp only
  rw [if_neg c, if_neg c2]
theorem zUp_hd {b : Nat} {R R2 : Nat → Int32} {f tf : Nat → Nat} {q v : Nat} (hv : v ≤ b) (hq : R2 = upd R q (nI v)) (h : ∀ p, p < 8 → R p = nI (tf p) ∧ tf p ≤ b) : ∀ p, p < 8 → R2 p = nI (zUp tf q v p) ∧ zUp tf q v p ≤ b := by
  intro p hp
  rw [hq]
  unfold zUp
  by_cases e : p = q
  · rw [e, upd_eq, if_pos rfl]; exact ⟨rfl, hv⟩
  · rw [upd_ne _ _ e, if_neg e]; exact h p hp
def zp_X3_grow : ab_P := [(0, .aload_n 0, 1, [0], []),
  (1, .getfield 9, 4, [], []),
  (4, .iload_n 1, 5, [1], []),
  (5, .iaload, 6, [], []),
  (6, .ifCond .ne 48, 9, [54], []),
  (9, .aload_n 0, 10, [0], []),
  (10, .getfield 9, 13, [], []),
  (13, .iload_n 1, 14, [1], []),
  (14, .aload_n 0, 15, [0], []),
  (15, .invokevirtual 63, 18, [], []),
  (18, .ldc2_w 67, 21, [], []),
  (21, .lrem, 22, [], []),
  (22, .aload_n 0, 23, [0], []),
  (23, .getfield 23, 26, [], []),
  (26, .iconst 0, 27, [], [0]),
  (27, .iload_n 1, 28, [1], []),
  (28, .iload_n 2, 29, [2], []),
  (29, .aload_n 0, 30, [0], []),
  (30, .getfield 19, 33, [], []),
  (33, .iload_n 1, 34, [1], []),
  (34, .iload_n 2, 35, [2], []),
  (35, .invokevirtual 69, 38, [], []),
  (38, .iconst 0, 39, [], [0]),
  (39, .invokevirtual 75, 42, [], []),
  (42, .i2l, 43, [], []),
  (43, .lcmp, 44, [], []),
  (44, .ifCond .ge 7, 47, [51], []),
  (47, .iconst 1, 48, [], [1]),
  (48, .goto 4, 51, [52], []),
  (51, .iconst 0, 52, [], [0]),
  (52, .iastore, 53, [], []),
  (53, .return_, 54, [], []),
  (54, .aload_n 0, 55, [0], []),
  (55, .getfield 9, 58, [], []),
  (58, .iload_n 1, 59, [1], []),
  (59, .dup2, 60, [], []),
  (60, .iaload, 61, [], []),
  (61, .iconst 1, 62, [], [1]),
  (62, .iadd, 63, [], []),
  (63, .iastore, 64, [], []),
  (64, .aload_n 0, 65, [0], []),
  (65, .getfield 9, 68, [], []),
  (68, .iload_n 1, 69, [1], []),
  (69, .iaload, 70, [], []),
  (70, .aload_n 0, 71, [0], []),
  (71, .getfield 15, 74, [], []),
  (74, .getfield 47, 77, [], []),
  (77, .iconst 1, 78, [], [1]),
  (78, .iaload, 79, [], []),
  (79, .if_icmp .ne 40, 82, [119], []),
  (82, .aload_n 0, 83, [0], []),
  (83, .dup, 84, [], []),
  (84, .getfield 40, 87, [], []),
  (87, .iconst 1, 88, [], [1]),
  (88, .iadd, 89, [], []),
  (89, .putfield 40, 92, [], []),
  (92, .aload_n 0, 93, [0], []),
  (93, .dup, 94, [], []),
  (94, .getfield 37, 97, [], []),
  (97, .aload_n 0, 98, [0], []),
  (98, .getfield 23, 101, [], []),
  (101, .iconst 2, 102, [], [2]),
  (102, .iload_n 1, 103, [1], []),
  (103, .iload_n 2, 104, [2], []),
  (104, .aload_n 0, 105, [0], []),
  (105, .getfield 9, 108, [], []),
  (108, .iload_n 1, 109, [1], []),
  (109, .iaload, 110, [], []),
  (110, .iconst 0, 111, [], [0]),
  (111, .invokevirtual 75, 114, [], []),
  (114, .i2l, 115, [], []),
  (115, .ladd, 116, [], []),
  (116, .putfield 37, 119, [], []),
  (119, .return_, 120, [], [])]
theorem zo_X3_grow : ab_ok cX3_grow zp_X3_grow = true := by decide +kernel
def zg_X3_grow : ab_G := (zw_C, zs_tab, zf_X3, zc_X3, [], [(63, 1, zt_X3_nextLot), (69, 3, zt_X10_sinceOf), (75, 6, zt_X1_ask)], [])
theorem zm_X3_grow : ab_MG zg_X3_grow := ab_MGof (List.forall_mem_cons.mpr ⟨zt_X3_nextLot_mono, List.forall_mem_cons.mpr ⟨ab_pp_mono _, List.forall_mem_cons.mpr ⟨zt_X1_ask_mono, List.forall_mem_nil _⟩⟩⟩) (List.forall_mem_nil _)
abbrev zr_X3_grow (Q : ab_R) : ab_K := ab_Run zg_X3_grow zp_X3_grow none 3 Q
set_option maxRecDepth 20000 in
theorem zv_X3_grow_0 {Q : ab_R} {M : ab_M} {N : ab_N} (l1 : Int32) (l2 : Int32) (h : vp_in l1 8 ∧ (((M 42 l1.toNatClampNeg) = 0 → zt_X3_nextLot [.ref 8] M N (fun r M2 N2 => zr_X3_grow Q 18 [some (.ref 8), some (.int l1), some (.int l2)] (ab_ol r [.int l1, .ref 42]) M2 N2)) ∧ (¬ ((M 42 l1.toNatClampNeg) = 0) → vp_in l1 8 ∧ (vp_in l1 8 ∧ (let z1 : Nat → Int32 := upd (M 42) l1.toNatClampNeg ((M 42 l1.toNatClampNeg) + (1 : Int32)); vp_in l1 8 ∧ (vp_in (1 : Int32) 5 ∧ (((z1 l1.toNatClampNeg) = (M 17 1) → let z2 : Nat → Int32 := upd (M 8) 6 ((M 8 6) + (1 : Int32)); vp_in l1 8 ∧ (zt_X1_ask [.ref 5, .int (2 : Int32), .int l1, .int l2, .int (z1 l1.toNatClampNeg), .int (0 : Int32)] (ab_u (ab_u M 42 z1) 8 z2) N (fun r M2 N2 => zr_X3_grow Q 114 [none, none, none] (ab_ol r [.long (N 8 5), .ref 8]) M2 N2))) ∧ (¬ ((z1 l1.toNatClampNeg) = (M 17 1)) → Q none (ab_u M 42 z1) N)))))))) : zr_X3_grow Q 0 [some (.ref 8), some (.int l1), some (.int l2)] [] M N := ab_Run_s zm_X3_grow (sp := [(18, [true, true, true]), (42, [false, false, false]), (114, [false, false, false])]) 76 h
set_option maxRecDepth 20000 in
theorem zv_X3_grow_18 {Q : ab_R} {M : ab_M} {N : ab_N} (l1 : Int32) (l2 : Int32) (s1 : Int32) (s2 : Int64) (h : ¬ (1000 : Int64) = 0 ∧ ((vp_in (l2 * 8 + l1) 96) ∧ (zt_X1_ask [.ref 5, .int (0 : Int32), .int l1, .int l2, .int ((M 39) (l2 * 8 + l1).toNatClampNeg), .int (0 : Int32)] M N (fun r M2 N2 => zr_X3_grow Q 42 [none, none, none] (ab_ol r [.long (s2 - s2 / (1000 : Int64) * (1000 : Int64)), .int s1, .ref 42]) M2 N2)))) : zr_X3_grow Q 18 [some (.ref 8), some (.int l1), some (.int l2)] [.long s2, .int s1, .ref 42] M N := ab_Run_s zm_X3_grow (sp := [(18, [true, true, true]), (42, [false, false, false]), (114, [false, false, false])]) 76 h
set_option maxRecDepth 20000 in
theorem zv_X3_grow_42 {Q : ab_R} {M : ab_M} {N : ab_N} (s1 : Int32) (s2 : Int64) (s3 : Int32) (h : (0 ≤ (lg_cmp s2 (s3.toInt64)) → vp_in s1 8 ∧ (let z1 : Nat → Int32 := upd (M 42) s1.toNatClampNeg (0 : Int32); Q none (ab_u M 42 z1) N)) ∧ (¬ (0 ≤ (lg_cmp s2 (s3.toInt64))) → vp_in s1 8 ∧ (let z2 : Nat → Int32 := upd (M 42) s1.toNatClampNeg (1 : Int32); Q none (ab_u M 42 z2) N))) : zr_X3_grow Q 42 [none, none, none] [.int s3, .long s2, .int s1, .ref 42] M N := ab_Run_s zm_X3_grow (sp := [(18, [true, true, true]), (42, [false, false, false]), (114, [false, false, false])]) 76 h
set_option maxRecDepth 20000 in
theorem zv_X3_grow_114 {Q : ab_R} {M : ab_M} {N : ab_N} (s1 : Int64) (s2 : Int32) (h : let y1 : Nat → Int64 := vp_updL (N 8) 5 (s1 + (s2.toInt64)); Q none M (ab_u N 8 y1)) : zr_X3_grow Q 114 [none, none, none] [.int s2, .long s1, .ref 8] M N := ab_Run_s zm_X3_grow (sp := [(18, [true, true, true]), (42, [false, false, false]), (114, [false, false, false])]) 76 h
theorem zE_X3_grow (as : List Value) (M : ab_M) (N : ab_N) (k : ab_R) (hT : zt_X3_grow as M N k) : ab_cs as ≤ 3 ∧ zr_X3_grow k 0 (ab_en as) [] M N := by
  obtain ⟨p, h, rfl, ⟨hN, hW, q, g, hq, hg, rfl, rfl, ⟨f, l, ha, br, fo⟩, hs, hb⟩, hk⟩ := ab_m2_e hT
  obtain ⟨hA, h0, h1⟩ := id hN
  obtain ⟨hB, hB6, hB2⟩ := zB_eq h0
  obtain ⟨hP, hP8⟩ := zP_eq h0
  obtain ⟨hHe, hH12⟩ := zH_eq h0
  rw [nI_clamp (show q < 2 ^ 31 by omega), nI_clamp (show g < 2 ^ 31 by omega)] at hk
  have s1 : ∀ p, p < 8 → M 42 p = nI (f p) ∧ f p ≤ zBrk M := hs.1
  have s2 : N 8 4 = l := hs.2.1
  have s3 : N 8 5 = ha := hs.2.2.1
  have s4 : M 8 6 = br := hs.2.2.2.1
  have s5 : M 8 7 = fo := hs.2.2.2.2
  have hbq : f q < zBrk M := hb
  obtain ⟨s1q, s1b⟩ := s1 q (by omega)
  have same : ∀ tf t2, zHd (zBrk M) M N (tf, t2) → tf q = f q ∧ t2 = (l, ha, br, fo) := fun tf t2 ht => ⟨(zHd_eq hs ht hB6).1 q (by omega), (zHd_eq hs ht hB6).2⟩
  have ei : nI g * 8 + nI q = nI (g * 8 + q) := by rw [zN_mul g 8 8, nI_add]
  have hsc := zSc_le M q g
  refine ⟨Nat.le_of_ble_eq_true rfl, zv_X3_grow_0 _ _ ?_⟩
  rw [nI_clamp (show q < 2 ^ 31 by omega), s1q, hB]
  refine ⟨nI_in_ (by omega), fun c => ?_, fun c => ⟨nI_in_ (by omega), nI_in_ (by omega), ?_⟩⟩
  · have c4 : f q = 0 := (nI_eq (by omega) (by omega)).mp (show nI (f q) = nI 0 from c)
    refine ab_m0_i trivial ?_
    rintro o M2 N2 ⟨ho, rfl, hN2⟩
    have hl : N2 8 4 = zLot l := by rw [hN2, ab_u_eq, updL_eq, s2, zLot]
    generalize hz : zLot l = L at hl
    rw [hl] at ho
    subst ho
    refine zv_X3_grow_18 _ _ _ _ ⟨by decide, ?_⟩
    rw [ei, nI_clamp (show g * 8 + q < 2 ^ 31 by omega), ((hW g hg).2 q hq).1]
    refine ⟨nI_in_ (by omega), ab_m5_i ⟨hA, 0, q, g, zSc M2 g q, 0, zPcs M2, by omega, hq, hP8, by omega, by omega, by omega, rfl, rfl, rfl, rfl, rfl, hP⟩ ?_⟩
    rintro o M3 N3 ⟨hNe3, hF3, hA3, rfl⟩
    have hle1 := zAsk_le M2 (th := 0) (by omega) q g (zSc M2 g q) 0
    rw [show (0 : Int32).toNatClampNeg = 0 from rfl, nI_clamp (show q < 2 ^ 31 by omega), nI_clamp (show g < 2 ^ 31 by omega), nI_clamp (show zSc M2 g q < 2 ^ 31 by omega)]
    refine zv_X3_grow_42 _ _ _ ?_
    rw [nI_l (by omega), nI_clamp (show q < 2 ^ 31 by omega)]
    have hNf3 : zNfr [8] N N3 := by rw [hNe3, hN2]; exact zNfr_u (zNfr_rf _ _) (by decide) _
    have h84 : N3 8 4 = L := by rw [hNe3]; exact hl
    have h85 : N3 8 5 = ha := by rw [hNe3, hN2, ab_u_eq, updL_ne _ _ (by decide)]; exact s3
    have e42 : M3 42 = M2 42 := hF3 42 (by decide)
    have fin : ∀ v : Nat, v ≤ 1 → v = (if L - L / 1000 * 1000 < lN (zAsk M2 0 q g (zSc M2 g q) 0) then 1 else 0) → k none (ab_u M3 42 (upd (M3 42) q (nI v))) N3 := by
      intro v hv1 hv
      have hF4 : zFr [8, 33, 35, 36, 42] M2 (ab_u M3 42 (upd (M3 42) q (nI v))) := zFr_u (zFr_mono hF3 (by decide)) (by decide) _
      refine hk _ _ _ ⟨rfl, hF4, zAsks_gy hA3 (zFr_u (zFr_rf _ _) (by decide) _), hNf3, fun ⟨tf, t2⟩ ht => ?_⟩
      obtain ⟨t1, rfl⟩ := same tf t2 ht
      rw [zDGrow_0 (by rw [t1, c4]) hz, ← hv]
      refine zHd_mk (zUp_hd (f := f) (by omega) (by rw [ab_u_eq, e42]) ht.1) h84 h85 ?_ ?_
      · rw [ab_u_ne _ _ (by decide), hF3 8 (by decide)]; exact s4
      · rw [ab_u_ne _ _ (by decide), hF3 8 (by decide)]; exact s5
    refine ⟨fun c5 => ⟨nI_in_ (by omega), fin 0 (by omega) ?_⟩, fun c5 => ⟨nI_in_ (by omega), fin 1 (by omega) ?_⟩⟩
    · rw [if_neg (Int64.not_lt.mpr ((lg_cmp_ge _ _).mp c5))]
    · rw [if_pos (Int64.not_le.mp (fun z => c5 ((lg_cmp_ge _ _).mpr z)))]
  · have c4 : ¬ f q = 0 := fun z => c (by rw [z]; rfl)
    intro z1
    have hz1 : z1 = upd (M 42) q (nI (f q + 1)) := by
      show upd (M 42) q (nI (f q) + 1) = _
      rw [nI_1]
    clear_value z1
    have e1 : z1 q = nI (f q + 1) := by rw [hz1, upd_eq]
    rw [e1]
    refine ⟨nI_in_ (by omega), ab_vpk (by decide), fun c5 => ?_, fun c5 => ?_⟩
    · have c6 : f q + 1 = zBrk M := (nI_eq (by omega) (by omega)).mp c5
      intro z2
      have hz2 : z2 = upd (M 8) 6 (M 8 6 + 1) := rfl
      clear_value z2
      have hF2 : zFr [8, 33, 35, 36, 42] M (ab_u (ab_u M 42 z1) 8 z2) := zFr_u (zFr_u (zFr_rf _ _) (by decide) _) (by decide) _
      have hA2 : zAsks (ab_u (ab_u M 42 z1) 8 z2) := zAsks_gy hA (zFr_u (zFr_u (zFr_rf _ _) (by decide) _) (by decide) _)
      refine ⟨nI_in_ (by omega), ab_m5_i ⟨hA2, 2, q, g, f q + 1, 0, zPcs M, by omega, hq, hP8, by omega, by omega, by omega, rfl, rfl, rfl, rfl, rfl, by rw [hF2 1 (by decide), hP]⟩ ?_⟩
      rintro o M3 N3 ⟨hNe3, hF3, hA3, rfl⟩
      have hle2 := zAsk_le M (th := 2) (by omega) q g (f q + 1) 0
      rw [zAsk_gx (zFr_mono hF2 (by decide)), show (2 : Int32).toNatClampNeg = 2 from rfl, show (0 : Int32).toNatClampNeg = 0 from rfl, nI_clamp (show q < 2 ^ 31 by omega), nI_clamp (show g < 2 ^ 31 by omega), nI_clamp (show f q + 1 < 2 ^ 31 by omega), s3]
      refine zv_X3_grow_114 _ _ ?_
      rw [nI_l (by omega)]
      intro y1
      have hy1 : y1 = vp_updL (N 8) 5 (ha + lN (zAsk M 2 q g (f q + 1) 0)) := by rw [← hNe3]
      clear_value y1
      refine hk _ _ _ ⟨rfl, zFr_tr hF2 (zFr_mono hF3 (by decide)), hA3, zNfr_u (by rw [hNe3]; exact zNfr_rf _ _) (by decide) _, fun ⟨tf, t2⟩ ht => ?_⟩
      obtain ⟨t1, rfl⟩ := same tf t2 ht
      rw [zDGrow_1 (by rw [t1]; exact c4) (by rw [t1]; exact c6), t1]
      refine zHd_mk (zUp_hd (f := f) (by omega) (by rw [hF3 42 (by decide), ab_u_ne _ _ (by decide), ab_u_eq]; exact hz1) ht.1) ?_ ?_ ?_ ?_
      · rw [ab_u_eq, hy1, updL_ne _ _ (by decide)]; exact s2
      · rw [ab_u_eq, hy1, updL_eq]
      · rw [hF3 8 (by decide), ab_u_eq, hz2, upd_eq, s4]
      · rw [hF3 8 (by decide), ab_u_eq, hz2, upd_ne _ _ (by decide)]; exact s5
    · have c6 : ¬ f q + 1 = zBrk M := fun z => c5 (by rw [z])
      refine hk _ _ _ ⟨rfl, zFr_u (zFr_rf _ _) (by decide) _, zAsks_gy hA (zFr_u (zFr_rf _ _) (by decide) _), zNfr_rf _ _, fun ⟨tf, t2⟩ ht => ?_⟩
      obtain ⟨t1, rfl⟩ := same tf t2 ht
      rw [zDGrow_2 (by rw [t1]; exact c4) (by rw [t1]; exact c6), t1]
      refine zHd_mk (zUp_hd (f := f) (by omega) (by rw [ab_u_eq]; exact hz1) ht.1) s2 s3 ?_ ?_
      · rw [ab_u_ne _ _ (by decide)]; exact s4
      · rw [ab_u_ne _ _ (by decide)]; exact s5
abbrev zR_X3_grow : Room := { frames := 3, cells := 0, slots := 0, locals := 80 }
set_option maxRecDepth 20000 in
theorem zM_X3_grow (l : Launch) : ab_Met l zw_C vwCl zZ_C yX3_grow cX3_grow 3 none zR_X3_grow zt_X3_grow := ab_ofRun (G := zg_X3_grow) (P := zp_X3_grow) rfl zo_X3_grow (by decide +kernel) zl_cl zl_lamC zf_X3_ok zs_tabOK zc_X3_ok ab_Sta_nil (List.forall_mem_cons.mpr ⟨ab_callV zZ_C_ok (zM_X3_nextLot l) (ab_in 891 (by decide +kernel) rfl) (ab_in 888 (by decide +kernel) rfl) (ab_in 890 (by decide +kernel) rfl) (ab_inS (List.mem_of_getElem? (i := 24) (by decide +kernel)) rfl) (ab_in 9 (by decide +kernel) rfl) (by unfold ab_yok; decide +kernel) ⟨rfl, rfl⟩ (by decide) zV_X3_nextLot, List.forall_mem_cons.mpr ⟨ab_callV zZ_C_ok (zM_X10_sinceOf l) (ab_in 699 (by decide +kernel) rfl) (ab_in 895 (by decide +kernel) rfl) (ab_in 697 (by decide +kernel) rfl) (ab_in 698 (by decide +kernel) rfl) (ab_in 7 (by decide +kernel) rfl) (by unfold ab_yok; decide +kernel) ⟨rfl, rfl⟩ (by decide) zV_X10_sinceOf, List.forall_mem_cons.mpr ⟨ab_callV zZ_C_ok (zM_X1_ask l) (ab_in 590 (by decide +kernel) rfl) (ab_in 896 (by decide +kernel) rfl) (ab_in 588 (by decide +kernel) rfl) (ab_in 589 (by decide +kernel) rfl) (ab_in 6 (by decide +kernel) rfl) (by unfold ab_yok; decide +kernel) ⟨rfl, rfl⟩ (by decide) zV_X1_ask, List.forall_mem_nil _⟩⟩⟩) (List.forall_mem_nil _) zE_X3_grow
