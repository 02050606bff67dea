/-! the reference: a night drawn by lots *)
-/
def zFrD (M M2 : ab_M) : Prop := (∀ j, j ≠ 71 → M2 0 j = M 0 j) ∧ ∀ c, c ≠ 0 → c ≠ 26 → c ≠ 27 → c ≠ 33 → M2 c = M c
theorem zFrD_rf (M : ab_M) : zFrD M M := ⟨fun _ _ => rfl, fun _ _ _ _ _ => rfl⟩
theorem zFrD_tr {M M2 M3 : ab_M} (h : zFrD M M2) (g : zFrD M2 M3) : zFrD M M3 := ⟨fun j hj => (g.1 j hj).trans (h.1 j hj), fun c a b d e => (g.2 c a b d e).trans (h.2 c a b d e)⟩
theorem zFrD_of {M M2 : ab_M} (h : zFr [26, 27] M M2) : zFrD M M2 := ⟨fun j _ => by rw [h 0 (by decide)], fun c a b d e => h c (by simp [b, d])⟩
theorem zFrD_33 {M M2 : ab_M} (h : zFrD M M2) (f : Nat → Int32) : zFrD M (ab_u M2 33 f) := ⟨fun j hj => by rw [ab_u_ne _ _ (by decide)]; exact h.1 j hj, fun c a b d e => by rw [ab_u_ne _ _ e]; exact h.2 c a b d e⟩
theorem zFrD_0 {M M2 : ab_M} (h : zFrD M M2) (x : Int32) : zFrD M (ab_u M2 0 (upd (M2 0) 71 x)) := ⟨fun j hj => by rw [ab_u_eq, upd_ne _ _ hj]; exact h.1 j hj, fun c a b d e => by rw [ab_u_ne _ _ a]; exact h.2 c a b d e⟩
theorem zRN_D {d M M2 : ab_M} (h : zRN d M) (hF : zFrD M M2) : zRN d M2 := zRN_fr h (fun j hj => hF.1 j (by omega)) (fun c h1 h2 => hF.2 c (by omega) (by omega) (by omega) (by omega))
theorem zWkR_D {d M M2 : ab_M} {n : Nat} (h : zWkR d M n) (hF : zFrD M M2) : zWkR d M2 n := fun g hg => by
  rw [hF.2 28 (by decide) (by decide) (by decide) (by decide), hF.2 29 (by decide) (by decide) (by decide) (by decide), hF.2 30 (by decide) (by decide) (by decide) (by decide)]
  exact h g hg
def zHdR (b : Nat) (M : ab_M) (N : ab_N) (s : zDs) : Prop := (∀ p, p < 8 → M 33 p = nI (s.1 p) ∧ s.1 p ≤ b) ∧ N 0 68 = s.2.1 ∧ N 0 70 = s.2.2.1 ∧ M 0 71 = s.2.2.2.2 ∧ ∃ l : Nat, l < 2 ^ 31 ∧ s.2.1 = lN l
theorem zHdR_mk {b : Nat} {M : ab_M} {N : ab_N} {f : Nat → Nat} {l : Nat} {ha : Int64} {br fo : Int32} (h1 : ∀ p, p < 8 → M 33 p = nI (f p) ∧ f p ≤ b) (hl : l < 2 ^ 31) (h2 : N 0 68 = lN l) (h3 : N 0 70 = ha) (h5 : M 0 71 = fo) : zHdR b M N (f, lN l, ha, br, fo) := ⟨h1, h2, h3, h5, l, hl, rfl⟩
def zLotN (l : Nat) : Nat := l * 48271 % 2147483647
theorem zLot_N {l : Nat} (h : l < 2 ^ 31) : zLot (lN l) = lN (zLotN l) ∧ zLotN l < 2 ^ 31 := by
  have e : (48271 : Int64) = lN 48271 := rfl
  have e2 : (2147483647 : Int64) = lN 2147483647 := rfl
  unfold zLot zLotN
  rw [e, e2, lN_mul, pk_lRem (by omega) (by decide) (by decide)]
  exact ⟨rfl, by have := Nat.mod_lt (l * 48271) (show 0 < 2147483647 by decide); omega⟩
def zt_X12_draws : ab_T := ab_lq (α := Nat × Nat) (fun x r _ N => r = [.int (nI x.2)] ∧ x.1 < 2 ^ 31 ∧ 0 < x.2 ∧ x.2 ≤ 1000 ∧ N 0 68 = lN x.1)
  (fun x M N o M2 N2 => M2 = M ∧ o = some (.int (nI (zLotN x.1 % x.2))) ∧ N2 = ab_u N 0 (vp_updL (N 0) 68 (lN (zLotN x.1))))
theorem zt_X12_draws_mono : ab_mono zt_X12_draws := ab_lq_mono _ _
theorem zV_X12_draws : ab_recv zw_M vwCl RX12 zt_X12_draws := ab_lq_v
def zp_X12_draws : ab_P := [(0, .aload_n 0, 1, [0], []),
  (1, .aload_n 0, 2, [0], []),
  (2, .getfield 358, 5, [], []),
  (5, .ldc2_w 361, 8, [], []),
  (8, .lmul, 9, [], []),
  (9, .ldc2_w 363, 12, [], []),
  (12, .lrem, 13, [], []),
  (13, .putfield 358, 16, [], []),
  (16, .aload_n 0, 17, [0], []),
  (17, .getfield 358, 20, [], []),
  (20, .iload_n 1, 21, [1], []),
  (21, .i2l, 22, [], []),
  (22, .lrem, 23, [], []),
  (23, .l2i, 24, [], []),
  (24, .ireturn, 25, [], [])]
theorem zo_X12_draws : ab_ok cX12_draws zp_X12_draws = true := by decide +kernel
def zg_X12_draws : ab_G := (zw_M, [], zf_X12, zc_X12, [], [], [])
theorem zm_X12_draws : ab_MG zg_X12_draws := ab_MGof (List.forall_mem_nil _) (List.forall_mem_nil _)
abbrev zr_X12_draws (Q : ab_R) : ab_K := ab_Run zg_X12_draws zp_X12_draws (some .int) 2 Q
set_option maxRecDepth 20000 in
theorem zv_X12_draws_0 {Q : ab_R} {M : ab_M} {N : ab_N} (l1 : Int32) (h : ¬ (2147483647 : Int64) = 0 ∧ (let y1 : Nat → Int64 := vp_updL (N 0) 68 (((N 0 68) * (48271 : Int64)) - ((N 0 68) * (48271 : Int64)) / (2147483647 : Int64) * (2147483647 : Int64)); ¬ (l1.toInt64) = 0 ∧ (Q (some (.int (((y1 68) - (y1 68) / (l1.toInt64) * (l1.toInt64)).toInt32))) M (ab_u N 0 y1)))) : zr_X12_draws Q 0 [some (.ref 0), some (.int l1)] [] M N := ab_Run_s zm_X12_draws (sp := []) 17 h
theorem zE_X12_draws (as : List Value) (M : ab_M) (N : ab_N) (k : ab_R) (hT : zt_X12_draws as M N k) : ab_cs as ≤ 2 ∧ zr_X12_draws k 0 (ab_en as) [] M N := by
  obtain ⟨⟨l, q⟩, r, rfl, ⟨rfl, hl, h0, h1, hN⟩, hk⟩ := hT
  dsimp only at hl h0 h1 hN hk ⊢
  obtain ⟨z1, z2⟩ := zLot_N hl
  refine ⟨Nat.le_of_ble_eq_true rfl, zv_X12_draws_0 _ ⟨by decide, ?_⟩⟩
  intro y1
  have e : y1 = vp_updL (N 0) 68 (lN (zLotN l)) := by
    simp only [y1]
    rw [hN]
    exact congrArg (vp_updL (N 0) 68) z1
  clear_value y1
  subst e
  rw [nI_l (by omega), updL_eq, pk_lRem (by omega) h0 (by omega), lN_i]
  refine ⟨fun z => ?_, hk _ _ _ ⟨rfl, rfl, rfl⟩⟩
  have := (pk_lEQ (b := 0) (by omega) (by decide)).mp (show lN q = lN 0 from z)
  omega
abbrev zR_X12_draws : Room := { frames := 0, cells := 0, slots := 0, locals := 0 }
set_option maxRecDepth 20000 in
theorem zM_X12_draws (l : Launch) : ab_Met l zw_M vwCl zZ_M yX12_draws cX12_draws 2 (some .int) zR_X12_draws zt_X12_draws := ab_ofRun (G := zg_X12_draws) (P := zp_X12_draws) rfl zo_X12_draws (by decide +kernel) zl_cl zl_lamM zf_X12_ok ab_Tab_nil zc_X12_ok ab_Sta_nil (List.forall_mem_nil _) (List.forall_mem_nil _) zE_X12_draws
def zt_X12_lookDrawn : ab_T := ab_lq (α := ab_M × Nat × Nat × Nat × zDs) (fun x r M N => r = [.int (nI x.2.1), .int (nI x.2.2.1), .int (nI x.2.2.2.1)] ∧ zRN x.1 M ∧ x.2.1 < 8 ∧ x.2.2.1 < 12 ∧ zHdR (zBrk x.1) M N x.2.2.2.2)
  (fun x M N o M2 N2 => o = none ∧ zFrD M M2 ∧ zNfr [0] N N2 ∧ zHdR (zBrk x.1) M2 N2 (zDLook1 x.1 x.2.1 x.2.2.1 x.2.2.2.1 x.2.2.2.2))
theorem zt_X12_lookDrawn_mono : ab_mono zt_X12_lookDrawn := ab_lq_mono _ _
theorem zV_X12_lookDrawn : ab_recv zw_M vwCl RX12 zt_X12_lookDrawn := ab_lq_v
def zp_X12_lookDrawn : ab_P := [(0, .aload_n 0, 1, [0], []),
  (1, .getfield 160, 4, [], []),
  (4, .iload_n 1, 5, [1], []),
  (5, .iaload, 6, [], []),
  (6, .ifCond .le 80, 9, [86], []),
  (9, .aload_n 0, 10, [0], []),
  (10, .getfield 160, 13, [], []),
  (13, .iload_n 1, 14, [1], []),
  (14, .iaload, 15, [], []),
  (15, .aload_n 0, 16, [0], []),
  (16, .getfield 13, 19, [], []),
  (19, .if_icmp .ge 67, 22, [86], []),
  (22, .aload_n 0, 23, [0], []),
  (23, .bipush 100, 25, [], [100]),
  (25, .invokevirtual 365, 28, [], []),
  (28, .aload_n 0, 29, [0], []),
  (29, .iconst 1, 30, [], [1]),
  (30, .iload_n 1, 31, [1], []),
  (31, .iload_n 2, 32, [2], []),
  (32, .aload_n 0, 33, [0], []),
  (33, .getfield 160, 36, [], []),
  (36, .iload_n 1, 37, [1], []),
  (37, .iaload, 38, [], []),
  (38, .iload_n 3, 39, [3], []),
  (39, .invokevirtual 264, 42, [], []),
  (42, .if_icmp .ge 44, 45, [86], []),
  (45, .aload_n 0, 46, [0], []),
  (46, .dup, 47, [], []),
  (47, .getfield 368, 50, [], []),
  (50, .aload_n 0, 51, [0], []),
  (51, .iconst 2, 52, [], [2]),
  (52, .iload_n 1, 53, [1], []),
  (53, .iload_n 2, 54, [2], []),
  (54, .aload_n 0, 55, [0], []),
  (55, .getfield 160, 58, [], []),
  (58, .iload_n 1, 59, [1], []),
  (59, .iaload, 60, [], []),
  (60, .iconst 0, 61, [], [0]),
  (61, .invokevirtual 264, 64, [], []),
  (64, .i2l, 65, [], []),
  (65, .ladd, 66, [], []),
  (66, .putfield 368, 69, [], []),
  (69, .aload_n 0, 70, [0], []),
  (70, .dup, 71, [], []),
  (71, .getfield 371, 74, [], []),
  (74, .iconst 1, 75, [], [1]),
  (75, .iadd, 76, [], []),
  (76, .putfield 371, 79, [], []),
  (79, .aload_n 0, 80, [0], []),
  (80, .getfield 160, 83, [], []),
  (83, .iload_n 1, 84, [1], []),
  (84, .iconst 0, 85, [], [0]),
  (85, .iastore, 86, [], []),
  (86, .return_, 87, [], [])]
theorem zo_X12_lookDrawn : ab_ok cX12_lookDrawn zp_X12_lookDrawn = true := by decide +kernel
def zg_X12_lookDrawn : ab_G := (zw_M, [], zf_X12, zc_X12, [], [(264, 6, zt_X12_says), (365, 2, zt_X12_draws)], [])
theorem zm_X12_lookDrawn : ab_MG zg_X12_lookDrawn := ab_MGof (List.forall_mem_cons.mpr ⟨zt_X12_says_mono, List.forall_mem_cons.mpr ⟨zt_X12_draws_mono, List.forall_mem_nil _⟩⟩) (List.forall_mem_nil _)
abbrev zr_X12_lookDrawn (Q : ab_R) : ab_K := ab_Run zg_X12_lookDrawn zp_X12_lookDrawn none 4 Q
set_option maxRecDepth 20000 in
theorem zv_X12_lookDrawn_0 {Q : ab_R} {M : ab_M} {N : ab_N} (l1 : Int32) (l2 : Int32) (l3 : Int32) (h : vp_in l1 8 ∧ (((M 33 l1.toNatClampNeg) ≤ 0 → Q none M N) ∧ (¬ ((M 33 l1.toNatClampNeg) ≤ 0) → vp_in l1 8 ∧ (((M 0 1) ≤ (M 33 l1.toNatClampNeg) → Q none M N) ∧ (¬ ((M 0 1) ≤ (M 33 l1.toNatClampNeg)) → zt_X12_draws [.ref 0, .int (100 : Int32)] M N (fun r M2 N2 => zr_X12_lookDrawn Q 28 [some (.ref 0), some (.int l1), some (.int l2), some (.int l3)] (ab_ol r []) M2 N2)))))) : zr_X12_lookDrawn Q 0 [some (.ref 0), some (.int l1), some (.int l2), some (.int l3)] [] M N := ab_Run_s zm_X12_lookDrawn (sp := [(28, [true, true, true, true]), (42, [true, true, true, false]), (64, [true, true, false, false])]) 56 h
set_option maxRecDepth 20000 in
theorem zv_X12_lookDrawn_28 {Q : ab_R} {M : ab_M} {N : ab_N} (l1 : Int32) (l2 : Int32) (l3 : Int32) (s0 : Int32) (h : vp_in l1 8 ∧ (zt_X12_says [.ref 0, .int (1 : Int32), .int l1, .int l2, .int (M 33 l1.toNatClampNeg), .int l3] M N (fun r M2 N2 => zr_X12_lookDrawn Q 42 [some (.ref 0), some (.int l1), some (.int l2), none] (ab_ol r [.int s0]) M2 N2))) : zr_X12_lookDrawn Q 28 [some (.ref 0), some (.int l1), some (.int l2), some (.int l3)] [.int s0] M N := ab_Run_s zm_X12_lookDrawn (sp := [(28, [true, true, true, true]), (42, [true, true, true, false]), (64, [true, true, false, false])]) 56 h
set_option maxRecDepth 20000 in
theorem zv_X12_lookDrawn_42 {Q : ab_R} {M : ab_M} {N : ab_N} (l1 : Int32) (l2 : Int32) (s0 : Int32) (s1 : Int32) (h : (s1 ≤ s0 → Q none M N) ∧ (¬ (s1 ≤ s0) → vp_in l1 8 ∧ (zt_X12_says [.ref 0, .int (2 : Int32), .int l1, .int l2, .int (M 33 l1.toNatClampNeg), .int (0 : Int32)] M N (fun r M2 N2 => zr_X12_lookDrawn Q 64 [some (.ref 0), some (.int l1), none, none] (ab_ol r [.long (N 0 70), .ref 0]) M2 N2)))) : zr_X12_lookDrawn Q 42 [some (.ref 0), some (.int l1), some (.int l2), none] [.int s1, .int s0] M N := ab_Run_s zm_X12_lookDrawn (sp := [(28, [true, true, true, true]), (42, [true, true, true, false]), (64, [true, true, false, false])]) 56 h
set_option maxRecDepth 20000 in
theorem zv_X12_lookDrawn_64 {Q : ab_R} {M : ab_M} {N : ab_N} (l1 : Int32) (s1 : Int64) (s2 : Int32) (h : let y1 : Nat → Int64 := vp_updL (N 0) 70 (s1 + (s2.toInt64)); let z2 : Nat → Int32 := upd (M 0) 71 ((M 0 71) + (1 : Int32)); vp_in l1 8 ∧ (let z3 : Nat → Int32 := upd (M 33) l1.toNatClampNeg (0 : Int32); Q none (ab_u (ab_u M 0 z2) 33 z3) (ab_u N 0 y1))) : zr_X12_lookDrawn Q 64 [some (.ref 0), some (.int l1), none, none] [.int s2, .long s1, .ref 0] M N := ab_Run_s zm_X12_lookDrawn (sp := [(28, [true, true, true, true]), (42, [true, true, true, false]), (64, [true, true, false, false])]) 56 h
theorem zL_X12_lookDrawn {k : ab_R} {d M : ab_M} {N : ab_N} {p h pc l : Nat} {f : Nat → Nat} {ha : Int64} {br fo : Int32} (hR : zRN d M) (hp : p < 8) (hh : h < 12) (h1 : ∀ p, p < 8 → M 33 p = nI (f p) ∧ f p ≤ zBrk d) (hl : l < 2 ^ 31) (h2 : N 0 68 = lN l) (h3 : N 0 70 = ha) (h5 : M 0 71 = fo) (hk : ∀ M2 N2, zFrD M M2 → zNfr [0] N N2 → zHdR (zBrk d) M2 N2 (zDLook1 d p h pc (f, lN l, ha, br, fo)) → k none M2 N2) : zr_X12_lookDrawn k 0 [some (.ref 0), some (.int (nI p)), some (.int (nI h)), some (.int (nI pc))] [] M N := by
  obtain ⟨n1, n2, n3, n4, n5, n6, n7, n8, n9, n10⟩ := zNI_n hR
  obtain ⟨g1, g2⟩ := h1 p hp
  have hin : vp_in (nI p) 8 := nI_in_ hp
  have cp : (nI p).toNatClampNeg = p := nI_clamp (by omega)
  refine zv_X12_lookDrawn_0 _ _ _ ?_
  rw [cp, g1, n8]
  refine ⟨hin, fun c => ?_, fun c => ⟨hin, fun c2 => ?_, fun c2 => ?_⟩⟩
  · have e : f p = 0 := by
      have := (nI_leI (b := 0) (show f p < 2 ^ 31 by omega) (by decide)).mp (show nI (f p) ≤ nI 0 from c)
      omega
    refine hk M N (zFrD_rf _) (zNfr_rf _ _) ?_
    rw [zDLook1_0 (Or.inl e)]
    exact zHdR_mk h1 hl h2 h3 h5
  · have e : f p = zBrk d := by
      have := (nI_leI (by omega) (by omega)).mp c2
      omega
    refine hk M N (zFrD_rf _) (zNfr_rf _ _) ?_
    rw [zDLook1_0 (Or.inr e)]
    exact zHdR_mk h1 hl h2 h3 h5
  · have e0 : ¬ f p = 0 := fun z => c (by rw [z]; decide)
    have e1 : ¬ f p = zBrk d := fun z => c2 (by rw [z]; exact nI_le (Nat.le_refl _) (by omega))
    have ne : ¬ (f p = 0 ∨ f p = zBrk d) := fun z => z.elim e0 e1
    obtain ⟨z1, z2⟩ := zLot_N hl
    refine ⟨(l, 100), _, rfl, ⟨rfl, hl, (show 0 < 100 by decide), (show 100 ≤ 1000 by decide), h2⟩, ?_⟩
    rintro o M1 N1 ⟨rfl, rfl, rfl⟩
    refine zv_X12_lookDrawn_28 _ _ _ _ ?_
    rw [cp, g1]
    refine ⟨hin, (d, 1, p, h, f p, pc), _, rfl, ⟨rfl, hR, (show 1 < 3 by decide), hp, hh, by dsimp only; omega⟩, ?_⟩
    rintro o M2 N2 ⟨rfl, hF, rfl⟩
    have a1 := zAskR_le d 1 (by decide) p h (f p) pc
    have hFD := zFrD_of hF
    have h33 : M2 33 = M1 33 := hF 33 (by decide)
    have gN : zNfr [0] N (ab_u N 0 (vp_updL (N 0) 68 (lN (zLotN l)))) := zNfr_u (zNfr_rf _ _) (by decide) _
    have hm : zLotN l % 100 < 100 := Nat.mod_lt _ (by decide)
    have e100 : zLot (lN l) - zLot (lN l) / 100 * 100 = lN (zLotN l % 100) := by rw [z1]; exact pk_lRem (b := 100) (by omega) (by decide) (by decide)
    refine zv_X12_lookDrawn_42 _ _ _ _ ?_
    dsimp only
    rw [cp, h33, g1]
    refine ⟨fun c3 => ?_, fun c3 => ⟨hin, ?_⟩⟩
    · have q : zAsk d 1 p h (f p) pc ≤ zLotN l % 100 := (nI_leI (by omega) (by omega)).mp c3
      refine hk M2 _ hFD gN ?_
      rw [zDLook1_1 (L := lN (zLotN l)) ne z1 (by rw [← z1, e100]; intro z; have := (pk_lLT (by omega) (by omega)).mp z; omega)]
      exact zHdR_mk (fun i hi => by rw [h33]; exact h1 i hi) z2 (by rw [ab_u_eq, updL_eq]) (by rw [ab_u_eq, updL_ne _ _ (by decide), h3]) (by rw [hF 0 (by decide), h5])
    · have q : zLotN l % 100 < zAsk d 1 p h (f p) pc := Nat.not_le.mp fun z => c3 (nI_le z (by omega))
      refine ⟨(d, 2, p, h, f p, 0), _, rfl, ⟨rfl, zRN_zfr hR hF (by decide), (show 2 < 3 by decide), hp, hh, by dsimp only; omega⟩, ?_⟩
      rintro o M3 N3 ⟨rfl, hF3, rfl⟩
      have a2 := zAskR_le d 2 (by decide) p h (f p) 0
      have h33b : M3 33 = M1 33 := (hF3 33 (by decide)).trans h33
      refine zv_X12_lookDrawn_64 _ _ _ ?_
      intro y1 z3
      refine ⟨hin, ?_⟩
      intro z4
      refine hk _ _ (zFrD_33 (zFrD_0 (zFrD_tr hFD (zFrD_of hF3)) _) _) (zNfr_u gN (by decide) _) ?_
      rw [zDLook1_2 (L := lN (zLotN l)) ne z1 (by rw [← z1, e100]; exact (pk_lLT (by omega) (by omega)).mpr q)]
      refine zHdR_mk (fun i hi => ?_) z2 ?_ ?_ ?_
      · rw [ab_u_eq]
        simp only [z4]
        rw [cp]
        unfold zUp
        by_cases e : i = p
        · subst e
          rw [upd_eq, if_pos rfl]
          exact ⟨rfl, Nat.zero_le _⟩
        · rw [upd_ne _ _ e, if_neg e, h33b]
          exact h1 i hi
      · rw [ab_u_eq]
        simp only [y1]
        rw [updL_ne _ _ (by decide), ab_u_eq, updL_eq]
      · rw [ab_u_eq]
        simp only [y1]
        rw [updL_eq, ab_u_eq, updL_ne _ _ (by decide), h3, nI_l (by omega)]
      · rw [ab_u_ne _ _ (by decide), ab_u_eq]
        simp only [z3]
        rw [upd_eq, hF3 0 (by decide), hF 0 (by decide), h5]
theorem zE_X12_lookDrawn (as : List Value) (M : ab_M) (N : ab_N) (k : ab_R) (hT : zt_X12_lookDrawn as M N k) : ab_cs as ≤ 4 ∧ zr_X12_lookDrawn k 0 (ab_en as) [] M N := by
  obtain ⟨⟨d, p, h, pc, f, lo, ha, br, fo⟩, r, rfl, ⟨rfl, hR, hp, hh, h1, h2, h3, h5, l, hl, h6⟩, hk⟩ := hT
  dsimp only at hR hp hh h1 h2 h3 h5 h6 hk ⊢
  subst h6
  exact ⟨Nat.le_of_ble_eq_true rfl, zL_X12_lookDrawn (br := br) hR hp hh h1 hl h2 h3 h5 (fun M2 N2 a b c => hk _ _ _ ⟨rfl, a, b, c⟩)⟩
abbrev zR_X12_lookDrawn : Room := { frames := 3, cells := 0, slots := 0, locals := 73 }
set_option maxRecDepth 20000 in
theorem zM_X12_lookDrawn (l : Launch) : ab_Met l zw_M vwCl zZ_M yX12_lookDrawn cX12_lookDrawn 4 none zR_X12_lookDrawn zt_X12_lookDrawn := ab_ofRun (G := zg_X12_lookDrawn) (P := zp_X12_lookDrawn) rfl zo_X12_lookDrawn (by decide +kernel) zl_cl zl_lamM zf_X12_ok ab_Tab_nil zc_X12_ok ab_Sta_nil (List.forall_mem_cons.mpr ⟨ab_callV zZ_M_ok (zM_X12_says l) (ab_in 1282 (by decide +kernel) rfl) (ab_in 1279 (by decide +kernel) rfl) (ab_in 1281 (by decide +kernel) rfl) (ab_inS (List.mem_of_getElem? (i := 37) (by decide +kernel)) rfl) (ab_in 17 (by decide +kernel) rfl) (by unfold ab_yok; decide +kernel) ⟨rfl, rfl⟩ (by decide) zV_X12_says, List.forall_mem_cons.mpr ⟨ab_callV zZ_M_ok (zM_X12_draws l) (ab_in 1501 (by decide +kernel) rfl) (ab_in 1498 (by decide +kernel) rfl) (ab_in 1500 (by decide +kernel) rfl) (ab_inS (List.mem_of_getElem? (i := 59) (by decide +kernel)) rfl) (ab_in 17 (by decide +kernel) rfl) (by unfold ab_yok; decide +kernel) ⟨rfl, rfl⟩ (by decide) zV_X12_draws, List.forall_mem_nil _⟩⟩) (List.forall_mem_nil _) zE_X12_lookDrawn
