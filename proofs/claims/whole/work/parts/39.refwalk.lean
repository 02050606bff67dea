/-! the reference: where they go, who looks *)
-/
theorem zNI_n {d M : ab_M} (h : zRN d M) : M 0 7 = nI (zPcs d) ∧ zPcs d ≤ 8 ∧ M 0 12 = nI (zMen d) ∧ zMen d ≤ 5 ∧ M 0 0 = nI (zHrs d) ∧ 1 ≤ zHrs d ∧ zHrs d ≤ 12 ∧ M 0 1 = nI (zBrk d) ∧ 2 ≤ zBrk d ∧ zBrk d ≤ 6 := by
  obtain ⟨⟨⟨a1, a2, a3, a4, a5, a6, a7, a8⟩, -, -, -⟩, ⟨⟨i1, i2⟩, ⟨i3, i4⟩, -, -, -, ⟨i5, i6⟩, -, i7, i8⟩, -⟩ := h
  obtain ⟨x, hx, ex⟩ := nI_of (x := d 1 4) (Int32.not_lt.mpr i5)
  obtain ⟨y, hy, ey⟩ := nI_of (x := d 2 6) (Int32.not_lt.mpr i7)
  obtain ⟨z, hz, ez⟩ := nI_of (x := d 17 0) (Int32.not_lt.mpr (by grind))
  obtain ⟨w, hw, ew⟩ := nI_of (x := d 17 1) (Int32.not_lt.mpr (by grind))
  unfold zPcs zMen zHrs zBrk
  rw [ex, nI_clamp hx, ey, nI_clamp hy, ez, nI_clamp hz, ew, nI_clamp hw]
  rw [ex] at a7 i6
  rw [ey] at a8 i8
  rw [ez] at a1 i1 i2
  rw [ew] at a2 i3 i4
  exact ⟨a7.symm, (nI_leI hx (by decide)).mp (show nI x ≤ nI 8 from i6), a8.symm, (nI_leI hy (by decide)).mp (show nI y ≤ nI 5 from i8), a1.symm, (nI_leI (by decide) hz).mp (show nI 1 ≤ nI z from i1), (nI_leI hz (by decide)).mp (show nI z ≤ nI 12 from i2), a2.symm, (nI_leI (by decide) hw).mp (show nI 2 ≤ nI w from i3), (nI_leI hw (by decide)).mp (show nI w ≤ nI 6 from i4)⟩
theorem e12 (m h : Nat) : (12 : Int32) * nI m + nI h = nI (12 * m + h) := by rw [show (12 : Int32) = nI 12 from rfl, pk_mul, nI_add]
/-- a man's numbers -/
theorem zMan_n {d M : ab_M} (h : zRN d M) {m : Nat} (hm : m < zMen d) : ∃ kd po en pa mo : Nat, kd ≤ 5 ∧ po < zPcs d ∧ en < zPcs d ∧ 1 ≤ pa ∧ pa ≤ 3 ∧ mo ≤ 5 ∧ d 25 m = nI kd ∧ d 26 m = nI po ∧ d 27 m = nI en ∧ d 28 m = nI pa ∧ d 29 m = nI mo ∧ M 6 m = nI kd ∧ M 7 m = nI po ∧ M 8 m = nI en ∧ M 9 m = nI pa ∧ M 10 m = nI mo := by
  obtain ⟨g1, g2, -⟩ := zNI_n h
  obtain ⟨⟨⟨-, -, -, -, -, -, a7, -⟩, ⟨-, -, -, -, -, b6, b7, b8, b9, b10, b11⟩, -, -⟩, -, h1, -⟩ := h
  obtain ⟨⟨k1, k2⟩, ⟨k3, k4⟩, ⟨k5, k6⟩, ⟨k7, k8⟩, ⟨k9, k10⟩, -⟩ := h1 m hm
  have e14 : d 1 4 = nI (zPcs d) := by rw [a7, g1]
  have nn : ∀ (x B : Int32) (b : Nat), b < 2 ^ 31 → B = nI b → 0 ≤ x → x ≤ B → ∃ j, j ≤ b ∧ x = nI j := by
    intro x B b hb eb h0 h2
    obtain ⟨j, hj, ej⟩ := nI_of (Int32.not_lt.mpr h0)
    rw [ej, eb] at h2
    exact ⟨j, (nI_leI hj hb).mp h2, ej⟩
  have nl : ∀ (x : Int32), 0 ≤ x → x < d 1 4 → ∃ j, j < zPcs d ∧ x = nI j := by
    intro x h0 h2
    obtain ⟨j, hj, ej⟩ := nI_of (Int32.not_lt.mpr h0)
    rw [ej, e14] at h2
    exact ⟨j, (nI_ltI hj (by omega)).mp h2, ej⟩
  obtain ⟨kd, q1, e1⟩ := nn _ 5 5 (by decide) rfl k1 k2
  obtain ⟨po, q2, e2⟩ := nl _ k3 k4
  obtain ⟨en, q3, e3⟩ := nl _ k5 k6
  obtain ⟨pa, q4, e4⟩ := nn _ 3 3 (by decide) rfl (by grind) k8
  obtain ⟨mo, q5, e5⟩ := nn _ 5 5 (by decide) rfl k9 k10
  have q6 : 1 ≤ pa := by
    rw [e4] at k7
    exact (nI_leI (by decide) (by omega)).mp (show nI 1 ≤ nI pa from k7)
  exact ⟨kd, po, en, pa, mo, q1, q2, q3, q6, q4, q5, e1, e2, e3, e4, e5, by rw [← b6, e1], by rw [← b7, e2], by rw [← b8, e3], by rw [← b9, e4], by rw [← b10, e5]⟩
def zt_X12_danger : ab_T := ab_lq (α := ab_M × Nat × Nat × Nat) (fun x r M _ => r = [.int (nI x.2.1), .int (nI x.2.2.1)] ∧ zRN x.1 M ∧ x.2.1 < 8 ∧ x.2.2.1 < 12 ∧ x.2.2.2 ≤ 12 ∧ M 30 (12 * x.2.1 + x.2.2.1) = nI x.2.2.2)
  (fun x M N o M2 N2 => N2 = N ∧ zFr [26, 27] M M2 ∧ o = some (.long (lN (x.2.2.2 * zAsk x.1 0 x.2.1 x.2.2.1 x.2.2.2 0))))
theorem zt_X12_danger_mono : ab_mono zt_X12_danger := ab_lq_mono _ _
theorem zV_X12_danger : ab_recv zw_M vwCl RX12 zt_X12_danger := ab_lq_v
def zp_X12_danger : ab_P := [(0, .aload_n 0, 1, [0], []),
  (1, .getfield 150, 4, [], []),
  (4, .bipush 12, 6, [], [12]),
  (6, .iload_n 1, 7, [1], []),
  (7, .imul, 8, [], []),
  (8, .iload_n 2, 9, [2], []),
  (9, .iadd, 10, [], []),
  (10, .iaload, 11, [], []),
  (11, .i2l, 12, [], []),
  (12, .aload_n 0, 13, [0], []),
  (13, .iconst 0, 14, [], [0]),
  (14, .iload_n 1, 15, [1], []),
  (15, .iload_n 2, 16, [2], []),
  (16, .aload_n 0, 17, [0], []),
  (17, .getfield 150, 20, [], []),
  (20, .bipush 12, 22, [], [12]),
  (22, .iload_n 1, 23, [1], []),
  (23, .imul, 24, [], []),
  (24, .iload_n 2, 25, [2], []),
  (25, .iadd, 26, [], []),
  (26, .iaload, 27, [], []),
  (27, .iconst 0, 28, [], [0]),
  (28, .invokevirtual 264, 31, [], []),
  (31, .i2l, 32, [], []),
  (32, .lmul, 33, [], []),
  (33, .lreturn, 34, [], [])]
theorem zo_X12_danger : ab_ok cX12_danger zp_X12_danger = true := by decide +kernel
def zg_X12_danger : ab_G := (zw_M, [], zf_X12, zc_X12, [], [(264, 6, zt_X12_says)], [])
theorem zm_X12_danger : ab_MG zg_X12_danger := ab_MGof (List.forall_mem_cons.mpr ⟨zt_X12_says_mono, List.forall_mem_nil _⟩) (List.forall_mem_nil _)
abbrev zr_X12_danger (Q : ab_R) : ab_K := ab_Run zg_X12_danger zp_X12_danger (some .long) 3 Q
set_option maxRecDepth 20000 in
theorem zv_X12_danger_0 {Q : ab_R} {M : ab_M} {N : ab_N} (l1 : Int32) (l2 : Int32) (h : vp_in (((12 : Int32) * l1) + l2) 96 ∧ (vp_in (((12 : Int32) * l1) + l2) 96 ∧ (zt_X12_says [.ref 0, .int (0 : Int32), .int l1, .int l2, .int (M 30 (((12 : Int32) * l1) + l2).toNatClampNeg), .int (0 : Int32)] M N (fun r M2 N2 => zr_X12_danger Q 31 [none, none, none] (ab_ol r [.long ((M 30 (((12 : Int32) * l1) + l2).toNatClampNeg).toInt64)]) M2 N2)))) : zr_X12_danger Q 0 [some (.ref 0), some (.int l1), some (.int l2)] [] M N := ab_Run_s zm_X12_danger (sp := [(31, [false, false, false])]) 28 h
set_option maxRecDepth 20000 in
theorem zv_X12_danger_31 {Q : ab_R} {M : ab_M} {N : ab_N} (s0 : Int64) (s1 : Int32) (h : Q (some (.long (s0 * (s1.toInt64)))) M N) : zr_X12_danger Q 31 [none, none, none] [.int s1, .long s0] M N := ab_Run_s zm_X12_danger (sp := [(31, [false, false, false])]) 28 h
theorem zE_X12_danger (as : List Value) (M : ab_M) (N : ab_N) (k : ab_R) (hT : zt_X12_danger as M N k) : ab_cs as ≤ 3 ∧ zr_X12_danger k 0 (ab_en as) [] M N := by
  obtain ⟨⟨d, p, h, s⟩, r, rfl, ⟨rfl, hR, hp, hh, hs, h30⟩, hk⟩ := hT
  dsimp only at hp hh hs h30 hk ⊢
  refine ⟨Nat.le_of_ble_eq_true rfl, zv_X12_danger_0 _ _ ?_⟩
  rw [e12, nI_clamp (by omega), h30]
  refine ⟨nI_in_ (by omega), nI_in_ (by omega), (d, 0, p, h, s, 0), _, rfl, ⟨rfl, hR, (show 0 < 3 by decide), hp, hh, by dsimp only; omega⟩, ?_⟩
  rintro o M2 N2 ⟨rfl, hF, rfl⟩
  refine zv_X12_danger_31 _ _ ?_
  have ha : zAsk d 0 p h s 0 ≤ 999 := (zClamp_n 0 (by decide) _).2
  dsimp only at ha ⊢
  rw [nI_l (by omega), nI_l (by omega), lN_mul]
  exact hk _ _ _ ⟨rfl, hF, rfl⟩
abbrev zR_X12_danger : Room := { frames := 3, cells := 0, slots := 0, locals := 73 }
set_option maxRecDepth 20000 in
theorem zM_X12_danger (l : Launch) : ab_Met l zw_M vwCl zZ_M yX12_danger cX12_danger 3 (some .long) zR_X12_danger zt_X12_danger := ab_ofRun (G := zg_X12_danger) (P := zp_X12_danger) rfl zo_X12_danger (by decide +kernel) zl_cl zl_lamM zf_X12_ok ab_Tab_nil zc_X12_ok ab_Sta_nil (List.forall_mem_cons.mpr ⟨ab_callV zZ_M_ok (zM_X12_says l) (ab_in 1282 (by decide +kernel) rfl) (ab_in 1279 (by decide +kernel) rfl) (ab_in 1281 (by decide +kernel) rfl) (ab_inS (List.mem_of_getElem? (i := 37) (by decide +kernel)) rfl) (ab_in 17 (by decide +kernel) rfl) (by unfold ab_yok; decide +kernel) ⟨rfl, rfl⟩ (by decide) zV_X12_says, List.forall_mem_nil _⟩) (List.forall_mem_nil _) zE_X12_danger
def zDg (d : ab_M) (h : Nat) (sc : Nat → Nat) (p : Nat) : Nat := sc p * zAsk d 0 p h (sc p) 0
theorem zDg_lt {d : ab_M} {h : Nat} {sc : Nat → Nat} {p : Nat} (hs : sc p ≤ 12) : zDg d h sc p < 2 ^ 31 := by
  have ha : zAsk d 0 p h (sc p) 0 ≤ 999 := (zClamp_n 0 (by decide) _).2
  unfold zDg
  have : sc p * zAsk d 0 p h (sc p) 0 ≤ 12 * 999 := Nat.mul_le_mul hs ha
  omega
theorem zRiskR_lt {D : Nat → Nat} {v f : Int32} {f0 n : Nat} (hf : f0 < n) : ∀ k, k ≤ n → zRiskR D v f f0 k < n
  | 0, _ => hf
  | k + 1, hk => by
    unfold zRiskR
    split
    · omega
    · exact zRiskR_lt hf k (by omega)
def zt_X12_byRisk : ab_T := ab_lq (α := ab_M × Nat × Nat × Nat × (Nat → Nat)) (fun x r M _ => r = [.int (nI x.2.1), .int (nI x.2.2.1)] ∧ zRN x.1 M ∧ x.2.1 < zMen x.1 ∧ x.2.2.1 + 1 < 12 ∧ x.2.2.2.1 < zPcs x.1 ∧ M 28 (12 * x.2.1 + x.2.2.1) = nI x.2.2.2.1 ∧ ∀ p, p < zPcs x.1 → x.2.2.2.2 p ≤ 12 ∧ M 30 (12 * p + (x.2.2.1 + 1)) = nI (x.2.2.2.2 p))
  (fun x M N o M2 N2 => N2 = N ∧ zFr [26, 27] M M2 ∧ o = some (.int (nI (zRiskR (zDg x.1 (x.2.2.1 + 1) x.2.2.2.2) (x.1 28 x.2.1) (nI x.2.2.2.1) x.2.2.2.1 (zPcs x.1)))))
theorem zt_X12_byRisk_mono : ab_mono zt_X12_byRisk := ab_lq_mono _ _
theorem zV_X12_byRisk : ab_recv zw_M vwCl RX12 zt_X12_byRisk := ab_lq_v
def zp_X12_byRisk : ab_P := [(0, .aload_n 0, 1, [0], []),
  (1, .getfield 144, 4, [], []),
  (4, .bipush 12, 6, [], [12]),
  (6, .iload_n 1, 7, [1], []),
  (7, .imul, 8, [], []),
  (8, .iload_n 2, 9, [2], []),
  (9, .iadd, 10, [], []),
  (10, .iaload, 11, [], []),
  (11, .istore_n 3, 12, [3], []),
  (12, .iload_n 3, 13, [3], []),
  (13, .istore 4, 15, [], []),
  (15, .iconst 0, 16, [], [0]),
  (16, .istore 5, 18, [], []),
  (18, .iload 5, 20, [], []),
  (20, .aload_n 0, 21, [0], []),
  (21, .getfield 172, 24, [], []),
  (24, .if_icmp .ge 59, 27, [83], []),
  (27, .iload 5, 29, [], []),
  (29, .iload_n 3, 30, [3], []),
  (30, .aload_n 0, 31, [0], []),
  (31, .getfield 50, 34, [], []),
  (34, .iload_n 1, 35, [1], []),
  (35, .iaload, 36, [], []),
  (36, .isub, 37, [], []),
  (37, .iload_n 3, 38, [3], []),
  (38, .aload_n 0, 39, [0], []),
  (39, .getfield 50, 42, [], []),
  (42, .iload_n 1, 43, [1], []),
  (43, .iaload, 44, [], []),
  (44, .iadd, 45, [], []),
  (45, .invokestatic 175, 48, [], []),
  (48, .ifCond .eq 29, 51, [77], []),
  (51, .aload_n 0, 52, [0], []),
  (52, .iload 5, 54, [], []),
  (54, .iload_n 2, 55, [2], []),
  (55, .iconst 1, 56, [], [1]),
  (56, .iadd, 57, [], []),
  (57, .invokevirtual 271, 60, [], []),
  (60, .aload_n 0, 61, [0], []),
  (61, .iload 4, 63, [], []),
  (63, .iload_n 2, 64, [2], []),
  (64, .iconst 1, 65, [], [1]),
  (65, .iadd, 66, [], []),
  (66, .invokevirtual 271, 69, [], []),
  (69, .lcmp, 70, [], []),
  (70, .ifCond .le 7, 73, [77], []),
  (73, .iload 5, 75, [], []),
  (75, .istore 4, 77, [], []),
  (77, .iinc 5 1, 80, [], [1]),
  (80, .goto (-62), 83, [18], []),
  (83, .iload 4, 85, [], []),
  (85, .ireturn, 86, [], [])]
theorem zo_X12_byRisk : ab_ok cX12_byRisk zp_X12_byRisk = true := by decide +kernel
def zg_X12_byRisk : ab_G := (zw_M, [], zf_X12, zc_X12, [], [(271, 3, zt_X12_danger)], [(175, 3, zt_X12_in)])
theorem zm_X12_byRisk : ab_MG zg_X12_byRisk := ab_MGof (List.forall_mem_cons.mpr ⟨zt_X12_danger_mono, List.forall_mem_nil _⟩) (List.forall_mem_cons.mpr ⟨ab_pure_mono _, List.forall_mem_nil _⟩)
abbrev zr_X12_byRisk (Q : ab_R) : ab_K := ab_Run zg_X12_byRisk zp_X12_byRisk (some .int) 6 Q
set_option maxRecDepth 20000 in
theorem zv_X12_byRisk_0 {Q : ab_R} {M : ab_M} {N : ab_N} (l1 : Int32) (l2 : Int32) (h : vp_in (((12 : Int32) * l1) + l2) 60 ∧ (zr_X12_byRisk Q 18 [some (.ref 0), some (.int l1), some (.int l2), some (.int (M 28 (((12 : Int32) * l1) + l2).toNatClampNeg)), some (.int (M 28 (((12 : Int32) * l1) + l2).toNatClampNeg)), some (.int (0 : Int32))] [] M N)) : zr_X12_byRisk Q 0 [some (.ref 0), some (.int l1), some (.int l2)] [] M N := ab_Run_s zm_X12_byRisk (sp := [(18, [true, true, true, true, true, true]), (60, [true, true, true, true, true, true]), (69, [true, true, true, true, true, true])]) 54 h
set_option maxRecDepth 20000 in
theorem zv_X12_byRisk_18 {Q : ab_R} {M : ab_M} {N : ab_N} (l1 : Int32) (l2 : Int32) (l3 : Int32) (l4 : Int32) (l5 : Int32) (h : ((M 0 7) ≤ l5 → Q (some (.int l4)) M N) ∧ (¬ ((M 0 7) ≤ l5) → vp_in l1 5 ∧ (vp_in l1 5 ∧ (((ab_b ((l3 - (M 9 l1.toNatClampNeg)) ≤ l5 ∧ l5 ≤ (l3 + (M 9 l1.toNatClampNeg)))) = 0 → zr_X12_byRisk Q 18 [some (.ref 0), some (.int l1), some (.int l2), some (.int l3), some (.int l4), some (.int (l5 + (1 : Int32)))] [] M N) ∧ (¬ ((ab_b ((l3 - (M 9 l1.toNatClampNeg)) ≤ l5 ∧ l5 ≤ (l3 + (M 9 l1.toNatClampNeg)))) = 0) → zt_X12_danger [.ref 0, .int l5, .int (l2 + (1 : Int32))] M N (fun r M2 N2 => zr_X12_byRisk Q 60 [some (.ref 0), some (.int l1), some (.int l2), some (.int l3), some (.int l4), some (.int l5)] (ab_ol r []) M2 N2)))))) : zr_X12_byRisk Q 18 [some (.ref 0), some (.int l1), some (.int l2), some (.int l3), some (.int l4), some (.int l5)] [] M N := ab_Run_s zm_X12_byRisk (sp := [(18, [true, true, true, true, true, true]), (60, [true, true, true, true, true, true]), (69, [true, true, true, true, true, true])]) 54 h
set_option maxRecDepth 20000 in
theorem zv_X12_byRisk_60 {Q : ab_R} {M : ab_M} {N : ab_N} (l1 : Int32) (l2 : Int32) (l3 : Int32) (l4 : Int32) (l5 : Int32) (s0 : Int64) (h : zt_X12_danger [.ref 0, .int l4, .int (l2 + (1 : Int32))] M N (fun r M2 N2 => zr_X12_byRisk Q 69 [some (.ref 0), some (.int l1), some (.int l2), some (.int l3), some (.int l4), some (.int l5)] (ab_ol r [.long s0]) M2 N2)) : zr_X12_byRisk Q 60 [some (.ref 0), some (.int l1), some (.int l2), some (.int l3), some (.int l4), some (.int l5)] [.long s0] M N := ab_Run_s zm_X12_byRisk (sp := [(18, [true, true, true, true, true, true]), (60, [true, true, true, true, true, true]), (69, [true, true, true, true, true, true])]) 54 h
set_option maxRecDepth 20000 in
theorem zv_X12_byRisk_69 {Q : ab_R} {M : ab_M} {N : ab_N} (l1 : Int32) (l2 : Int32) (l3 : Int32) (l4 : Int32) (l5 : Int32) (s0 : Int64) (s1 : Int64) (h : ((lg_cmp s0 s1) ≤ 0 → zr_X12_byRisk Q 18 [some (.ref 0), some (.int l1), some (.int l2), some (.int l3), some (.int l4), some (.int (l5 + (1 : Int32)))] [] M N) ∧ (¬ ((lg_cmp s0 s1) ≤ 0) → zr_X12_byRisk Q 18 [some (.ref 0), some (.int l1), some (.int l2), some (.int l3), some (.int l5), some (.int (l5 + (1 : Int32)))] [] M N)) : zr_X12_byRisk Q 69 [some (.ref 0), some (.int l1), some (.int l2), some (.int l3), some (.int l4), some (.int l5)] [.long s1, .long s0] M N := ab_Run_s zm_X12_byRisk (sp := [(18, [true, true, true, true, true, true]), (60, [true, true, true, true, true, true]), (69, [true, true, true, true, true, true])]) 54 h
theorem zIn_abs {f p v : Nat} (hf : f < 8) (hp : p < 8) (hv : v ≤ 3) : ab_b (nI f - nI v ≤ nI p ∧ nI p ≤ nI f + nI v) = 0 ↔ ¬ zAbs (nI p - nI f) ≤ nI v := by
  have key : ∀ f, f < 8 → ∀ p, p < 8 → ∀ v, v < 4 → (decide (ab_b (nI f - nI v ≤ nI p ∧ nI p ≤ nI f + nI v) = 0) = decide (¬ zAbs (nI p - nI f) ≤ nI v)) := by decide +kernel
  have := key f hf p hp v (by omega)
  simpa using this
theorem zL_X12_byRisk {Q : ab_R} {N : ab_N} {M0 d : ab_M} {m h f0 v : Nat} {sc : Nat → Nat} (hR : zRN d M0) (hm : m < 5) (hh : h + 1 < 12) (hf : f0 < zPcs d) (hv : v ≤ 3) (h28 : d 28 m = nI v) (hsc : ∀ p, p < zPcs d → sc p ≤ 12 ∧ M0 30 (12 * p + (h + 1)) = nI (sc p)) (hq : ∀ M2, zFr [26, 27] M0 M2 → Q (some (.int (nI (zRiskR (zDg d (h + 1) sc) (nI v) (nI f0) f0 (zPcs d))))) M2 N) : ∀ (r p : Nat) (M : ab_M), p + r = zPcs d → zFr [26, 27] M0 M → zr_X12_byRisk Q 18 [some (.ref 0), some (.int (nI m)), some (.int (nI h)), some (.int (nI f0)), some (.int (nI (zRiskR (zDg d (h + 1) sc) (nI v) (nI f0) f0 p))), some (.int (nI p))] [] M N := by
  obtain ⟨n1, n2, -⟩ := zNI_n hR
  intro r
  induction r with
  | zero =>
    intro p M hp hF
    refine zv_X12_byRisk_18 _ _ _ _ _ ⟨fun _ => ?_, fun c => absurd ?_ c⟩
    · rw [show p = zPcs d by omega]; exact hq M hF
    · rw [hF 0 (by decide), n1]; exact nI_le (by omega) (by omega)
  | succ r ih =>
    intro p M hp hF
    have h9 : M 9 m = nI v := by rw [hF 9 (by decide), ← hR.1.2.1.2.2.2.2.2.2.2.2.1, h28]
    have hin : vp_in (nI m) 5 := nI_in_ hm
    refine zv_X12_byRisk_18 _ _ _ _ _ ?_
    rw [hF 0 (by decide), n1, nI_clamp (by omega), h9]
    refine ⟨fun c => absurd c (nI_ge (by omega) (by omega)), fun _ => ⟨hin, hin, fun c => ?_, fun c => ?_⟩⟩
    · have c2 := (zIn_abs (by omega) (by omega) hv).mp c
      rw [nI_1]
      have e : zRiskR (zDg d (h + 1) sc) (nI v) (nI f0) f0 p = zRiskR (zDg d (h + 1) sc) (nI v) (nI f0) f0 (p + 1) := by
        show _ = if _ then _ else _
        rw [if_neg (fun z => c2 z.1)]
      rw [e]
      exact ih (p + 1) M (by omega) hF
    · have c2 : zAbs (nI p - nI f0) ≤ nI v := Decidable.byContradiction fun z => c ((zIn_abs (by omega) (by omega) hv).mpr z)
      obtain ⟨s1, s2⟩ := hsc p (by omega)
      rw [nI_1]
      refine ⟨(d, p, h + 1, sc p), _, rfl, ⟨rfl, zRN_zfr hR hF (by decide), by dsimp only; omega, hh, s1, by rw [hF 30 (by decide)]; exact s2⟩, ?_⟩
      rintro o M2 N2 ⟨rfl, hF2, rfl⟩
      have hF2 := zFr_tr hF hF2
      refine zv_X12_byRisk_60 _ _ _ _ _ _ ?_
      rw [nI_1]
      have hb : zRiskR (zDg d (h + 1) sc) (nI v) (nI f0) f0 p < zPcs d := zRiskR_lt hf p (by omega)
      generalize eb : zRiskR (zDg d (h + 1) sc) (nI v) (nI f0) f0 p = b at hb
      obtain ⟨t1, t2⟩ := hsc b hb
      refine ⟨(d, b, h + 1, sc b), _, rfl, ⟨rfl, zRN_zfr hR hF2 (by decide), by dsimp only; omega, hh, t1, by rw [hF2 30 (by decide)]; exact t2⟩, ?_⟩
      rintro o M3 N3 ⟨rfl, hF3, rfl⟩
      have hF3 := zFr_tr hF2 hF3
      have l1 := zDg_lt (d := d) (h := h + 1) s1
      have l2 := zDg_lt (d := d) (h := h + 1) t1
      refine zv_X12_byRisk_69 _ _ _ _ _ _ _ ⟨fun c3 => ?_, fun c3 => ?_⟩
      · have c4 := (lg_cmp_le _ _).mp c3
        have c5 : zDg d (h + 1) sc p ≤ zDg d (h + 1) sc b := (lN_le l1 l2).mp c4
        rw [nI_1]
        have e : b = zRiskR (zDg d (h + 1) sc) (nI v) (nI f0) f0 (p + 1) := by
          show _ = if _ then _ else _
          rw [eb, if_neg (fun z => by omega)]
        rw [e]
        exact ih (p + 1) M3 (by omega) hF3
      · have c5 : zDg d (h + 1) sc b < zDg d (h + 1) sc p := Nat.not_le.mp fun z => c3 ((lg_cmp_le _ _).mpr ((lN_le l1 l2).mpr z))
        rw [nI_1]
        have e : p = zRiskR (zDg d (h + 1) sc) (nI v) (nI f0) f0 (p + 1) := by
          show _ = if _ then _ else _
          rw [eb, if_pos ⟨c2, c5⟩]
        have := ih (p + 1) M3 (by omega) hF3
        rw [← e] at this
        exact this
theorem zE_X12_byRisk (as : List Value) (M : ab_M) (N : ab_N) (k : ab_R) (hT : zt_X12_byRisk as M N k) : ab_cs as ≤ 6 ∧ zr_X12_byRisk k 0 (ab_en as) [] M N := by
  obtain ⟨⟨d, m, h, f0, sc⟩, r, rfl, ⟨rfl, hR, hm, hh, hf, h28, hsc⟩, hk⟩ := hT
  dsimp only at hR hm hh hf h28 hsc hk ⊢
  obtain ⟨n1, n2, n3, n4, -⟩ := zNI_n hR
  obtain ⟨kd, po, en, pa, mo, q1, q2, q3, q4, q5, q6, e1, e2, e3, e4, e5, -⟩ := zMan_n hR hm
  refine ⟨Nat.le_of_ble_eq_true rfl, zv_X12_byRisk_0 _ _ ?_⟩
  rw [e12, nI_clamp (by omega), h28]
  rw [e4] at hk
  exact ⟨nI_in_ (by omega), zL_X12_byRisk hR (by omega) hh hf q5 e4 hsc (fun M2 hF => hk _ _ _ ⟨rfl, hF, rfl⟩) (zPcs d) 0 M (by omega) (zFr_rf _ _)⟩
abbrev zR_X12_byRisk : Room := { frames := 4, cells := 0, slots := 0, locals := 95 }
set_option maxRecDepth 20000 in
theorem zM_X12_byRisk (l : Launch) : ab_Met l zw_M vwCl zZ_M yX12_byRisk cX12_byRisk 6 (some .int) zR_X12_byRisk zt_X12_byRisk := ab_ofRun (G := zg_X12_byRisk) (P := zp_X12_byRisk) rfl zo_X12_byRisk (by decide +kernel) zl_cl zl_lamM zf_X12_ok ab_Tab_nil zc_X12_ok ab_Sta_nil (List.forall_mem_cons.mpr ⟨ab_callV zZ_M_ok (zM_X12_danger l) (ab_in 1345 (by decide +kernel) rfl) (ab_in 1342 (by decide +kernel) rfl) (ab_in 1344 (by decide +kernel) rfl) (ab_inS (List.mem_of_getElem? (i := 48) (by decide +kernel)) rfl) (ab_in 17 (by decide +kernel) rfl) (by unfold ab_yok; decide +kernel) ⟨rfl, rfl⟩ (by decide) zV_X12_danger, List.forall_mem_nil _⟩) (List.forall_mem_cons.mpr ⟨ab_callS zZ_M_ok (zM_X12_in l) (ab_in 1200 (by decide +kernel) rfl) (ab_in 1198 (by decide +kernel) rfl) (ab_in 1199 (by decide +kernel) rfl) (ab_in 17 (by decide +kernel) rfl) (by unfold ab_yok; decide +kernel) ⟨rfl, rfl⟩ (by decide), List.forall_mem_nil _⟩) zE_X12_byRisk
def zt_X12_turns : ab_T := ab_lq (α := Nat × Nat × Int32) (fun x r M _ => r = [.int (nI x.1), .int (nI x.2.1)] ∧ x.1 < 5 ∧ x.2.1 < 12 ∧ M 28 (12 * x.1 + x.2.1) = x.2.2)
  (fun x M N o M2 N2 => N2 = N ∧ o = none ∧ M2 = ab_u M 31 (upd (M 31) x.1 (ab_b (¬ x.2.2 = M 7 x.1 ∧ (x.2.2 = M 8 x.1 ∨ ¬ M 31 x.1 = 0)))))
theorem zt_X12_turns_mono : ab_mono zt_X12_turns := ab_lq_mono _ _
theorem zV_X12_turns : ab_recv zw_M vwCl RX12 zt_X12_turns := ab_lq_v
def zp_X12_turns : ab_P := [(0, .aload_n 0, 1, [0], []),
  (1, .getfield 144, 4, [], []),
  (4, .bipush 12, 6, [], [12]),
  (6, .iload_n 1, 7, [1], []),
  (7, .imul, 8, [], []),
  (8, .iload_n 2, 9, [2], []),
  (9, .iadd, 10, [], []),
  (10, .iaload, 11, [], []),
  (11, .istore_n 3, 12, [3], []),
  (12, .aload_n 0, 13, [0], []),
  (13, .getfield 153, 16, [], []),
  (16, .iload_n 1, 17, [1], []),
  (17, .iload_n 3, 18, [3], []),
  (18, .aload_n 0, 19, [0], []),
  (19, .getfield 44, 22, [], []),
  (22, .iload_n 1, 23, [1], []),
  (23, .iaload, 24, [], []),
  (24, .if_icmp .ne 7, 27, [31], []),
  (27, .iconst 0, 28, [], [0]),
  (28, .goto 27, 31, [55], []),
  (31, .iload_n 3, 32, [3], []),
  (32, .aload_n 0, 33, [0], []),
  (33, .getfield 47, 36, [], []),
  (36, .iload_n 1, 37, [1], []),
  (37, .iaload, 38, [], []),
  (38, .if_icmp .eq 12, 41, [50], []),
  (41, .aload_n 0, 42, [0], []),
  (42, .getfield 153, 45, [], []),
  (45, .iload_n 1, 46, [1], []),
  (46, .baload, 47, [], []),
  (47, .ifCond .eq 7, 50, [54], []),
  (50, .iconst 1, 51, [], [1]),
  (51, .goto 4, 54, [55], []),
  (54, .iconst 0, 55, [], [0]),
  (55, .bastore, 56, [], []),
  (56, .return_, 57, [], [])]
theorem zo_X12_turns : ab_ok cX12_turns zp_X12_turns = true := by decide +kernel
def zg_X12_turns : ab_G := (zw_M, [], zf_X12, zc_X12, [], [], [])
theorem zm_X12_turns : ab_MG zg_X12_turns := ab_MGof (List.forall_mem_nil _) (List.forall_mem_nil _)
abbrev zr_X12_turns (Q : ab_R) : ab_K := ab_Run zg_X12_turns zp_X12_turns none 4 Q
set_option maxRecDepth 20000 in
theorem zv_X12_turns_0 {Q : ab_R} {M : ab_M} {N : ab_N} (l1 : Int32) (l2 : Int32) (h : vp_in (((12 : Int32) * l1) + l2) 60 ∧ (vp_in l1 5 ∧ (((M 28 (((12 : Int32) * l1) + l2).toNatClampNeg) = (M 7 l1.toNatClampNeg) → vp_in l1 5 ∧ (let z1 : Nat → Int32 := upd (M 31) l1.toNatClampNeg (vp_nar .boolean (0 : Int32)); Q none (ab_u M 31 z1) N)) ∧ (¬ ((M 28 (((12 : Int32) * l1) + l2).toNatClampNeg) = (M 7 l1.toNatClampNeg)) → vp_in l1 5 ∧ (((M 28 (((12 : Int32) * l1) + l2).toNatClampNeg) = (M 8 l1.toNatClampNeg) → vp_in l1 5 ∧ (let z2 : Nat → Int32 := upd (M 31) l1.toNatClampNeg (vp_nar .boolean (1 : Int32)); Q none (ab_u M 31 z2) N)) ∧ (¬ ((M 28 (((12 : Int32) * l1) + l2).toNatClampNeg) = (M 8 l1.toNatClampNeg)) → vp_in l1 5 ∧ (((M 31 l1.toNatClampNeg) = 0 → vp_in l1 5 ∧ (let z3 : Nat → Int32 := upd (M 31) l1.toNatClampNeg (vp_nar .boolean (0 : Int32)); Q none (ab_u M 31 z3) N)) ∧ (¬ ((M 31 l1.toNatClampNeg) = 0) → vp_in l1 5 ∧ (let z4 : Nat → Int32 := upd (M 31) l1.toNatClampNeg (vp_nar .boolean (1 : Int32)); Q none (ab_u M 31 z4) N))))))))) : zr_X12_turns Q 0 [some (.ref 0), some (.int l1), some (.int l2)] [] M N := ab_Run_s zm_X12_turns (sp := []) 38 h
theorem zE_X12_turns (as : List Value) (M : ab_M) (N : ab_N) (k : ab_R) (hT : zt_X12_turns as M N k) : ab_cs as ≤ 4 ∧ zr_X12_turns k 0 (ab_en as) [] M N := by
  obtain ⟨⟨m, h, x⟩, r, rfl, ⟨rfl, hm, hh, h28⟩, hk⟩ := hT
  dsimp only at hm hh h28 hk ⊢
  refine ⟨Nat.le_of_ble_eq_true rfl, zv_X12_turns_0 _ _ ?_⟩
  rw [e12, nI_clamp (show 12 * m + h < 2 ^ 31 by omega), h28, nI_clamp (show m < 2 ^ 31 by omega)]
  have hin : vp_in (nI m) 5 := nI_in_ hm
  have n0 : vp_nar .boolean (0 : Int32) = 0 := by decide
  have n1 : vp_nar .boolean (1 : Int32) = 1 := by decide
  rw [n0, n1]
  have y : (¬ x = M 7 m ∧ (x = M 8 m ∨ ¬ M 31 m = 0)) → k none (ab_u M 31 (upd (M 31) m 1)) N := fun z => hk _ _ _ ⟨rfl, rfl, by rw [ab_b_1.mpr z]⟩
  have n : ¬ (¬ x = M 7 m ∧ (x = M 8 m ∨ ¬ M 31 m = 0)) → k none (ab_u M 31 (upd (M 31) m 0)) N := fun z => hk _ _ _ ⟨rfl, rfl, by rw [ab_b_0.mpr z]⟩
  exact ⟨nI_in_ (by omega), hin, fun c => ⟨hin, n (fun z => z.1 c)⟩, fun c => ⟨hin, fun c2 => ⟨hin, y ⟨c, Or.inl c2⟩⟩, fun c2 => ⟨hin, fun c3 => ⟨hin, n (fun z => z.2.elim c2 (fun q => q c3))⟩, fun c3 => ⟨hin, y ⟨c, Or.inr c3⟩⟩⟩⟩⟩
abbrev zR_X12_turns : Room := { frames := 0, cells := 0, slots := 0, locals := 0 }
set_option maxRecDepth 20000 in
theorem zM_X12_turns (l : Launch) : ab_Met l zw_M vwCl zZ_M yX12_turns cX12_turns 4 none zR_X12_turns zt_X12_turns := ab_ofRun (G := zg_X12_turns) (P := zp_X12_turns) rfl zo_X12_turns (by decide +kernel) zl_cl zl_lamM zf_X12_ok ab_Tab_nil zc_X12_ok ab_Sta_nil (List.forall_mem_nil _) (List.forall_mem_nil _) zE_X12_turns
/-- where a man comes, what is tried with him apart -/
def zCm0 (d : ab_M) (h : Nat) (pl bk : Nat → Int32) (sc : Nat → Nat) (m : Nat) : Int32 :=
  if h = 0 then (if d 25 m = 4 then d 27 m else d 26 m)
  else if d 25 m = 1 ∨ d 25 m = 4 then zTow (d 28 m) (pl m) (if bk m = 0 then d 27 m else d 26 m)
  else if d 25 m = 5 then (if zAwk (d 25 m) (d 29 m) (nI h) then zTow (d 28 m) (pl m) (if bk m = 0 then d 27 m else d 26 m) else pl m)
  else if d 25 m = 2 then (zRiskF d h sc (d 28 m) (pl m) (zPcs d)).1
  else if d 25 m = 3 then zTow (d 28 m) (pl m) (if 0 ≤ d 30 (m * 12 + h) ∧ d 30 (m * 12 + h) < d 1 4 ∧ d 30 (m * 12 + h) < 8 then d 30 (m * 12 + h) else d 26 m)
  else zTow (d 28 m) (pl m) (d 26 m)
theorem zCome_0 (d : ab_M) (h : Nat) (pl bk : Nat → Int32) (sc : Nat → Nat) (m : Nat) : zCome d h pl bk sc m = if nI m = d 6 8 ∧ nI h = d 6 9 then d 6 10 else zCm0 d h pl bk sc m := rfl
def zt_X12_goesTo : ab_T := ab_lq (α := ab_M × Nat × Nat × Nat × (Nat → Nat)) (fun x r M _ => r = [.int (nI x.2.1), .int (nI x.2.2.1)] ∧ zRN x.1 M ∧ x.2.1 < zMen x.1 ∧ x.2.2.1 + 1 < 12 ∧ x.2.2.2.1 < zPcs x.1 ∧ M 28 (12 * x.2.1 + x.2.2.1) = nI x.2.2.2.1 ∧ ∀ p, p < zPcs x.1 → x.2.2.2.2 p ≤ 12 ∧ M 30 (12 * p + (x.2.2.1 + 1)) = nI (x.2.2.2.2 p))
  (fun x M N o M2 N2 => N2 = N ∧ zFr [26, 27] M M2 ∧ ∀ pl bk : Nat → Int32, pl x.2.1 = nI x.2.2.2.1 → bk x.2.1 = M 31 x.2.1 → o = some (.int (zCm0 x.1 (x.2.2.1 + 1) pl bk x.2.2.2.2 x.2.1)))
theorem zt_X12_goesTo_mono : ab_mono zt_X12_goesTo := ab_lq_mono _ _
theorem zV_X12_goesTo : ab_recv zw_M vwCl RX12 zt_X12_goesTo := ab_lq_v
def zp_X12_goesTo : ab_P := [(0, .aload_n 0, 1, [0], []),
  (1, .getfield 144, 4, [], []),
  (4, .bipush 12, 6, [], [12]),
  (6, .iload_n 1, 7, [1], []),
  (7, .imul, 8, [], []),
  (8, .iload_n 2, 9, [2], []),
  (9, .iadd, 10, [], []),
  (10, .iaload, 11, [], []),
  (11, .istore_n 3, 12, [3], []),
  (12, .aload_n 0, 13, [0], []),
  (13, .getfield 41, 16, [], []),
  (16, .iload_n 1, 17, [1], []),
  (17, .iaload, 18, [], []),
  (18, .iconst 2, 19, [], [2]),
  (19, .if_icmp .ne 10, 22, [29], []),
  (22, .aload_n 0, 23, [0], []),
  (23, .iload_n 1, 24, [1], []),
  (24, .iload_n 2, 25, [2], []),
  (25, .invokevirtual 275, 28, [], []),
  (28, .ireturn, 29, [], []),
  (29, .aload_n 0, 30, [0], []),
  (30, .getfield 41, 33, [], []),
  (33, .iload_n 1, 34, [1], []),
  (34, .iaload, 35, [], []),
  (35, .ifCond .eq 13, 38, [48], []),
  (38, .aload_n 0, 39, [0], []),
  (39, .getfield 41, 42, [], []),
  (42, .iload_n 1, 43, [1], []),
  (43, .iaload, 44, [], []),
  (44, .iconst 3, 45, [], [3]),
  (45, .if_icmp .ne 59, 48, [104], []),
  (48, .aload_n 0, 49, [0], []),
  (49, .getfield 56, 52, [], []),
  (52, .bipush 12, 54, [], [12]),
  (54, .iload_n 1, 55, [1], []),
  (55, .imul, 56, [], []),
  (56, .iload_n 2, 57, [2], []),
  (57, .iadd, 58, [], []),
  (58, .iconst 1, 59, [], [1]),
  (59, .iadd, 60, [], []),
  (60, .iaload, 61, [], []),
  (61, .istore 4, 63, [], []),
  (63, .iload_n 3, 64, [3], []),
  (64, .aload_n 0, 65, [0], []),
  (65, .getfield 41, 68, [], []),
  (68, .iload_n 1, 69, [1], []),
  (69, .iaload, 70, [], []),
  (70, .iconst 3, 71, [], [3]),
  (71, .if_icmp .ne 17, 74, [88], []),
  (74, .aload_n 0, 75, [0], []),
  (75, .iload 4, 77, [], []),
  (77, .invokevirtual 182, 80, [], []),
  (80, .ifCond .eq 8, 83, [88], []),
  (83, .iload 4, 85, [], []),
  (85, .goto 9, 88, [94], []),
  (88, .aload_n 0, 89, [0], []),
  (89, .getfield 44, 92, [], []),
  (92, .iload_n 1, 93, [1], []),
  (93, .iaload, 94, [], []),
  (94, .aload_n 0, 95, [0], []),
  (95, .getfield 50, 98, [], []),
  (98, .iload_n 1, 99, [1], []),
  (99, .iaload, 100, [], []),
  (100, .invokestatic 279, 103, [], []),
  (103, .ireturn, 104, [], []),
  (104, .aload_n 0, 105, [0], []),
  (105, .getfield 41, 108, [], []),
  (108, .iload_n 1, 109, [1], []),
  (109, .iaload, 110, [], []),
  (110, .iconst 5, 111, [], [5]),
  (111, .if_icmp .ne 28, 114, [139], []),
  (114, .iload_n 2, 115, [2], []),
  (115, .iconst 1, 116, [], [1]),
  (116, .iadd, 117, [], []),
  (117, .aload_n 0, 118, [0], []),
  (118, .getfield 53, 121, [], []),
  (121, .iload_n 1, 122, [1], []),
  (122, .iaload, 123, [], []),
  (123, .iconst 2, 124, [], [2]),
  (124, .iadd, 125, [], []),
  (125, .irem, 126, [], []),
  (126, .aload_n 0, 127, [0], []),
  (127, .getfield 53, 130, [], []),
  (130, .iload_n 1, 131, [1], []),
  (131, .iaload, 132, [], []),
  (132, .iconst 1, 133, [], [1]),
  (133, .iadd, 134, [], []),
  (134, .if_icmp .ne 5, 137, [139], []),
  (137, .iload_n 3, 138, [3], []),
  (138, .ireturn, 139, [], []),
  (139, .iload_n 3, 140, [3], []),
  (140, .aload_n 0, 141, [0], []),
  (141, .getfield 153, 144, [], []),
  (144, .iload_n 1, 145, [1], []),
  (145, .baload, 146, [], []),
  (146, .ifCond .eq 12, 149, [158], []),
  (149, .aload_n 0, 150, [0], []),
  (150, .getfield 44, 153, [], []),
  (153, .iload_n 1, 154, [1], []),
  (154, .iaload, 155, [], []),
  (155, .goto 9, 158, [164], []),
  (158, .aload_n 0, 159, [0], []),
  (159, .getfield 47, 162, [], []),
  (162, .iload_n 1, 163, [1], []),
  (163, .iaload, 164, [], []),
  (164, .aload_n 0, 165, [0], []),
  (165, .getfield 50, 168, [], []),
  (168, .iload_n 1, 169, [1], []),
  (169, .iaload, 170, [], []),
  (170, .invokestatic 279, 173, [], []),
  (173, .ireturn, 174, [], [])]
theorem zo_X12_goesTo : ab_ok cX12_goesTo zp_X12_goesTo = true := by decide +kernel
def zg_X12_goesTo : ab_G := (zw_M, [], zf_X12, zc_X12, [], [(182, 2, zt_X12_isPiece), (275, 3, zt_X12_byRisk)], [(279, 3, zt_X12_towards)])
theorem zm_X12_goesTo : ab_MG zg_X12_goesTo := ab_MGof (List.forall_mem_cons.mpr ⟨ab_pure_mono _, List.forall_mem_cons.mpr ⟨zt_X12_byRisk_mono, List.forall_mem_nil _⟩⟩) (List.forall_mem_cons.mpr ⟨ab_pure_mono _, List.forall_mem_nil _⟩)
abbrev zr_X12_goesTo (Q : ab_R) : ab_K := ab_Run zg_X12_goesTo zp_X12_goesTo (some .int) 5 Q
set_option maxRecDepth 20000 in
theorem zv_X12_goesTo_0 {Q : ab_R} {M : ab_M} {N : ab_N} (l1 : Int32) (l2 : Int32) (h : vp_in (((12 : Int32) * l1) + l2) 60 ∧ (vp_in l1 5 ∧ (((M 6 l1.toNatClampNeg) = (2 : Int32) → zt_X12_byRisk [.ref 0, .int l1, .int l2] M N (fun r M2 N2 => zr_X12_goesTo Q 28 [none, none, none, none, none] (ab_ol r []) M2 N2)) ∧ (¬ ((M 6 l1.toNatClampNeg) = (2 : Int32)) → vp_in l1 5 ∧ (((M 6 l1.toNatClampNeg) = 0 → zr_X12_goesTo Q 48 [some (.ref 0), some (.int l1), some (.int l2), some (.int (M 28 (((12 : Int32) * l1) + l2).toNatClampNeg)), none] [] M N) ∧ (¬ ((M 6 l1.toNatClampNeg) = 0) → vp_in l1 5 ∧ (((M 6 l1.toNatClampNeg) = (3 : Int32) → zr_X12_goesTo Q 48 [some (.ref 0), some (.int l1), some (.int l2), some (.int (M 28 (((12 : Int32) * l1) + l2).toNatClampNeg)), none] [] M N) ∧ (¬ ((M 6 l1.toNatClampNeg) = (3 : Int32)) → vp_in l1 5 ∧ (((M 6 l1.toNatClampNeg) = (5 : Int32) → vp_in l1 5 ∧ (¬ ((M 10 l1.toNatClampNeg) + (2 : Int32)) = 0 ∧ (vp_in l1 5 ∧ ((((l2 + (1 : Int32)) - (l2 + (1 : Int32)) / ((M 10 l1.toNatClampNeg) + (2 : Int32)) * ((M 10 l1.toNatClampNeg) + (2 : Int32))) = ((M 10 l1.toNatClampNeg) + (1 : Int32)) → Q (some (.int (M 28 (((12 : Int32) * l1) + l2).toNatClampNeg))) M N) ∧ (¬ (((l2 + (1 : Int32)) - (l2 + (1 : Int32)) / ((M 10 l1.toNatClampNeg) + (2 : Int32)) * ((M 10 l1.toNatClampNeg) + (2 : Int32))) = ((M 10 l1.toNatClampNeg) + (1 : Int32))) → zr_X12_goesTo Q 139 [some (.ref 0), some (.int l1), none, some (.int (M 28 (((12 : Int32) * l1) + l2).toNatClampNeg)), none] [] M N))))) ∧ (¬ ((M 6 l1.toNatClampNeg) = (5 : Int32)) → zr_X12_goesTo Q 139 [some (.ref 0), some (.int l1), none, some (.int (M 28 (((12 : Int32) * l1) + l2).toNatClampNeg)), none] [] M N)))))))))) : zr_X12_goesTo Q 0 [some (.ref 0), some (.int l1), some (.int l2)] [] M N := ab_Run_s zm_X12_goesTo (sp := [(28, [false, false, false, false, false]), (48, [true, true, true, true, false]), (139, [true, true, false, true, false])]) 113 h
set_option maxRecDepth 20000 in
theorem zv_X12_goesTo_28 {Q : ab_R} {M : ab_M} {N : ab_N} (s0 : Int32) (h : Q (some (.int s0)) M N) : zr_X12_goesTo Q 28 [none, none, none, none, none] [.int s0] M N := ab_Run_s zm_X12_goesTo (sp := [(28, [false, false, false, false, false]), (48, [true, true, true, true, false]), (139, [true, true, false, true, false])]) 113 h
set_option maxRecDepth 20000 in
theorem zv_X12_goesTo_48 {Q : ab_R} {M : ab_M} {N : ab_N} (l1 : Int32) (l2 : Int32) (l3 : Int32) (h : vp_in ((((12 : Int32) * l1) + l2) + (1 : Int32)) 60 ∧ (vp_in l1 5 ∧ (((M 6 l1.toNatClampNeg) = (3 : Int32) → ((ab_b (0 ≤ (M 11 ((((12 : Int32) * l1) + l2) + (1 : Int32)).toNatClampNeg) ∧ (M 11 ((((12 : Int32) * l1) + l2) + (1 : Int32)).toNatClampNeg) ≤ (M 0) 7 - 1)) = 0 → vp_in l1 5 ∧ (vp_in l1 5 ∧ (Q (some (.int (zTow2 l3 (M 7 l1.toNatClampNeg) (M 9 l1.toNatClampNeg)))) M N))) ∧ (¬ ((ab_b (0 ≤ (M 11 ((((12 : Int32) * l1) + l2) + (1 : Int32)).toNatClampNeg) ∧ (M 11 ((((12 : Int32) * l1) + l2) + (1 : Int32)).toNatClampNeg) ≤ (M 0) 7 - 1)) = 0) → vp_in l1 5 ∧ (Q (some (.int (zTow2 l3 (M 11 ((((12 : Int32) * l1) + l2) + (1 : Int32)).toNatClampNeg) (M 9 l1.toNatClampNeg)))) M N))) ∧ (¬ ((M 6 l1.toNatClampNeg) = (3 : Int32)) → vp_in l1 5 ∧ (vp_in l1 5 ∧ (Q (some (.int (zTow2 l3 (M 7 l1.toNatClampNeg) (M 9 l1.toNatClampNeg)))) M N)))))) : zr_X12_goesTo Q 48 [some (.ref 0), some (.int l1), some (.int l2), some (.int l3), none] [] M N := ab_Run_s zm_X12_goesTo (sp := [(28, [false, false, false, false, false]), (48, [true, true, true, true, false]), (139, [true, true, false, true, false])]) 113 h
set_option maxRecDepth 20000 in
theorem zv_X12_goesTo_139 {Q : ab_R} {M : ab_M} {N : ab_N} (l1 : Int32) (l3 : Int32) (h : vp_in l1 5 ∧ (((M 31 l1.toNatClampNeg) = 0 → vp_in l1 5 ∧ (vp_in l1 5 ∧ (Q (some (.int (zTow2 l3 (M 8 l1.toNatClampNeg) (M 9 l1.toNatClampNeg)))) M N))) ∧ (¬ ((M 31 l1.toNatClampNeg) = 0) → vp_in l1 5 ∧ (vp_in l1 5 ∧ (Q (some (.int (zTow2 l3 (M 7 l1.toNatClampNeg) (M 9 l1.toNatClampNeg)))) M N))))) : zr_X12_goesTo Q 139 [some (.ref 0), some (.int l1), none, some (.int l3), none] [] M N := ab_Run_s zm_X12_goesTo (sp := [(28, [false, false, false, false, false]), (48, [true, true, true, true, false]), (139, [true, true, false, true, false])]) 113 h
section Goes
variable {d M : ab_M} {m h f0 : Nat} {sc : Nat → Nat} {kd po en pa mo : Nat} {pl bk : Nat → Int32}
theorem zCm0_fro (e1 : d 25 m = nI kd) (e2 : d 26 m = nI po) (e3 : d 27 m = nI en) (e4 : d 28 m = nI pa) (e5 : d 29 m = nI mo) (a : pl m = nI f0) (hkd : kd = 1 ∨ kd = 4 ∨ (kd = 5 ∧ zAwk (nI kd) (nI mo) (nI (h + 1)))) : zCm0 d (h + 1) pl bk sc m = zTow (nI pa) (nI f0) (if bk m = 0 then nI en else nI po) := by
  unfold zCm0
  rw [if_neg (Nat.succ_ne_zero h), e1, e2, e3, e4, e5, a]
  rcases hkd with rfl | rfl | ⟨rfl, hw⟩
  · rw [if_pos (show nI 1 = 1 ∨ nI 1 = 4 by decide)]
  · rw [if_pos (show nI 4 = 1 ∨ nI 4 = 4 by decide)]
  · rw [if_neg (show ¬ (nI 5 = 1 ∨ nI 5 = 4) by decide), if_pos (show nI 5 = 5 by decide), if_pos hw]
theorem zCm0_5 (e1 : d 25 m = nI 5) (e5 : d 29 m = nI mo) (a : pl m = nI f0) (hw : ¬ zAwk (nI 5) (nI mo) (nI (h + 1))) : zCm0 d (h + 1) pl bk sc m = nI f0 := by
  unfold zCm0
  rw [if_neg (Nat.succ_ne_zero h), e1, e5, a, if_neg (show ¬ (nI 5 = 1 ∨ nI 5 = 4) by decide), if_pos (show nI 5 = 5 by decide), if_neg hw]
theorem zCm0_3 (e1 : d 25 m = nI 3) (e2 : d 26 m = nI po) (e4 : d 28 m = nI pa) (a : pl m = nI f0) : zCm0 d (h + 1) pl bk sc m = zTow (nI pa) (nI f0) (if 0 ≤ d 30 (m * 12 + (h + 1)) ∧ d 30 (m * 12 + (h + 1)) < d 1 4 ∧ d 30 (m * 12 + (h + 1)) < 8 then d 30 (m * 12 + (h + 1)) else nI po) := by
  unfold zCm0
  rw [if_neg (Nat.succ_ne_zero h), e1, e2, e4, a, if_neg (show ¬ (nI 3 = 1 ∨ nI 3 = 4) by decide), if_neg (show ¬ nI 3 = 5 by decide), if_neg (show ¬ nI 3 = 2 by decide), if_pos (show nI 3 = 3 by decide)]
theorem zCm0_0 (e1 : d 25 m = nI 0) (e2 : d 26 m = nI po) (e4 : d 28 m = nI pa) (a : pl m = nI f0) : zCm0 d (h + 1) pl bk sc m = zTow (nI pa) (nI f0) (nI po) := by
  unfold zCm0
  rw [if_neg (Nat.succ_ne_zero h), e1, e2, e4, a, if_neg (show ¬ (nI 0 = 1 ∨ nI 0 = 4) by decide), if_neg (show ¬ nI 0 = 5 by decide), if_neg (show ¬ nI 0 = 2 by decide), if_neg (show ¬ nI 0 = 3 by decide)]
theorem zRiskR_congr {D D2 : Nat → Nat} {v f : Int32} {n0 : Nat} (hf : f0 < n0) (hD : ∀ p, p < n0 → D p = D2 p) : ∀ n, n ≤ n0 → zRiskR D v f f0 n = zRiskR D2 v f f0 n
  | 0, _ => rfl
  | n + 1, hn => by
    have ih := zRiskR_congr (v := v) (f := f) hf hD n (by omega)
    unfold zRiskR
    rw [ih, hD n (by omega), hD _ (zRiskR_lt hf n (by omega))]
theorem zCm0_2 (hP : zPcs d ≤ 8) (e1 : d 25 m = nI 2) (e4 : d 28 m = nI pa) (q5 : pa ≤ 3) (a : pl m = nI f0) (hf : f0 < zPcs d) (hsc : ∀ p, p < zPcs d → sc p ≤ 12) : zCm0 d (h + 1) pl bk sc m = nI (zRiskR (zDg d (h + 1) sc) (nI pa) (nI f0) f0 (zPcs d)) := by
  unfold zCm0
  rw [if_neg (Nat.succ_ne_zero h), e1, e4, a, if_neg (show ¬ (nI 2 = 1 ∨ nI 2 = 4) by decide), if_neg (show ¬ nI 2 = 5 by decide), if_pos (show nI 2 = 2 by decide)]
  have hs2 : ∀ p, (if p < zPcs d then sc p else 0) ≤ 12 := fun p => by
    by_cases z : p < zPcs d
    · rw [if_pos z]; exact hsc p z
    · rw [if_neg z]; omega
  generalize es : (fun p => if p < zPcs d then sc p else 0) = s2
  have hs3 : ∀ p, s2 p ≤ 12 := fun p => by rw [← es]; exact hs2 p
  have hs4 : ∀ p, p < zPcs d → s2 p = sc p := fun p hp => by rw [← es]; exact if_pos hp
  have e := (zRisk_end (d := d) (h := h + 1) (v := nI pa) (sc := s2) (D := zDg d (h + 1) s2) (fun p _ => ⟨rfl, zDg_lt (hs3 p)⟩) (nI_pos' (by omega)) hf hP).1
  rw [zRiskF_congr (zPcs d) (sc2 := sc) (fun p hp => hs4 p hp)] at e
  rw [e, zRiskR_congr (D2 := zDg d (h + 1) sc) hf (fun p hp => by unfold zDg; rw [hs4 p hp]) _ (Nat.le_refl _)]
end Goes
theorem zTold_c {d : ab_M} {n : Nat} (e14 : d 1 4 = nI n) (hn : n ≤ 8) (h1 : 1 ≤ n) (t : Int32) : (0 ≤ t ∧ t ≤ nI n - 1) ↔ (0 ≤ t ∧ t < d 1 4 ∧ t < 8) := by
  rw [e14, show nI n - 1 = nI (n - 1) from pk_sub (b := 1) h1]
  constructor
  · rintro ⟨z0, z1⟩
    obtain ⟨j, hj, rfl⟩ := nI_of (Int32.not_lt.mpr z0)
    have := (nI_leI hj (by omega)).mp z1
    exact ⟨z0, nI_lt (by omega) (by omega), nI_lt (b := 8) (by omega) (by omega)⟩
  · rintro ⟨z0, z1, z2⟩
    obtain ⟨j, hj, rfl⟩ := nI_of (Int32.not_lt.mpr z0)
    have := (nI_ltI hj (by omega)).mp z1
    exact ⟨z0, nI_le (by omega) (by omega)⟩
theorem zL_X12_goesTo {k : ab_R} {N : ab_N} {d M : ab_M} {m h f0 : Nat} {sc : Nat → Nat} (hR : zRN d M) (hm : m < zMen d) (hh : h + 1 < 12) (hf : f0 < zPcs d) (h28 : M 28 (12 * m + h) = nI f0) (hsc : ∀ p, p < zPcs d → sc p ≤ 12 ∧ M 30 (12 * p + (h + 1)) = nI (sc p))
    (hk : ∀ (M2 : ab_M) (v : Int32), zFr [26, 27] M M2 → (∀ pl bk : Nat → Int32, pl m = nI f0 → bk m = M 31 m → v = zCm0 d (h + 1) pl bk sc m) → k (some (.int v)) M2 N) : zr_X12_goesTo k 0 [some (.ref 0), some (.int (nI m)), some (.int (nI h))] [] M N := by
  obtain ⟨n1, n2, n3, n4, -⟩ := zNI_n hR
  obtain ⟨kd, po, en, pa, mo, q1, q2, q3, q4, q5, q6, e1, e2, e3, e4, e5, f1, f2, f3, f4, f5⟩ := zMan_n hR hm
  have hin : vp_in (nI m) 5 := nI_in_ (by omega)
  have cm : (nI m).toNatClampNeg = m := nI_clamp (by omega)
  refine zv_X12_goesTo_0 _ _ ?_
  rw [e12, nI_clamp (show 12 * m + h < 2 ^ 31 by omega), h28, cm, f1, f5, nI_1]
  have fin : ∀ v : Int32, (∀ pl bk : Nat → Int32, pl m = nI f0 → bk m = M 31 m → v = zCm0 d (h + 1) pl bk sc m) → k (some (.int v)) M N := fun v hv => hk M v (zFr_rf _ _) hv
  have tw : ∀ t, t < 8 → zTow2 (nI f0) (nI t) (nI pa) = zTow (nI pa) (nI f0) (nI t) := fun t ht => (zTow_eq f0 (by omega) t ht pa (by omega)).symm
  have E : ∀ b : Nat, b ≤ 5 → (nI kd = nI b ↔ kd = b) := fun b hb => nI_eq (by omega) (by omega)
  have fro : (kd = 1 ∨ kd = 4 ∨ (kd = 5 ∧ zAwk (nI kd) (nI mo) (nI (h + 1)))) → zr_X12_goesTo k 139 [some (.ref 0), some (.int (nI m)), none, some (.int (nI f0)), none] [] M N := by
    intro hkd
    refine zv_X12_goesTo_139 _ _ ?_
    rw [cm, f2, f3, f4, tw en (by omega), tw po (by omega)]
    exact ⟨hin, fun c => ⟨hin, hin, fin _ (fun pl bk a b => by rw [zCm0_fro e1 e2 e3 e4 e5 a hkd, b, if_pos c])⟩, fun c => ⟨hin, hin, fin _ (fun pl bk a b => by rw [zCm0_fro e1 e2 e3 e4 e5 a hkd, b, if_neg c])⟩⟩
  have home : (kd = 0 ∨ kd = 3) → zr_X12_goesTo k 48 [some (.ref 0), some (.int (nI m)), some (.int (nI h)), some (.int (nI f0)), none] [] M N := by
    intro hkd
    refine zv_X12_goesTo_48 _ _ _ ?_
    rw [e12, nI_1, nI_clamp (show 12 * m + h + 1 < 2 ^ 31 by omega), cm, f1, f2, f4, n1, tw po (by omega)]
    have h30 : M 11 (12 * m + h + 1) = d 30 (m * 12 + (h + 1)) := by rw [← hR.1.2.1.2.2.2.2.2.2.2.2.2.2, show 12 * m + h + 1 = m * 12 + (h + 1) by omega]
    have e14 : d 1 4 = nI (zPcs d) := by rw [hR.1.1.2.2.2.2.2.2.1, n1]
    rw [h30]
    have cc := zTold_c e14 n2 (by omega) (d 30 (m * 12 + (h + 1)))
    refine ⟨nI_in_ (by omega), hin, fun c => ?_, fun c => ?_⟩
    · have k3 : kd = 3 := (E 3 (by omega)).mp c
      subst k3
      refine ⟨fun c2 => ⟨hin, hin, fin _ (fun pl bk a b => ?_)⟩, fun c2 => ⟨hin, ?_⟩⟩
      · have z := fun q => ab_b_0.mp c2 (cc.mpr q)
        rw [zCm0_3 e1 e2 e4 a, if_neg z]
      · have z := cc.mp (Decidable.byContradiction fun q => c2 (ab_b_0.mpr q))
        obtain ⟨j, hj, ej⟩ := nI_of (Int32.not_lt.mpr z.1)
        have hj8 : j < 8 := by
          have := z.2.2
          rw [ej] at this
          exact (nI_ltI hj (by decide)).mp (show nI j < nI 8 from this)
        refine fin _ (fun pl bk a b => ?_)
        rw [zCm0_3 e1 e2 e4 a, if_pos z, ej, tw j hj8]
    · have k0 : kd = 0 := hkd.resolve_right (fun z => c (by rw [z]; rfl))
      subst k0
      exact ⟨hin, hin, fin _ (fun pl bk a b => (zCm0_0 e1 e2 e4 a).symm)⟩
  refine ⟨nI_in_ (by omega), hin, fun c => ?_, fun c => ⟨hin, fun c0 => home (Or.inl ((E 0 (by omega)).mp c0)), fun c0 => ⟨hin, fun c3 => home (Or.inr ((E 3 (by omega)).mp c3)), fun c3 => ⟨hin, fun c5 => ⟨hin, ?_, hin, fun w => ?_, fun w => ?_⟩, fun c5 => fro ?_⟩⟩⟩⟩
  · have k2 : kd = 2 := (E 2 (by omega)).mp c
    subst k2
    refine ⟨(d, m, h, f0, sc), _, rfl, ⟨rfl, hR, hm, hh, hf, h28, hsc⟩, ?_⟩
    rintro o M2 N2 ⟨rfl, hF, rfl⟩
    refine zv_X12_goesTo_28 _ (hk M2 _ hF (fun pl bk a b => ?_))
    rw [zCm0_2 n2 e1 e4 q5 a hf (fun p hp => (hsc p hp).1)]
    dsimp only
    rw [e4]
  · rw [show nI mo + 2 = nI (mo + 2) from nI_add mo 2]
    exact nI_ne0 (by omega) (by omega)
  · have k5 : kd = 5 := (E 5 (by omega)).mp c5
    subst k5
    refine fin _ (fun pl bk a b => (zCm0_5 e1 e5 a ?_).symm)
    rintro (z | z | z)
    · exact z rfl
    · rw [show nI mo + 2 = nI (mo + 2) from nI_add mo 2] at z
      exact nI_nle (by omega) (by omega) z
    · exact z w
  · have k5 : kd = 5 := (E 5 (by omega)).mp c5
    exact fro (Or.inr (Or.inr ⟨k5, Or.inr (Or.inr w)⟩))
  · have a2 : ¬ kd = 2 := fun z => c (by rw [z]; rfl)
    have a0 : ¬ kd = 0 := fun z => c0 (by rw [z]; rfl)
    have a3 : ¬ kd = 3 := fun z => c3 (by rw [z]; rfl)
    have a5 : ¬ kd = 5 := fun z => c5 (by rw [z]; rfl)
    omega
theorem zE_X12_goesTo (as : List Value) (M : ab_M) (N : ab_N) (k : ab_R) (hT : zt_X12_goesTo as M N k) : ab_cs as ≤ 5 ∧ zr_X12_goesTo k 0 (ab_en as) [] M N := by
  obtain ⟨⟨d, m, h, f0, sc⟩, r, rfl, ⟨rfl, hR, hm, hh, hf, h28, hsc⟩, hk⟩ := hT
  exact ⟨Nat.le_of_ble_eq_true rfl, zL_X12_goesTo hR hm hh hf h28 hsc (fun M2 v hF hv => hk _ _ _ ⟨rfl, hF, fun pl bk a b => congrArg (fun z => some (Value.int z)) (hv pl bk a b)⟩)⟩
abbrev zR_X12_goesTo : Room := { frames := 5, cells := 0, slots := 0, locals := 120 }
set_option maxRecDepth 20000 in
theorem zM_X12_goesTo (l : Launch) : ab_Met l zw_M vwCl zZ_M yX12_goesTo cX12_goesTo 5 (some .int) zR_X12_goesTo zt_X12_goesTo := ab_ofRun (G := zg_X12_goesTo) (P := zp_X12_goesTo) rfl zo_X12_goesTo (by decide +kernel) zl_cl zl_lamM zf_X12_ok ab_Tab_nil zc_X12_ok ab_Sta_nil (List.forall_mem_cons.mpr ⟨ab_callV zZ_M_ok (zM_X12_isPiece l) (ab_in 1208 (by decide +kernel) rfl) (ab_in 1205 (by decide +kernel) rfl) (ab_in 1207 (by decide +kernel) rfl) (ab_inS (List.mem_of_getElem? (i := 27) (by decide +kernel)) rfl) (ab_in 17 (by decide +kernel) rfl) (by unfold ab_yok; decide +kernel) ⟨rfl, rfl⟩ (by decide) zV_X12_isPiece, List.forall_mem_cons.mpr ⟨ab_callV zZ_M_ok (zM_X12_byRisk l) (ab_in 1341 (by decide +kernel) rfl) (ab_in 1338 (by decide +kernel) rfl) (ab_in 1340 (by decide +kernel) rfl) (ab_inS (List.mem_of_getElem? (i := 47) (by decide +kernel)) rfl) (ab_in 17 (by decide +kernel) rfl) (by unfold ab_yok; decide +kernel) ⟨rfl, rfl⟩ (by decide) zV_X12_byRisk, List.forall_mem_nil _⟩⟩) (List.forall_mem_cons.mpr ⟨ab_callS zZ_M_ok (zM_X12_towards l) (ab_in 1348 (by decide +kernel) rfl) (ab_in 1346 (by decide +kernel) rfl) (ab_in 1347 (by decide +kernel) rfl) (ab_in 17 (by decide +kernel) rfl) (by unfold ab_yok; decide +kernel) ⟨rfl, rfl⟩ (by decide), List.forall_mem_nil _⟩) zE_X12_goesTo
