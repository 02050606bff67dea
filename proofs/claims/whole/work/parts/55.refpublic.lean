/-! the reference: what is asked of a night *)
-/
theorem zIxN {l : Int32} {n : Nat} (hn : n < 2 ^ 31) (h : 0 ≤ l ∧ l ≤ nI n - 1) : ∃ k : Nat, k < n ∧ l = nI k := by
  obtain ⟨k, hk, rfl⟩ := nI_ex h.1
  cases n with
  | zero =>
    have := Int32.le_trans h.1 h.2
    exact absurd this (by decide)
  | succ n =>
    have := h.2
    rw [nI_pred] at this
    exact ⟨k, Nat.lt_succ_of_le ((nI_leI hk (by omega)).mp this), rfl⟩
theorem zIx0 {c : Prop} [Decidable c] (h : ¬ ab_b c = 0) : c := Classical.byContradiction fun q => h (ab_b_0.mpr q)
abbrev zHasN (l : Int32) (n : Nat) : Prop := 0 ≤ l ∧ l ≤ nI n - 1
def zWhA (d : ab_M) (m h : Int32) : Int32 := if zHasN m (zMen d) then (if zHasN h (zHrs d) then (zWk d h.toNatClampNeg).1 m.toNatClampNeg else -7) else -5
def zt_X12_where : ab_T := ab_lq (α := ab_M × Int32 × Int32) (fun x r M _ => r = [.int x.2.1, .int x.2.2] ∧ zRN x.1 M)
  (fun x M N o M2 N2 => zFr zSL M M2 ∧ N2 = N ∧ o = some (.int (zWhA x.1 x.2.1 x.2.2)))
theorem zt_X12_where_mono : ab_mono zt_X12_where := ab_lq_mono _ _
theorem zV_X12_where : ab_recv zw_M vwCl RX12 zt_X12_where := ab_lq_v
def zp_X12_where : ab_P := [(0, .aload_n 0, 1, [0], []),
  (1, .iload_n 1, 2, [1], []),
  (2, .invokevirtual 268, 5, [], []),
  (5, .ifCond .ne 6, 8, [11], []),
  (8, .bipush (-5), 10, [], [(-5)]),
  (10, .ireturn, 11, [], []),
  (11, .aload_n 0, 12, [0], []),
  (12, .iload_n 2, 13, [2], []),
  (13, .invokevirtual 308, 16, [], []),
  (16, .ifCond .ne 6, 19, [22], []),
  (19, .bipush (-7), 21, [], [(-7)]),
  (21, .ireturn, 22, [], []),
  (22, .aload_n 0, 23, [0], []),
  (23, .invokevirtual 311, 26, [], []),
  (26, .aload_n 0, 27, [0], []),
  (27, .getfield 144, 30, [], []),
  (30, .bipush 12, 32, [], [12]),
  (32, .iload_n 1, 33, [1], []),
  (33, .imul, 34, [], []),
  (34, .iload_n 2, 35, [2], []),
  (35, .iadd, 36, [], []),
  (36, .iaload, 37, [], []),
  (37, .ireturn, 38, [], [])]
theorem zo_X12_where : ab_ok cX12_where zp_X12_where = true := by decide +kernel
def zg_X12_where : ab_G := (zw_M, [], zf_X12, zc_X12, [], [(268, 2, zt_X12_isMan), (308, 2, zt_X12_isHour), (311, 1, zt_X12_walk)], [])
theorem zm_X12_where : ab_MG zg_X12_where := ab_MGof (List.forall_mem_cons.mpr ⟨ab_pure_mono _, List.forall_mem_cons.mpr ⟨ab_pure_mono _, List.forall_mem_cons.mpr ⟨zt_X12_walk_mono, List.forall_mem_nil _⟩⟩⟩) (List.forall_mem_nil _)
abbrev zr_X12_where (Q : ab_R) : ab_K := ab_Run zg_X12_where zp_X12_where (some .int) 3 Q
set_option maxRecDepth 20000 in
theorem zv_X12_where_0 {Q : ab_R} {M : ab_M} {N : ab_N} (l1 : Int32) (l2 : Int32) (h : ((ab_b (0 ≤ l1 ∧ l1 ≤ (M 0) 12 - 1)) = 0 → Q (some (.int (-5 : Int32))) M N) ∧ (¬ ((ab_b (0 ≤ l1 ∧ l1 ≤ (M 0) 12 - 1)) = 0) → ((ab_b (0 ≤ l2 ∧ l2 ≤ (M 0) 0 - 1)) = 0 → Q (some (.int (-7 : Int32))) M N) ∧ (¬ ((ab_b (0 ≤ l2 ∧ l2 ≤ (M 0) 0 - 1)) = 0) → zt_X12_walk [.ref 0] M N (fun r M2 N2 => zr_X12_where Q 26 [some (.ref 0), some (.int l1), some (.int l2)] (ab_ol r []) M2 N2)))) : zr_X12_where Q 0 [some (.ref 0), some (.int l1), some (.int l2)] [] M N := ab_Run_s zm_X12_where (sp := [(26, [true, true, true])]) 25 h
set_option maxRecDepth 20000 in
theorem zv_X12_where_26 {Q : ab_R} {M : ab_M} {N : ab_N} (l1 : Int32) (l2 : Int32) (h : vp_in (((12 : Int32) * l1) + l2) 60 ∧ (Q (some (.int (M 28 (((12 : Int32) * l1) + l2).toNatClampNeg))) M N)) : zr_X12_where Q 26 [some (.ref 0), some (.int l1), some (.int l2)] [] M N := ab_Run_s zm_X12_where (sp := [(26, [true, true, true])]) 25 h
theorem zE_X12_where (as : List Value) (M : ab_M) (N : ab_N) (k : ab_R) (hT : zt_X12_where as M N k) : ab_cs as ≤ 3 ∧ zr_X12_where k 0 (ab_en as) [] M N := by
  obtain ⟨⟨d, m, h⟩, q, rfl, ⟨rfl, hR⟩, hk⟩ := hT
  dsimp only at hR hk ⊢
  obtain ⟨n7, p8, n12, m5, n0, h1, h12, -⟩ := zNI_n hR
  have hk := fun M2 (hF : zFr zSL M M2) => hk _ M2 N ⟨hF, rfl, rfl⟩
  unfold zWhA at hk
  refine ⟨Nat.le_of_ble_eq_true rfl, zv_X12_where_0 _ _ ?_⟩
  rw [n12, n0]
  refine ⟨fun c => ?_, fun c => ⟨fun c2 => ?_, fun c2 => ⟨d, _, rfl, ⟨rfl, hR⟩, ?_⟩⟩⟩
  · have hk := hk M (zFr_rf _ _)
    rw [if_neg (ab_b_0.mp c)] at hk
    exact hk
  · have hk := hk M (zFr_rf _ _)
    rw [if_pos (zIx0 c), if_neg (ab_b_0.mp c2)] at hk
    exact hk
  · rintro o M2 N2 ⟨rfl, rfl, g1, g2⟩
    have hk := hk M2 g1
    have a1 := zIx0 c
    have a2 := zIx0 c2
    rw [if_pos a1, if_pos a2] at hk
    obtain ⟨km, y1, rfl⟩ := zIxN (by omega) a1
    obtain ⟨kh, y2, rfl⟩ := zIxN (by omega) a2
    rw [nI_clamp (show km < 2 ^ 31 by omega), nI_clamp (show kh < 2 ^ 31 by omega)] at hk
    refine zv_X12_where_26 _ _ ?_
    rw [show (12 : Int32) * nI km + nI kh = nI (12 * km + kh) by rw [show (12 : Int32) = nI 12 from rfl, pk_mul, nI_add], nI_clamp (show 12 * km + kh < 2 ^ 31 by omega), (g2 kh y2).1 km y1]
    exact ⟨nI_in_ (by omega), hk⟩
abbrev zR_X12_where : Room := { frames := 7, cells := 0, slots := 0, locals := 166 }
set_option maxRecDepth 20000 in
theorem zM_X12_where (l : Launch) : ab_Met l zw_M vwCl zZ_M yX12_where cX12_where 3 (some .int) zR_X12_where zt_X12_where := ab_ofRun (G := zg_X12_where) (P := zp_X12_where) rfl zo_X12_where (by decide +kernel) zl_cl zl_lamM zf_X12_ok ab_Tab_nil zc_X12_ok ab_Sta_nil (List.forall_mem_cons.mpr ⟨ab_callV zZ_M_ok (zM_X12_isMan l) (ab_in 1301 (by decide +kernel) rfl) (ab_in 1298 (by decide +kernel) rfl) (ab_in 1300 (by decide +kernel) rfl) (ab_inS (List.mem_of_getElem? (i := 39) (by decide +kernel)) rfl) (ab_in 17 (by decide +kernel) rfl) (by unfold ab_yok; decide +kernel) ⟨rfl, rfl⟩ (by decide) zV_X12_isMan, List.forall_mem_cons.mpr ⟨ab_callV zZ_M_ok (zM_X12_isHour l) (ab_in 1313 (by decide +kernel) rfl) (ab_in 1310 (by decide +kernel) rfl) (ab_in 1312 (by decide +kernel) rfl) (ab_inS (List.mem_of_getElem? (i := 40) (by decide +kernel)) rfl) (ab_in 17 (by decide +kernel) rfl) (by unfold ab_yok; decide +kernel) ⟨rfl, rfl⟩ (by decide) zV_X12_isHour, List.forall_mem_cons.mpr ⟨ab_callV zZ_M_ok (zM_X12_walk l) (ab_in 1317 (by decide +kernel) rfl) (ab_in 1314 (by decide +kernel) rfl) (ab_in 1316 (by decide +kernel) rfl) (ab_inS (List.mem_of_getElem? (i := 41) (by decide +kernel)) rfl) (ab_in 17 (by decide +kernel) rfl) (by unfold ab_yok; decide +kernel) ⟨rfl, rfl⟩ (by decide) zV_X12_walk, List.forall_mem_nil _⟩⟩⟩) (List.forall_mem_nil _) zE_X12_where
def zLkA (d : ab_M) (h : Int32) : Int32 := if zHasN h (zHrs d) then nI (zBits (zWk d h.toNatClampNeg).2.2.2 (zPcs d)) else -2
def zt_X12_looked : ab_T := ab_lq (α := ab_M × Int32) (fun x r M _ => r = [.int x.2] ∧ zRN x.1 M)
  (fun x M N o M2 N2 => zFr zSL M M2 ∧ N2 = N ∧ o = some (.int (zLkA x.1 x.2)))
theorem zt_X12_looked_mono : ab_mono zt_X12_looked := ab_lq_mono _ _
theorem zV_X12_looked : ab_recv zw_M vwCl RX12 zt_X12_looked := ab_lq_v
def zp_X12_looked : ab_P := [(0, .aload_n 0, 1, [0], []),
  (1, .iload_n 1, 2, [1], []),
  (2, .invokevirtual 308, 5, [], []),
  (5, .ifCond .ne 6, 8, [11], []),
  (8, .bipush (-2), 10, [], [(-2)]),
  (10, .ireturn, 11, [], []),
  (11, .aload_n 0, 12, [0], []),
  (12, .invokevirtual 311, 15, [], []),
  (15, .aload_n 0, 16, [0], []),
  (16, .getfield 147, 19, [], []),
  (19, .iload_n 1, 20, [1], []),
  (20, .iaload, 21, [], []),
  (21, .ireturn, 22, [], [])]
theorem zo_X12_looked : ab_ok cX12_looked zp_X12_looked = true := by decide +kernel
def zg_X12_looked : ab_G := (zw_M, [], zf_X12, zc_X12, [], [(308, 2, zt_X12_isHour), (311, 1, zt_X12_walk)], [])
theorem zm_X12_looked : ab_MG zg_X12_looked := ab_MGof (List.forall_mem_cons.mpr ⟨ab_pure_mono _, List.forall_mem_cons.mpr ⟨zt_X12_walk_mono, List.forall_mem_nil _⟩⟩) (List.forall_mem_nil _)
abbrev zr_X12_looked (Q : ab_R) : ab_K := ab_Run zg_X12_looked zp_X12_looked (some .int) 2 Q
set_option maxRecDepth 20000 in
theorem zv_X12_looked_0 {Q : ab_R} {M : ab_M} {N : ab_N} (l1 : Int32) (h : ((ab_b (0 ≤ l1 ∧ l1 ≤ (M 0) 0 - 1)) = 0 → Q (some (.int (-2 : Int32))) M N) ∧ (¬ ((ab_b (0 ≤ l1 ∧ l1 ≤ (M 0) 0 - 1)) = 0) → zt_X12_walk [.ref 0] M N (fun r M2 N2 => zr_X12_looked Q 15 [some (.ref 0), some (.int l1)] (ab_ol r []) M2 N2))) : zr_X12_looked Q 0 [some (.ref 0), some (.int l1)] [] M N := ab_Run_s zm_X12_looked (sp := [(15, [true, true])]) 15 h
set_option maxRecDepth 20000 in
theorem zv_X12_looked_15 {Q : ab_R} {M : ab_M} {N : ab_N} (l1 : Int32) (h : vp_in l1 12 ∧ (Q (some (.int (M 29 l1.toNatClampNeg))) M N)) : zr_X12_looked Q 15 [some (.ref 0), some (.int l1)] [] M N := ab_Run_s zm_X12_looked (sp := [(15, [true, true])]) 15 h
theorem zE_X12_looked (as : List Value) (M : ab_M) (N : ab_N) (k : ab_R) (hT : zt_X12_looked as M N k) : ab_cs as ≤ 2 ∧ zr_X12_looked k 0 (ab_en as) [] M N := by
  obtain ⟨⟨d, h⟩, q, rfl, ⟨rfl, hR⟩, hk⟩ := hT
  dsimp only at hR hk ⊢
  obtain ⟨n7, p8, n12, m5, n0, h1, h12, -⟩ := zNI_n hR
  have hk := fun M2 (hF : zFr zSL M M2) => hk _ M2 N ⟨hF, rfl, rfl⟩
  unfold zLkA at hk
  refine ⟨Nat.le_of_ble_eq_true rfl, zv_X12_looked_0 _ ?_⟩
  rw [n0]
  refine ⟨fun c => ?_, fun c => ⟨d, _, rfl, ⟨rfl, hR⟩, ?_⟩⟩
  · have hk := hk M (zFr_rf _ _)
    rw [if_neg (ab_b_0.mp c)] at hk
    exact hk
  · rintro o M2 N2 ⟨rfl, rfl, g1, g2⟩
    have hk := hk M2 g1
    have a2 := zIx0 c
    rw [if_pos a2] at hk
    obtain ⟨kh, y2, rfl⟩ := zIxN (by omega) a2
    rw [nI_clamp (show kh < 2 ^ 31 by omega), ← (g2 kh y2).2.2] at hk
    refine zv_X12_looked_15 _ ?_
    rw [nI_clamp (show kh < 2 ^ 31 by omega)]
    exact ⟨nI_in_ (by omega), hk⟩
abbrev zR_X12_looked : Room := { frames := 7, cells := 0, slots := 0, locals := 166 }
set_option maxRecDepth 20000 in
theorem zM_X12_looked (l : Launch) : ab_Met l zw_M vwCl zZ_M yX12_looked cX12_looked 2 (some .int) zR_X12_looked zt_X12_looked := ab_ofRun (G := zg_X12_looked) (P := zp_X12_looked) rfl zo_X12_looked (by decide +kernel) zl_cl zl_lamM zf_X12_ok ab_Tab_nil zc_X12_ok ab_Sta_nil (List.forall_mem_cons.mpr ⟨ab_callV zZ_M_ok (zM_X12_isHour l) (ab_in 1313 (by decide +kernel) rfl) (ab_in 1310 (by decide +kernel) rfl) (ab_in 1312 (by decide +kernel) rfl) (ab_inS (List.mem_of_getElem? (i := 40) (by decide +kernel)) rfl) (ab_in 17 (by decide +kernel) rfl) (by unfold ab_yok; decide +kernel) ⟨rfl, rfl⟩ (by decide) zV_X12_isHour, List.forall_mem_cons.mpr ⟨ab_callV zZ_M_ok (zM_X12_walk l) (ab_in 1317 (by decide +kernel) rfl) (ab_in 1314 (by decide +kernel) rfl) (ab_in 1316 (by decide +kernel) rfl) (ab_inS (List.mem_of_getElem? (i := 41) (by decide +kernel)) rfl) (ab_in 17 (by decide +kernel) rfl) (by unfold ab_yok; decide +kernel) ⟨rfl, rfl⟩ (by decide) zV_X12_walk, List.forall_mem_nil _⟩⟩) (List.forall_mem_nil _) zE_X12_looked
def zMtF (f : Nat → Bool) : Nat → Nat → Int32
  | 0, _ => -1
  | r + 1, h => if f h = true then nI h else zMtF f r (h + 1)
def zTog (d : ab_M) (a b h : Nat) : Bool := decide ((zWk d h).1 a = (zWk d h).1 b)
def zMtA (d : ab_M) (a b : Int32) : Int32 := if zHasN a (zMen d) then (if zHasN b (zMen d) then (if a = b then -5 else zMtF (zTog d a.toNatClampNeg b.toNatClampNeg) (zHrs d) 0) else -5) else -5
def zt_X12_meet : ab_T := ab_lq (α := ab_M × Int32 × Int32) (fun x r M _ => r = [.int x.2.1, .int x.2.2] ∧ zRN x.1 M)
  (fun x M N o M2 N2 => zFr zSL M M2 ∧ N2 = N ∧ o = some (.int (zMtA x.1 x.2.1 x.2.2)))
theorem zt_X12_meet_mono : ab_mono zt_X12_meet := ab_lq_mono _ _
theorem zV_X12_meet : ab_recv zw_M vwCl RX12 zt_X12_meet := ab_lq_v
def zp_X12_meet : ab_P := [(0, .aload_n 0, 1, [0], []),
  (1, .iload_n 1, 2, [1], []),
  (2, .invokevirtual 268, 5, [], []),
  (5, .ifCond .eq 16, 8, [21], []),
  (8, .aload_n 0, 9, [0], []),
  (9, .iload_n 2, 10, [2], []),
  (10, .invokevirtual 268, 13, [], []),
  (13, .ifCond .eq 8, 16, [21], []),
  (16, .iload_n 1, 17, [1], []),
  (17, .iload_n 2, 18, [2], []),
  (18, .if_icmp .ne 6, 21, [24], []),
  (21, .bipush (-5), 23, [], [(-5)]),
  (23, .ireturn, 24, [], []),
  (24, .aload_n 0, 25, [0], []),
  (25, .invokevirtual 311, 28, [], []),
  (28, .iconst 0, 29, [], [0]),
  (29, .istore_n 3, 30, [3], []),
  (30, .iload_n 3, 31, [3], []),
  (31, .aload_n 0, 32, [0], []),
  (32, .getfield 7, 35, [], []),
  (35, .if_icmp .ge 36, 38, [71], []),
  (38, .aload_n 0, 39, [0], []),
  (39, .getfield 144, 42, [], []),
  (42, .bipush 12, 44, [], [12]),
  (44, .iload_n 1, 45, [1], []),
  (45, .imul, 46, [], []),
  (46, .iload_n 3, 47, [3], []),
  (47, .iadd, 48, [], []),
  (48, .iaload, 49, [], []),
  (49, .aload_n 0, 50, [0], []),
  (50, .getfield 144, 53, [], []),
  (53, .bipush 12, 55, [], [12]),
  (55, .iload_n 2, 56, [2], []),
  (56, .imul, 57, [], []),
  (57, .iload_n 3, 58, [3], []),
  (58, .iadd, 59, [], []),
  (59, .iaload, 60, [], []),
  (60, .if_icmp .ne 5, 63, [65], []),
  (63, .iload_n 3, 64, [3], []),
  (64, .ireturn, 65, [], []),
  (65, .iinc 3 1, 68, [], [1]),
  (68, .goto (-38), 71, [30], []),
  (71, .iconst (-1), 72, [], [(-1)]),
  (72, .ireturn, 73, [], [])]
theorem zo_X12_meet : ab_ok cX12_meet zp_X12_meet = true := by decide +kernel
def zg_X12_meet : ab_G := (zw_M, [], zf_X12, zc_X12, [], [(268, 2, zt_X12_isMan), (311, 1, zt_X12_walk)], [])
theorem zm_X12_meet : ab_MG zg_X12_meet := ab_MGof (List.forall_mem_cons.mpr ⟨ab_pure_mono _, List.forall_mem_cons.mpr ⟨zt_X12_walk_mono, List.forall_mem_nil _⟩⟩) (List.forall_mem_nil _)
abbrev zr_X12_meet (Q : ab_R) : ab_K := ab_Run zg_X12_meet zp_X12_meet (some .int) 4 Q
set_option maxRecDepth 20000 in
theorem zv_X12_meet_0 {Q : ab_R} {M : ab_M} {N : ab_N} (l1 : Int32) (l2 : Int32) (h : ((ab_b (0 ≤ l1 ∧ l1 ≤ (M 0) 12 - 1)) = 0 → Q (some (.int (-5 : Int32))) M N) ∧ (¬ ((ab_b (0 ≤ l1 ∧ l1 ≤ (M 0) 12 - 1)) = 0) → ((ab_b (0 ≤ l2 ∧ l2 ≤ (M 0) 12 - 1)) = 0 → Q (some (.int (-5 : Int32))) M N) ∧ (¬ ((ab_b (0 ≤ l2 ∧ l2 ≤ (M 0) 12 - 1)) = 0) → (l1 = l2 → Q (some (.int (-5 : Int32))) M N) ∧ (¬ (l1 = l2) → zt_X12_walk [.ref 0] M N (fun r M2 N2 => zr_X12_meet Q 28 [some (.ref 0), some (.int l1), some (.int l2), none] (ab_ol r []) M2 N2))))) : zr_X12_meet Q 0 [some (.ref 0), some (.int l1), some (.int l2)] [] M N := ab_Run_s zm_X12_meet (sp := [(28, [true, true, true, false]), (30, [true, true, true, true])]) 46 h
set_option maxRecDepth 20000 in
theorem zv_X12_meet_28 {Q : ab_R} {M : ab_M} {N : ab_N} (l1 : Int32) (l2 : Int32) (h : zr_X12_meet Q 30 [some (.ref 0), some (.int l1), some (.int l2), some (.int (0 : Int32))] [] M N) : zr_X12_meet Q 28 [some (.ref 0), some (.int l1), some (.int l2), none] [] M N := ab_Run_s zm_X12_meet (sp := [(28, [true, true, true, false]), (30, [true, true, true, true])]) 46 h
set_option maxRecDepth 20000 in
theorem zv_X12_meet_30 {Q : ab_R} {M : ab_M} {N : ab_N} (l1 : Int32) (l2 : Int32) (l3 : Int32) (h : ((M 0 0) ≤ l3 → Q (some (.int (-1 : Int32))) M N) ∧ (¬ ((M 0 0) ≤ l3) → vp_in (((12 : Int32) * l1) + l3) 60 ∧ (vp_in (((12 : Int32) * l2) + l3) 60 ∧ (((M 28 (((12 : Int32) * l1) + l3).toNatClampNeg) = (M 28 (((12 : Int32) * l2) + l3).toNatClampNeg) → Q (some (.int l3)) M N) ∧ (¬ ((M 28 (((12 : Int32) * l1) + l3).toNatClampNeg) = (M 28 (((12 : Int32) * l2) + l3).toNatClampNeg)) → zr_X12_meet Q 30 [some (.ref 0), some (.int l1), some (.int l2), some (.int (l3 + (1 : Int32)))] [] M N))))) : zr_X12_meet Q 30 [some (.ref 0), some (.int l1), some (.int l2), some (.int l3)] [] M N := ab_Run_s zm_X12_meet (sp := [(28, [true, true, true, false]), (30, [true, true, true, true])]) 46 h
theorem zL_X12_meet {Q : ab_R} {M : ab_M} {N : ab_N} {d : ab_M} {a b : Nat} (ha : a < zMen d) (hb : b < zMen d) (h5 : zMen d ≤ 5) (h0 : M 0 0 = nI (zHrs d)) (h12 : zHrs d ≤ 12) (hW : zWkR d M (zHrs d)) (hk : Q (some (.int (zMtF (zTog d a b) (zHrs d) 0))) M N) : ∀ (r h : Nat), h + r = zHrs d → zMtF (zTog d a b) r h = zMtF (zTog d a b) (zHrs d) 0 → zr_X12_meet Q 30 [some (.ref 0), some (.int (nI a)), some (.int (nI b)), some (.int (nI h))] [] M N := by
  intro r
  induction r with
  | zero =>
    intro h hr he
    rw [← he] at hk
    exact zv_X12_meet_30 _ _ _ ⟨fun _ => hk, fun c => absurd (by rw [h0]; exact nI_le (by omega) (by omega)) c⟩
  | succ r ih =>
    intro h hr he
    have ix : ∀ m : Nat, (12 : Int32) * nI m + nI h = nI (12 * m + h) := fun m => by rw [show (12 : Int32) = nI 12 from rfl, pk_mul, nI_add]
    have hh := (hW h (by omega)).1
    refine zv_X12_meet_30 _ _ _ ?_
    rw [h0, ix, ix, nI_clamp (show 12 * a + h < 2 ^ 31 by omega), nI_clamp (show 12 * b + h < 2 ^ 31 by omega), hh a ha, hh b hb, nI_1]
    have e : zMtF (zTog d a b) (r + 1) h = if zTog d a b h = true then nI h else zMtF (zTog d a b) r (h + 1) := rfl
    refine ⟨fun c => absurd c (nI_ge (by omega) (by omega)), fun _ => ⟨nI_in_ (by omega), nI_in_ (by omega), fun c => ?_, fun c => ?_⟩⟩
    · rw [if_pos (show zTog d a b h = true from decide_eq_true c)] at e
      rw [← he, e] at hk
      exact hk
    · rw [if_neg (show ¬ zTog d a b h = true from fun z => c (of_decide_eq_true z))] at e
      exact ih (h + 1) (by omega) (e.symm.trans he)
theorem zE_X12_meet (as : List Value) (M : ab_M) (N : ab_N) (k : ab_R) (hT : zt_X12_meet as M N k) : ab_cs as ≤ 4 ∧ zr_X12_meet k 0 (ab_en as) [] M N := by
  obtain ⟨⟨d, a, b⟩, q, rfl, ⟨rfl, hR⟩, hk⟩ := hT
  dsimp only at hR hk ⊢
  obtain ⟨n7, p8, n12, m5, n0, h1, h12, -⟩ := zNI_n hR
  have hk := fun M2 (hF : zFr zSL M M2) => hk _ M2 N ⟨hF, rfl, rfl⟩
  unfold zMtA at hk
  refine ⟨Nat.le_of_ble_eq_true rfl, zv_X12_meet_0 _ _ ?_⟩
  rw [n12]
  refine ⟨fun c => ?_, fun c => ⟨fun c2 => ?_, fun c2 => ⟨fun c3 => ?_, fun c3 => ⟨d, _, rfl, ⟨rfl, hR⟩, ?_⟩⟩⟩⟩
  · have hk := hk M (zFr_rf _ _)
    rw [if_neg (ab_b_0.mp c)] at hk
    exact hk
  · have hk := hk M (zFr_rf _ _)
    rw [if_pos (zIx0 c), if_neg (ab_b_0.mp c2)] at hk
    exact hk
  · have hk := hk M (zFr_rf _ _)
    rw [if_pos (zIx0 c), if_pos (zIx0 c2), if_pos c3] at hk
    exact hk
  · rintro o M2 N2 ⟨rfl, rfl, g1, g2⟩
    have hk := hk M2 g1
    have a1 := zIx0 c
    have a2 := zIx0 c2
    rw [if_pos a1, if_pos a2, if_neg c3] at hk
    obtain ⟨ka, y1, rfl⟩ := zIxN (by omega) a1
    obtain ⟨kb, y2, rfl⟩ := zIxN (by omega) a2
    rw [nI_clamp (show ka < 2 ^ 31 by omega), nI_clamp (show kb < 2 ^ 31 by omega)] at hk
    exact zv_X12_meet_28 _ _ (zL_X12_meet y1 y2 m5 (by rw [g1 0 (by decide), n0]) h12 g2 hk (zHrs d) 0 (by omega) rfl)
abbrev zR_X12_meet : Room := { frames := 7, cells := 0, slots := 0, locals := 166 }
set_option maxRecDepth 20000 in
theorem zM_X12_meet (l : Launch) : ab_Met l zw_M vwCl zZ_M yX12_meet cX12_meet 4 (some .int) zR_X12_meet zt_X12_meet := ab_ofRun (G := zg_X12_meet) (P := zp_X12_meet) rfl zo_X12_meet (by decide +kernel) zl_cl zl_lamM zf_X12_ok ab_Tab_nil zc_X12_ok ab_Sta_nil (List.forall_mem_cons.mpr ⟨ab_callV zZ_M_ok (zM_X12_isMan l) (ab_in 1301 (by decide +kernel) rfl) (ab_in 1298 (by decide +kernel) rfl) (ab_in 1300 (by decide +kernel) rfl) (ab_inS (List.mem_of_getElem? (i := 39) (by decide +kernel)) rfl) (ab_in 17 (by decide +kernel) rfl) (by unfold ab_yok; decide +kernel) ⟨rfl, rfl⟩ (by decide) zV_X12_isMan, List.forall_mem_cons.mpr ⟨ab_callV zZ_M_ok (zM_X12_walk l) (ab_in 1317 (by decide +kernel) rfl) (ab_in 1314 (by decide +kernel) rfl) (ab_in 1316 (by decide +kernel) rfl) (ab_inS (List.mem_of_getElem? (i := 41) (by decide +kernel)) rfl) (ab_in 17 (by decide +kernel) rfl) (by unfold ab_yok; decide +kernel) ⟨rfl, rfl⟩ (by decide) zV_X12_walk, List.forall_mem_nil _⟩⟩) (List.forall_mem_nil _) zE_X12_meet
def zt_X12_run : ab_T := ab_lq (α := ab_M × Int32) (fun x r M _ => r = [.int x.2] ∧ zRN x.1 M)
  (fun x M N o M2 N2 => zFr zSL M M2 ∧ zNfr [0, 32] N N2 ∧ o = some (.long (if 0 ≤ x.2 ∧ x.2 ≤ 2 then zSum x.1 x.2.toNatClampNeg (zPcs x.1) else -4611686018427387904)))
theorem zt_X12_run_mono : ab_mono zt_X12_run := ab_lq_mono _ _
theorem zV_X12_run : ab_recv zw_M vwCl RX12 zt_X12_run := ab_lq_v
def zp_X12_run : ab_P := [(0, .iload_n 1, 1, [1], []),
  (1, .iconst 0, 2, [], [0]),
  (2, .iconst 2, 3, [], [2]),
  (3, .invokestatic 175, 6, [], []),
  (6, .ifCond .eq 11, 9, [17], []),
  (9, .aload_n 0, 10, [0], []),
  (10, .iload_n 1, 11, [1], []),
  (11, .invokevirtual 337, 14, [], []),
  (14, .goto 6, 17, [20], []),
  (17, .ldc2_w 341, 20, [], []),
  (20, .lreturn, 21, [], [])]
theorem zo_X12_run : ab_ok cX12_run zp_X12_run = true := by decide +kernel
def zg_X12_run : ab_G := (zw_M, [], zf_X12, zc_X12, [], [(337, 2, zt_X12_runAll)], [(175, 3, zt_X12_in)])
theorem zm_X12_run : ab_MG zg_X12_run := ab_MGof (List.forall_mem_cons.mpr ⟨zt_X12_runAll_mono, List.forall_mem_nil _⟩) (List.forall_mem_cons.mpr ⟨ab_pure_mono _, List.forall_mem_nil _⟩)
abbrev zr_X12_run (Q : ab_R) : ab_K := ab_Run zg_X12_run zp_X12_run (some .long) 2 Q
set_option maxRecDepth 20000 in
theorem zv_X12_run_0 {Q : ab_R} {M : ab_M} {N : ab_N} (l1 : Int32) (h : ((ab_b ((0 : Int32) ≤ l1 ∧ l1 ≤ (2 : Int32))) = 0 → Q (some (.long (-4611686018427387904 : Int64))) M N) ∧ (¬ ((ab_b ((0 : Int32) ≤ l1 ∧ l1 ≤ (2 : Int32))) = 0) → zt_X12_runAll [.ref 0, .int l1] M N (fun r M2 N2 => zr_X12_run Q 14 [none, none] (ab_ol r []) M2 N2))) : zr_X12_run Q 0 [some (.ref 0), some (.int l1)] [] M N := ab_Run_s zm_X12_run (sp := [(14, [false, false])]) 13 h
set_option maxRecDepth 20000 in
theorem zv_X12_run_14 {Q : ab_R} {M : ab_M} {N : ab_N} (s0 : Int64) (h : Q (some (.long s0)) M N) : zr_X12_run Q 14 [none, none] [.long s0] M N := ab_Run_s zm_X12_run (sp := [(14, [false, false])]) 13 h
theorem zE_X12_run (as : List Value) (M : ab_M) (N : ab_N) (k : ab_R) (hT : zt_X12_run as M N k) : ab_cs as ≤ 2 ∧ zr_X12_run k 0 (ab_en as) [] M N := by
  obtain ⟨⟨d, w⟩, q, rfl, ⟨rfl, hR⟩, hk⟩ := hT
  dsimp only at hR hk ⊢
  refine ⟨Nat.le_of_ble_eq_true rfl, zv_X12_run_0 _ ⟨fun c => ?_, fun c => ?_⟩⟩
  · exact hk _ _ _ ⟨zFr_rf _ _, zNfr_rf _ _, by rw [if_neg (ab_b_0.mp c)]⟩
  · have c := zIx0 c
    obtain ⟨kw, hw, rfl⟩ := nI_ex c.1
    have w2 : kw ≤ 2 := (nI_leI (b := 2) hw (by decide)).mp c.2
    refine ⟨(d, kw), _, rfl, ⟨rfl, hR, w2⟩, ?_⟩
    rintro o M2 N2 ⟨g1, g2, rfl⟩
    exact zv_X12_run_14 _ (hk _ _ _ ⟨g1, g2, by rw [if_pos c, nI_clamp hw]⟩)
abbrev zR_X12_run : Room := { frames := 8, cells := 0, slots := 0, locals := 190 }
set_option maxRecDepth 20000 in
theorem zM_X12_run (l : Launch) : ab_Met l zw_M vwCl zZ_M yX12_run cX12_run 2 (some .long) zR_X12_run zt_X12_run := ab_ofRun (G := zg_X12_run) (P := zp_X12_run) rfl zo_X12_run (by decide +kernel) zl_cl zl_lamM zf_X12_ok ab_Tab_nil zc_X12_ok ab_Sta_nil (List.forall_mem_cons.mpr ⟨ab_callV zZ_M_ok (zM_X12_runAll l) (ab_in 1372 (by decide +kernel) rfl) (ab_in 1369 (by decide +kernel) rfl) (ab_in 1371 (by decide +kernel) rfl) (ab_inS (List.mem_of_getElem? (i := 50) (by decide +kernel)) rfl) (ab_in 17 (by decide +kernel) rfl) (by unfold ab_yok; decide +kernel) ⟨rfl, rfl⟩ (by decide) zV_X12_runAll, List.forall_mem_nil _⟩) (List.forall_mem_cons.mpr ⟨ab_callS zZ_M_ok (zM_X12_in l) (ab_in 1200 (by decide +kernel) rfl) (ab_in 1198 (by decide +kernel) rfl) (ab_in 1199 (by decide +kernel) rfl) (ab_in 17 (by decide +kernel) rfl) (by unfold ab_yok; decide +kernel) ⟨rfl, rfl⟩ (by decide), List.forall_mem_nil _⟩) zE_X12_run
