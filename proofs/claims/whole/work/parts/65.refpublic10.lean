/-! the reference: fewest *)
-/
def zFeA (n : Nat) (l : Int32) : Int32 := if 0 ≤ l ∧ l ≤ 12 then (nI n + nI ((l.toNatClampNeg + 1) / 2 + 1) - 1) / nI ((l.toNatClampNeg + 1) / 2 + 1) else -2
def zt_X12_fewest : ab_T := ab_lq (α := Nat × Int32) (fun x r M _ => r = [.int x.2] ∧ M 0 7 = nI x.1)
  (fun x M N o M2 N2 => M2 = M ∧ N2 = N ∧ o = some (.int (zFeA x.1 x.2)))
theorem zt_X12_fewest_mono : ab_mono zt_X12_fewest := ab_lq_mono _ _
theorem zV_X12_fewest : ab_recv zw_M vwCl RX12 zt_X12_fewest := ab_lq_v
def zp_X12_fewest : ab_P := [(0, .iload_n 1, 1, [1], []),
  (1, .iconst 0, 2, [], [0]),
  (2, .bipush 12, 4, [], [12]),
  (4, .invokestatic 175, 7, [], []),
  (7, .ifCond .ne 6, 10, [13], []),
  (10, .bipush (-2), 12, [], [(-2)]),
  (12, .ireturn, 13, [], []),
  (13, .iconst 1, 14, [], [1]),
  (14, .istore_n 2, 15, [2], []),
  (15, .iconst 2, 16, [], [2]),
  (16, .iload_n 2, 17, [2], []),
  (17, .iconst 1, 18, [], [1]),
  (18, .iadd, 19, [], []),
  (19, .imul, 20, [], []),
  (20, .iconst 3, 21, [], [3]),
  (21, .isub, 22, [], []),
  (22, .iload_n 1, 23, [1], []),
  (23, .if_icmp .gt 9, 26, [32], []),
  (26, .iinc 2 1, 29, [], [1]),
  (29, .goto (-14), 32, [15], []),
  (32, .aload_n 0, 33, [0], []),
  (33, .getfield 172, 36, [], []),
  (36, .iload_n 2, 37, [2], []),
  (37, .iadd, 38, [], []),
  (38, .iconst 1, 39, [], [1]),
  (39, .isub, 40, [], []),
  (40, .iload_n 2, 41, [2], []),
  (41, .idiv, 42, [], []),
  (42, .ireturn, 43, [], [])]
theorem zo_X12_fewest : ab_ok cX12_fewest zp_X12_fewest = true := by decide +kernel
def zg_X12_fewest : ab_G := (zw_M, [], zf_X12, zc_X12, [], [], [(175, 3, zt_X12_in)])
theorem zm_X12_fewest : ab_MG zg_X12_fewest := ab_MGof (List.forall_mem_nil _) (List.forall_mem_cons.mpr ⟨ab_pure_mono _, List.forall_mem_nil _⟩)
abbrev zr_X12_fewest (Q : ab_R) : ab_K := ab_Run zg_X12_fewest zp_X12_fewest (some .int) 3 Q
set_option maxRecDepth 20000 in
theorem zv_X12_fewest_0 {Q : ab_R} {M : ab_M} {N : ab_N} (l1 : Int32) (h : ((ab_b ((0 : Int32) ≤ l1 ∧ l1 ≤ (12 : Int32))) = 0 → Q (some (.int (-2 : Int32))) M N) ∧ (¬ ((ab_b ((0 : Int32) ≤ l1 ∧ l1 ≤ (12 : Int32))) = 0) → zr_X12_fewest Q 15 [some (.ref 0), some (.int l1), some (.int (1 : Int32))] [] M N)) : zr_X12_fewest Q 0 [some (.ref 0), some (.int l1)] [] M N := ab_Run_s zm_X12_fewest (sp := [(15, [true, true, true])]) 31 h
set_option maxRecDepth 20000 in
theorem zv_X12_fewest_15 {Q : ab_R} {M : ab_M} {N : ab_N} (l1 : Int32) (l2 : Int32) (h : (l1 < (((2 : Int32) * (l2 + (1 : Int32))) - (3 : Int32)) → ¬ l2 = 0 ∧ (Q (some (.int ((((M 0 7) + l2) - (1 : Int32)) / l2))) M N)) ∧ (¬ (l1 < (((2 : Int32) * (l2 + (1 : Int32))) - (3 : Int32))) → zr_X12_fewest Q 15 [some (.ref 0), some (.int l1), some (.int (l2 + (1 : Int32)))] [] M N)) : zr_X12_fewest Q 15 [some (.ref 0), some (.int l1), some (.int l2)] [] M N := ab_Run_s zm_X12_fewest (sp := [(15, [true, true, true])]) 31 h
theorem zL_X12_fewest {Q : ab_R} {M : ab_M} {N : ab_N} {n k : Nat} (h7 : M 0 7 = nI n) (hk12 : k ≤ 12) (hk : Q (some (.int ((nI n + nI ((k + 1) / 2 + 1) - 1) / nI ((k + 1) / 2 + 1)))) M N) : ∀ (r c : Nat), c + r = (k + 1) / 2 + 1 → 1 ≤ c → zr_X12_fewest Q 15 [some (.ref 0), some (.int (nI k)), some (.int (nI c))] [] M N := by
  intro r
  induction r with
  | zero =>
    intro c hc h1
    have e : c = (k + 1) / 2 + 1 := by omega
    subst e
    have ex : (2 : Int32) * (nI ((k + 1) / 2 + 1) + 1) - 3 = nI (2 * ((k + 1) / 2 + 1 + 1) - 3) := by rw [nI_1, show (2 : Int32) = nI 2 from rfl, pk_mul, show (3 : Int32) = nI 3 from rfl, pk_sub (by omega)]
    refine zv_X12_fewest_15 _ _ ?_
    rw [ex, h7]
    exact ⟨fun _ => ⟨nI_ne0 (by omega) (by omega), hk⟩, fun z => absurd (nI_lt (by omega) (by omega)) z⟩
  | succ r ih =>
    intro c hc h1
    have ex : (2 : Int32) * (nI c + 1) - 3 = nI (2 * (c + 1) - 3) := by rw [nI_1, show (2 : Int32) = nI 2 from rfl, pk_mul, show (3 : Int32) = nI 3 from rfl, pk_sub (by omega)]
    refine zv_X12_fewest_15 _ _ ?_
    rw [ex, nI_1]
    exact ⟨fun z => absurd z (nI_nlt (by omega) (by omega)), fun _ => ih (c + 1) (by omega) (by omega)⟩
theorem zE_X12_fewest (as : List Value) (M : ab_M) (N : ab_N) (k : ab_R) (hT : zt_X12_fewest as M N k) : ab_cs as ≤ 3 ∧ zr_X12_fewest k 0 (ab_en as) [] M N := by
  obtain ⟨⟨n, l⟩, q, rfl, ⟨rfl, h7⟩, hk⟩ := hT
  dsimp only at h7 hk ⊢
  have hk := hk _ _ _ ⟨rfl, rfl, rfl⟩
  unfold zFeA at hk
  refine ⟨Nat.le_of_ble_eq_true rfl, zv_X12_fewest_0 _ ⟨fun c => ?_, fun c => ?_⟩⟩
  · rw [if_neg (ab_b_0.mp c)] at hk
    exact hk
  · have c := zIx0 c
    rw [if_pos c] at hk
    obtain ⟨s, y, e⟩ := zIxM (n := 12) (by decide) c
    subst e
    rw [nI_clamp (show s < 2 ^ 31 by omega)] at hk
    exact zL_X12_fewest h7 y hk ((s + 1) / 2) 1 (by omega) (Nat.le_refl _)
abbrev zR_X12_fewest : Room := { frames := 1, cells := 0, slots := 0, locals := 22 }
set_option maxRecDepth 20000 in
theorem zM_X12_fewest (l : Launch) : ab_Met l zw_M vwCl zZ_M yX12_fewest cX12_fewest 3 (some .int) zR_X12_fewest zt_X12_fewest := ab_ofRun (G := zg_X12_fewest) (P := zp_X12_fewest) rfl zo_X12_fewest (by decide +kernel) zl_cl zl_lamM zf_X12_ok ab_Tab_nil zc_X12_ok ab_Sta_nil (List.forall_mem_nil _) (List.forall_mem_cons.mpr ⟨ab_callS zZ_M_ok (zM_X12_in l) (ab_in 1200 (by decide +kernel) rfl) (ab_in 1198 (by decide +kernel) rfl) (ab_in 1199 (by decide +kernel) rfl) (ab_in 17 (by decide +kernel) rfl) (by unfold ab_yok; decide +kernel) ⟨rfl, rfl⟩ (by decide), List.forall_mem_nil _⟩) zE_X12_fewest
