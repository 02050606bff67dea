/-! the reference: the worst piece, sure *)
-/
def zWoX (d : ab_M) (p : Nat) : Int64 := (zRk d p (zHrs d)).1 (zBrk d)
def zWo (d : ab_M) : Nat → Int32 × Int64
  | 0 => (-1, 0)
  | p + 1 => if lg_cmp (zWoX d p) (zWo d p).2 ≤ 0 then zWo d p else (nI p, zWoX d p)
def zt_X12_worst : ab_T := ab_lq (α := ab_M) (fun x r M _ => r = [] ∧ zRN x M)
  (fun x M N o M2 N2 => zFr zSL M M2 ∧ zNfr [0, 32] N N2 ∧ o = some (.int (zWo x (zPcs x)).1))
theorem zt_X12_worst_mono : ab_mono zt_X12_worst := ab_lq_mono _ _
theorem zV_X12_worst : ab_recv zw_M vwCl RX12 zt_X12_worst := ab_lq_v
def zp_X12_worst : ab_P := [(0, .aload_n 0, 1, [0], []),
  (1, .invokevirtual 311, 4, [], []),
  (4, .iconst (-1), 5, [], [(-1)]),
  (5, .istore_n 1, 6, [1], []),
  (6, .lconst 0, 7, [0], []),
  (7, .lstore_n 2, 8, [2], []),
  (8, .iconst 0, 9, [], [0]),
  (9, .istore 4, 11, [], []),
  (11, .iload 4, 13, [], []),
  (13, .aload_n 0, 14, [0], []),
  (14, .getfield 172, 17, [], []),
  (17, .if_icmp .ge 48, 20, [65], []),
  (20, .aload_n 0, 21, [0], []),
  (21, .iload 4, 23, [], []),
  (23, .aload_n 0, 24, [0], []),
  (24, .getfield 7, 27, [], []),
  (27, .iconst 1, 28, [], [1]),
  (28, .isub, 29, [], []),
  (29, .invokevirtual 334, 32, [], []),
  (32, .aload_n 0, 33, [0], []),
  (33, .getfield 157, 36, [], []),
  (36, .aload_n 0, 37, [0], []),
  (37, .getfield 13, 40, [], []),
  (40, .laload, 41, [], []),
  (41, .lload_n 2, 42, [2], []),
  (42, .lcmp, 43, [], []),
  (43, .ifCond .le 16, 46, [59], []),
  (46, .iload 4, 48, [], []),
  (48, .istore_n 1, 49, [1], []),
  (49, .aload_n 0, 50, [0], []),
  (50, .getfield 157, 53, [], []),
  (53, .aload_n 0, 54, [0], []),
  (54, .getfield 13, 57, [], []),
  (57, .laload, 58, [], []),
  (58, .lstore_n 2, 59, [2], []),
  (59, .iinc 4 1, 62, [], [1]),
  (62, .goto (-51), 65, [11], []),
  (65, .iload_n 1, 66, [1], []),
  (66, .ireturn, 67, [], [])]
theorem zo_X12_worst : ab_ok cX12_worst zp_X12_worst = true := by decide +kernel
def zg_X12_worst : ab_G := (zw_M, [], zf_X12, zc_X12, [], [(311, 1, zt_X12_walk), (334, 3, zt_X12_reckons)], [])
theorem zm_X12_worst : ab_MG zg_X12_worst := ab_MGof (List.forall_mem_cons.mpr ⟨zt_X12_walk_mono, List.forall_mem_cons.mpr ⟨zt_X12_reckons_mono, List.forall_mem_nil _⟩⟩) (List.forall_mem_nil _)
abbrev zr_X12_worst (Q : ab_R) : ab_K := ab_Run zg_X12_worst zp_X12_worst (some .int) 5 Q
set_option maxRecDepth 20000 in
theorem zv_X12_worst_0 {Q : ab_R} {M : ab_M} {N : ab_N}  (h : zt_X12_walk [.ref 0] M N (fun r M2 N2 => zr_X12_worst Q 4 [some (.ref 0), none, none, none, none] (ab_ol r []) M2 N2)) : zr_X12_worst Q 0 [some (.ref 0)] [] M N := ab_Run_s zm_X12_worst (sp := [(4, [true, false, false, false, false]), (11, [true, true, true, false, true]), (32, [true, true, true, false, true])]) 41 h
set_option maxRecDepth 20000 in
theorem zv_X12_worst_4 {Q : ab_R} {M : ab_M} {N : ab_N}  (h : zr_X12_worst Q 11 [some (.ref 0), some (.int (-1 : Int32)), some (.long (0 : Int64)), none, some (.int (0 : Int32))] [] M N) : zr_X12_worst Q 4 [some (.ref 0), none, none, none, none] [] M N := ab_Run_s zm_X12_worst (sp := [(4, [true, false, false, false, false]), (11, [true, true, true, false, true]), (32, [true, true, true, false, true])]) 41 h
set_option maxRecDepth 20000 in
theorem zv_X12_worst_11 {Q : ab_R} {M : ab_M} {N : ab_N} (l1 : Int32) (l2 : Int64) (l4 : Int32) (h : ((M 0 7) ≤ l4 → Q (some (.int l1)) M N) ∧ (¬ ((M 0 7) ≤ l4) → zt_X12_reckons [.ref 0, .int l4, .int ((M 0 0) - (1 : Int32))] M N (fun r M2 N2 => zr_X12_worst Q 32 [some (.ref 0), some (.int l1), some (.long l2), none, some (.int l4)] (ab_ol r []) M2 N2))) : zr_X12_worst Q 11 [some (.ref 0), some (.int l1), some (.long l2), none, some (.int l4)] [] M N := ab_Run_s zm_X12_worst (sp := [(4, [true, false, false, false, false]), (11, [true, true, true, false, true]), (32, [true, true, true, false, true])]) 41 h
set_option maxRecDepth 20000 in
theorem zv_X12_worst_32 {Q : ab_R} {M : ab_M} {N : ab_N} (l1 : Int32) (l2 : Int64) (l4 : Int32) (h : vp_in (M 0 1) 7 ∧ (((lg_cmp (N 32 (M 0 1).toNatClampNeg) l2) ≤ 0 → zr_X12_worst Q 11 [some (.ref 0), some (.int l1), some (.long l2), none, some (.int (l4 + (1 : Int32)))] [] M N) ∧ (¬ ((lg_cmp (N 32 (M 0 1).toNatClampNeg) l2) ≤ 0) → vp_in (M 0 1) 7 ∧ (zr_X12_worst Q 11 [some (.ref 0), some (.int l4), some (.long (N 32 (M 0 1).toNatClampNeg)), none, some (.int (l4 + (1 : Int32)))] [] M N)))) : zr_X12_worst Q 32 [some (.ref 0), some (.int l1), some (.long l2), none, some (.int l4)] [] M N := ab_Run_s zm_X12_worst (sp := [(4, [true, false, false, false, false]), (11, [true, true, true, false, true]), (32, [true, true, true, false, true])]) 41 h
theorem zL_X12_worst {Q : ab_R} {d M0 : ab_M} {N0 : ab_N} (hk : ∀ M N, zFr zSL M0 M → zNfr [0, 32] N0 N → Q (some (.int (zWo d (zPcs d)).1)) M N) : ∀ (r p : Nat) (M : ab_M) (N : ab_N) (a : Int32) (x : Int64), p + r = zPcs d → zRN d M → zWkR d M (zHrs d) → zFr zSL M0 M → zNfr [0, 32] N0 N → zWo d p = (a, x) → zr_X12_worst Q 11 [some (.ref 0), some (.int a), some (.long x), none, some (.int (nI p))] [] M N := by
  intro r
  induction r with
  | zero =>
    intro p M N a x hr hR hW hF hN e
    obtain ⟨n7, p8, -⟩ := zNI_n hR
    have ep : p = zPcs d := by omega
    subst ep
    have hk := hk M N hF hN
    rw [e] at hk
    exact zv_X12_worst_11 _ _ _ ⟨fun _ => hk, fun c => absurd (by rw [n7]; exact nI_le (Nat.le_refl _) (by omega)) c⟩
  | succ r ih =>
    intro p M N a x hr hR hW hF hN e
    obtain ⟨n7, p8, n12, m5, n0, h1, h12, n1, b2, b6⟩ := zNI_n hR
    refine zv_X12_worst_11 _ _ _ ⟨fun c => absurd (by rw [← n7]; exact c) (nI_ge (a := p) (b := zPcs d) (by omega) (by omega)), fun _ => ?_⟩
    rw [n0, show nI (zHrs d) - 1 = nI (zHrs d - 1) by rw [show zHrs d = (zHrs d - 1) + 1 by omega, nI_pred]; rfl]
    refine zRkn hR hW (show p < zPcs d by omega) (show zHrs d - 1 < zHrs d by omega) (fun M3 N3 f1 f2 f3 => ?_)
    rw [show zHrs d - 1 + 1 = zHrs d by omega] at f3
    have q1 : M3 0 1 = nI (zBrk d) := by rw [f1 0 (by decide), n1]
    have ex : N3 32 (zBrk d) = zWoX d p := f3.1 _ (by omega)
    refine zv_X12_worst_32 _ _ _ ?_
    rw [q1, nI_clamp (show zBrk d < 2 ^ 31 by omega), ex, nI_1]
    have go := fun a2 x2 => ih (p + 1) M3 N3 a2 x2 (by omega) (zRN_zfr hR f1 (by decide)) (zWkR_fr hW f1) (zFr_tr hF (zFr_mono f1 (by decide))) (zNfr_tr hN f2)
    have e2 : zWo d (p + 1) = if lg_cmp (zWoX d p) (zWo d p).2 ≤ 0 then zWo d p else (nI p, zWoX d p) := rfl
    rw [e] at e2
    refine ⟨nI_in_ (by omega), fun c => go _ _ ?_, fun c => ⟨nI_in_ (by omega), go _ _ ?_⟩⟩
    · rw [e2, if_pos c]
    · rw [e2, if_neg c]
theorem zE_X12_worst (as : List Value) (M : ab_M) (N : ab_N) (k : ab_R) (hT : zt_X12_worst as M N k) : ab_cs as ≤ 5 ∧ zr_X12_worst k 0 (ab_en as) [] M N := by
  obtain ⟨d, q, rfl, ⟨rfl, hR⟩, hk⟩ := hT
  refine ⟨Nat.le_of_ble_eq_true rfl, zv_X12_worst_0 ⟨d, _, rfl, ⟨rfl, hR⟩, ?_⟩⟩
  rintro o M2 N2 ⟨rfl, rfl, g1, g2⟩
  exact zv_X12_worst_4 (zL_X12_worst (d := d) (M0 := M) (N0 := N2) (fun M3 N3 a b => hk _ _ _ ⟨a, b, rfl⟩) (zPcs d) 0 M2 N2 _ _ (by omega) (zRN_zfr hR g1 (by decide)) g2 g1 (zNfr_rf _ _) rfl)
abbrev zR_X12_worst : Room := { frames := 7, cells := 0, slots := 0, locals := 166 }
set_option maxRecDepth 20000 in
theorem zM_X12_worst (l : Launch) : ab_Met l zw_M vwCl zZ_M yX12_worst cX12_worst 5 (some .int) zR_X12_worst zt_X12_worst := ab_ofRun (G := zg_X12_worst) (P := zp_X12_worst) rfl zo_X12_worst (by decide +kernel) zl_cl zl_lamM zf_X12_ok ab_Tab_nil zc_X12_ok ab_Sta_nil (List.forall_mem_cons.mpr ⟨ab_callV zZ_M_ok (zM_X12_walk l) (ab_in 1317 (by decide +kernel) rfl) (ab_in 1314 (by decide +kernel) rfl) (ab_in 1316 (by decide +kernel) rfl) (ab_inS (List.mem_of_getElem? (i := 41) (by decide +kernel)) rfl) (ab_in 17 (by decide +kernel) rfl) (by unfold ab_yok; decide +kernel) ⟨rfl, rfl⟩ (by decide) zV_X12_walk, List.forall_mem_cons.mpr ⟨ab_callV zZ_M_ok (zM_X12_reckons l) (ab_in 1376 (by decide +kernel) rfl) (ab_in 1373 (by decide +kernel) rfl) (ab_in 1375 (by decide +kernel) rfl) (ab_inS (List.mem_of_getElem? (i := 51) (by decide +kernel)) rfl) (ab_in 17 (by decide +kernel) rfl) (by unfold ab_yok; decide +kernel) ⟨rfl, rfl⟩ (by decide) zV_X12_reckons, List.forall_mem_nil _⟩⟩) (List.forall_mem_nil _) zE_X12_worst
def zRow (d : ab_M) (p : Nat) : Nat := (zLgR (zBt (zLkB d) (nI p)) (zHrs d)).2
abbrev zSuP (d : ab_M) (l : Int32) : Prop := ∀ p, p < zPcs d → nI (zRow d p) ≤ l
def zSuA (d : ab_M) (l : Int32) : Int32 := if 0 ≤ l ∧ l ≤ 12 then (if zSuP d l then 1 else 0) else -2
def zt_X12_sure : ab_T := ab_lq (α := ab_M × Int32) (fun x r M _ => r = [.int x.2] ∧ zRN x.1 M)
  (fun x M N o M2 N2 => zFr zSL M M2 ∧ N2 = N ∧ o = some (.int (zSuA x.1 x.2)))
theorem zt_X12_sure_mono : ab_mono zt_X12_sure := ab_lq_mono _ _
theorem zV_X12_sure : ab_recv zw_M vwCl RX12 zt_X12_sure := ab_lq_v
def zp_X12_sure : ab_P := [(0, .iload_n 1, 1, [1], []),
  (1, .iconst 0, 2, [], [0]),
  (2, .bipush 12, 4, [], [12]),
  (4, .invokestatic 175, 7, [], []),
  (7, .ifCond .ne 6, 10, [13], []),
  (10, .bipush (-2), 12, [], [(-2)]),
  (12, .ireturn, 13, [], []),
  (13, .aload_n 0, 14, [0], []),
  (14, .invokevirtual 311, 17, [], []),
  (17, .iconst 0, 18, [], [0]),
  (18, .istore_n 2, 19, [2], []),
  (19, .iload_n 2, 20, [2], []),
  (20, .aload_n 0, 21, [0], []),
  (21, .getfield 172, 24, [], []),
  (24, .if_icmp .ge 20, 27, [44], []),
  (27, .aload_n 0, 28, [0], []),
  (28, .iload_n 2, 29, [2], []),
  (29, .invokevirtual 314, 32, [], []),
  (32, .iload_n 1, 33, [1], []),
  (33, .if_icmp .le 5, 36, [38], []),
  (36, .iconst 0, 37, [], [0]),
  (37, .ireturn, 38, [], []),
  (38, .iinc 2 1, 41, [], [1]),
  (41, .goto (-22), 44, [19], []),
  (44, .iconst 1, 45, [], [1]),
  (45, .ireturn, 46, [], [])]
theorem zo_X12_sure : ab_ok cX12_sure zp_X12_sure = true := by decide +kernel
def zg_X12_sure : ab_G := (zw_M, [], zf_X12, zc_X12, [], [(311, 1, zt_X12_walk), (314, 2, zt_X12_rowWithout)], [(175, 3, zt_X12_in)])
theorem zm_X12_sure : ab_MG zg_X12_sure := ab_MGof (List.forall_mem_cons.mpr ⟨zt_X12_walk_mono, List.forall_mem_cons.mpr ⟨zt_X12_rowWithout_mono, List.forall_mem_nil _⟩⟩) (List.forall_mem_cons.mpr ⟨ab_pure_mono _, List.forall_mem_nil _⟩)
abbrev zr_X12_sure (Q : ab_R) : ab_K := ab_Run zg_X12_sure zp_X12_sure (some .int) 3 Q
set_option maxRecDepth 20000 in
theorem zv_X12_sure_0 {Q : ab_R} {M : ab_M} {N : ab_N} (l1 : Int32) (h : ((ab_b ((0 : Int32) ≤ l1 ∧ l1 ≤ (12 : Int32))) = 0 → Q (some (.int (-2 : Int32))) M N) ∧ (¬ ((ab_b ((0 : Int32) ≤ l1 ∧ l1 ≤ (12 : Int32))) = 0) → zt_X12_walk [.ref 0] M N (fun r M2 N2 => zr_X12_sure Q 17 [some (.ref 0), some (.int l1), none] (ab_ol r []) M2 N2))) : zr_X12_sure Q 0 [some (.ref 0), some (.int l1)] [] M N := ab_Run_s zm_X12_sure (sp := [(17, [true, true, false]), (19, [true, true, true]), (32, [true, true, true])]) 28 h
set_option maxRecDepth 20000 in
theorem zv_X12_sure_17 {Q : ab_R} {M : ab_M} {N : ab_N} (l1 : Int32) (h : zr_X12_sure Q 19 [some (.ref 0), some (.int l1), some (.int (0 : Int32))] [] M N) : zr_X12_sure Q 17 [some (.ref 0), some (.int l1), none] [] M N := ab_Run_s zm_X12_sure (sp := [(17, [true, true, false]), (19, [true, true, true]), (32, [true, true, true])]) 28 h
set_option maxRecDepth 20000 in
theorem zv_X12_sure_19 {Q : ab_R} {M : ab_M} {N : ab_N} (l1 : Int32) (l2 : Int32) (h : ((M 0 7) ≤ l2 → Q (some (.int (1 : Int32))) M N) ∧ (¬ ((M 0 7) ≤ l2) → zt_X12_rowWithout [.ref 0, .int l2] M N (fun r M2 N2 => zr_X12_sure Q 32 [some (.ref 0), some (.int l1), some (.int l2)] (ab_ol r []) M2 N2))) : zr_X12_sure Q 19 [some (.ref 0), some (.int l1), some (.int l2)] [] M N := ab_Run_s zm_X12_sure (sp := [(17, [true, true, false]), (19, [true, true, true]), (32, [true, true, true])]) 28 h
set_option maxRecDepth 20000 in
theorem zv_X12_sure_32 {Q : ab_R} {M : ab_M} {N : ab_N} (l1 : Int32) (l2 : Int32) (s0 : Int32) (h : (s0 ≤ l1 → zr_X12_sure Q 19 [some (.ref 0), some (.int l1), some (.int (l2 + (1 : Int32)))] [] M N) ∧ (¬ (s0 ≤ l1) → Q (some (.int (0 : Int32))) M N)) : zr_X12_sure Q 32 [some (.ref 0), some (.int l1), some (.int l2)] [.int s0] M N := ab_Run_s zm_X12_sure (sp := [(17, [true, true, false]), (19, [true, true, true]), (32, [true, true, true])]) 28 h
theorem zL_X12_sure {Q : ab_R} {d M : ab_M} {N : ab_N} {l : Int32} (h7 : M 0 7 = nI (zPcs d)) (p8 : zPcs d ≤ 8) (h0 : M 0 0 = nI (zHrs d)) (h12 : zHrs d ≤ 12) (hW : zWkR d M (zHrs d)) (hA : zSuP d l → Q (some (.int 1)) M N) (hB : ¬ zSuP d l → Q (some (.int 0)) M N) : ∀ (r p : Nat), p + r = zPcs d → (∀ j, j < p → nI (zRow d j) ≤ l) → zr_X12_sure Q 19 [some (.ref 0), some (.int l), some (.int (nI p))] [] M N := by
  intro r
  induction r with
  | zero =>
    intro p hr hp
    have ep : p = zPcs d := by omega
    subst ep
    exact zv_X12_sure_19 _ _ ⟨fun _ => hA hp, fun c => absurd (by rw [h7]; exact nI_le (Nat.le_refl _) (by omega)) c⟩
  | succ r ih =>
    intro p hr hp
    refine zv_X12_sure_19 _ _ ⟨fun c => absurd (by rw [← h7]; exact c) (nI_ge (a := p) (b := zPcs d) (by omega) (by omega)), fun _ => ⟨(zHrs d, nI p), _, rfl, ⟨rfl, h0, h12⟩, ?_⟩⟩
    rintro o M2 N2 ⟨rfl, rfl, rfl⟩
    dsimp only
    rw [zLgR_c (C := zBt (zLkB d) (nI p)) (zHrs d) (fun h hh => by unfold zBt; rw [(hW h hh).2.2]; rfl)]
    refine zv_X12_sure_32 _ _ _ ?_
    rw [nI_1]
    refine ⟨fun c => ih (p + 1) (by omega) (fun j hj => ?_), fun c => hB (fun z => c (z p (by omega)))⟩
    by_cases e : j = p
    · rw [e]; exact c
    · exact hp j (by omega)
theorem zE_X12_sure (as : List Value) (M : ab_M) (N : ab_N) (k : ab_R) (hT : zt_X12_sure as M N k) : ab_cs as ≤ 3 ∧ zr_X12_sure k 0 (ab_en as) [] M N := by
  obtain ⟨⟨d, l⟩, q, rfl, ⟨rfl, hR⟩, hk⟩ := hT
  dsimp only at hR hk ⊢
  obtain ⟨n7, p8, n12, m5, n0, h1, h12, -⟩ := zNI_n hR
  have hk := fun M2 (hF : zFr zSL M M2) => hk _ M2 N ⟨hF, rfl, rfl⟩
  unfold zSuA at hk
  refine ⟨Nat.le_of_ble_eq_true rfl, zv_X12_sure_0 _ ⟨fun c => ?_, fun c => ⟨d, _, rfl, ⟨rfl, hR⟩, ?_⟩⟩⟩
  · have hk := hk M (zFr_rf _ _)
    rw [if_neg (ab_b_0.mp c)] at hk
    exact hk
  · rintro o M2 N2 ⟨rfl, rfl, g1, g2⟩
    have hk := hk M2 g1
    rw [if_pos (zIx0 c)] at hk
    exact zv_X12_sure_17 _ (zL_X12_sure (d := d) (by rw [g1 0 (by decide), n7]) p8 (by rw [g1 0 (by decide), n0]) h12 g2 (fun a => by rw [if_pos a] at hk; exact hk) (fun a => by rw [if_neg a] at hk; exact hk) (zPcs d) 0 (by omega) (fun j hj => absurd hj (Nat.not_lt_zero _)))
abbrev zR_X12_sure : Room := { frames := 7, cells := 0, slots := 0, locals := 166 }
set_option maxRecDepth 20000 in
theorem zM_X12_sure (l : Launch) : ab_Met l zw_M vwCl zZ_M yX12_sure cX12_sure 3 (some .int) zR_X12_sure zt_X12_sure := ab_ofRun (G := zg_X12_sure) (P := zp_X12_sure) rfl zo_X12_sure (by decide +kernel) zl_cl zl_lamM zf_X12_ok ab_Tab_nil zc_X12_ok ab_Sta_nil (List.forall_mem_cons.mpr ⟨ab_callV zZ_M_ok (zM_X12_walk l) (ab_in 1317 (by decide +kernel) rfl) (ab_in 1314 (by decide +kernel) rfl) (ab_in 1316 (by decide +kernel) rfl) (ab_inS (List.mem_of_getElem? (i := 41) (by decide +kernel)) rfl) (ab_in 17 (by decide +kernel) rfl) (by unfold ab_yok; decide +kernel) ⟨rfl, rfl⟩ (by decide) zV_X12_walk, List.forall_mem_cons.mpr ⟨ab_callV zZ_M_ok (zM_X12_rowWithout l) (ab_in 1360 (by decide +kernel) rfl) (ab_in 1357 (by decide +kernel) rfl) (ab_in 1359 (by decide +kernel) rfl) (ab_inS (List.mem_of_getElem? (i := 49) (by decide +kernel)) rfl) (ab_in 17 (by decide +kernel) rfl) (by unfold ab_yok; decide +kernel) ⟨rfl, rfl⟩ (by decide) zV_X12_rowWithout, List.forall_mem_nil _⟩⟩) (List.forall_mem_cons.mpr ⟨ab_callS zZ_M_ok (zM_X12_in l) (ab_in 1200 (by decide +kernel) rfl) (ab_in 1198 (by decide +kernel) rfl) (ab_in 1199 (by decide +kernel) rfl) (ab_in 17 (by decide +kernel) rfl) (by unfold ab_yok; decide +kernel) ⟨rfl, rfl⟩ (by decide), List.forall_mem_nil _⟩) zE_X12_sure
