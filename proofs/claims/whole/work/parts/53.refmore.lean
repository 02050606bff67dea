/-! the reference: with one LOOK more, called, little *)
-/
def zt_X12_withLook : ab_T := ab_lq (α := ab_M × Int32 × Int32) (fun x r M _ => r = [.int x.2.1, .int x.2.2] ∧ zRN x.1 (ab_u M 0 (upd (upd (M 0) 25 x.2.1) 26 x.2.2)))
  (fun x M N o M2 N2 => zFr (0 :: zSL) M M2 ∧ M2 0 = upd (upd (upd (M 0) 25 x.2.1) 26 x.2.2) 25 (-1) ∧ zNfr [0, 32] N N2 ∧ o = some (.long (zSum x.1 0 (zPcs x.1))))
theorem zt_X12_withLook_mono : ab_mono zt_X12_withLook := ab_lq_mono _ _
theorem zV_X12_withLook : ab_recv zw_M vwCl RX12 zt_X12_withLook := ab_lq_v
def zp_X12_withLook : ab_P := [(0, .aload_n 0, 1, [0], []),
  (1, .iload_n 1, 2, [1], []),
  (2, .putfield 71, 5, [], []),
  (5, .aload_n 0, 6, [0], []),
  (6, .iload_n 2, 7, [2], []),
  (7, .putfield 289, 10, [], []),
  (10, .aload_n 0, 11, [0], []),
  (11, .iconst 0, 12, [], [0]),
  (12, .invokevirtual 337, 15, [], []),
  (15, .lstore_n 3, 16, [3], []),
  (16, .aload_n 0, 17, [0], []),
  (17, .iconst (-1), 18, [], [(-1)]),
  (18, .putfield 71, 21, [], []),
  (21, .lload_n 3, 22, [3], []),
  (22, .lreturn, 23, [], [])]
theorem zo_X12_withLook : ab_ok cX12_withLook zp_X12_withLook = true := by decide +kernel
def zg_X12_withLook : ab_G := (zw_M, [], zf_X12, zc_X12, [], [(337, 2, zt_X12_runAll)], [])
theorem zm_X12_withLook : ab_MG zg_X12_withLook := ab_MGof (List.forall_mem_cons.mpr ⟨zt_X12_runAll_mono, List.forall_mem_nil _⟩) (List.forall_mem_nil _)
abbrev zr_X12_withLook (Q : ab_R) : ab_K := ab_Run zg_X12_withLook zp_X12_withLook (some .long) 5 Q
set_option maxRecDepth 20000 in
theorem zv_X12_withLook_0 {Q : ab_R} {M : ab_M} {N : ab_N} (l1 : Int32) (l2 : Int32) (h : let z1 : Nat → Int32 := upd (M 0) 25 l1; let z2 : Nat → Int32 := upd (z1) 26 l2; zt_X12_runAll [.ref 0, .int (0 : Int32)] (ab_u (ab_u M 0 z1) 0 z2) N (fun r M2 N2 => zr_X12_withLook Q 15 [some (.ref 0), none, none, none, none] (ab_ol r []) M2 N2)) : zr_X12_withLook Q 0 [some (.ref 0), some (.int l1), some (.int l2)] [] M N := ab_Run_s zm_X12_withLook (sp := [(15, [true, false, false, false, false])]) 17 h
set_option maxRecDepth 20000 in
theorem zv_X12_withLook_15 {Q : ab_R} {M : ab_M} {N : ab_N} (s0 : Int64) (h : let z1 : Nat → Int32 := upd (M 0) 25 (-1 : Int32); Q (some (.long s0)) (ab_u M 0 z1) N) : zr_X12_withLook Q 15 [some (.ref 0), none, none, none, none] [.long s0] M N := ab_Run_s zm_X12_withLook (sp := [(15, [true, false, false, false, false])]) 17 h
theorem zE_X12_withLook (as : List Value) (M : ab_M) (N : ab_N) (k : ab_R) (hT : zt_X12_withLook as M N k) : ab_cs as ≤ 5 ∧ zr_X12_withLook k 0 (ab_en as) [] M N := by
  obtain ⟨⟨d, a, b⟩, q, rfl, ⟨rfl, h⟩, hk⟩ := hT
  dsimp only at h hk ⊢
  refine ⟨Nat.le_of_ble_eq_true rfl, zv_X12_withLook_0 _ _ ?_⟩
  intro z1 z2
  rw [ab_u_u]
  refine ⟨(d, 0), _, rfl, ⟨rfl, h, show 0 ≤ 2 by decide⟩, ?_⟩
  rintro o M2 N2 ⟨g1, g2, rfl⟩
  have e0 : M2 0 = upd (upd (M 0) 25 a) 26 b := by rw [g1 0 (by decide), ab_u_eq]
  refine zv_X12_withLook_15 _ ?_
  intro z3
  refine hk _ _ _ ⟨fun c hc => ?_, ?_, g2, rfl⟩
  · rw [List.mem_cons, not_or] at hc
    rw [ab_u_ne _ _ hc.1, g1 c hc.2, ab_u_ne _ _ hc.1]
  · rw [ab_u_eq]
    simp only [z3]
    rw [e0]
abbrev zR_X12_withLook : Room := { frames := 8, cells := 0, slots := 0, locals := 190 }
set_option maxRecDepth 20000 in
theorem zM_X12_withLook (l : Launch) : ab_Met l zw_M vwCl zZ_M yX12_withLook cX12_withLook 5 (some .long) zR_X12_withLook zt_X12_withLook := ab_ofRun (G := zg_X12_withLook) (P := zp_X12_withLook) rfl zo_X12_withLook (by decide +kernel) zl_cl zl_lamM zf_X12_ok ab_Tab_nil zc_X12_ok ab_Sta_nil (List.forall_mem_cons.mpr ⟨ab_callV zZ_M_ok (zM_X12_runAll l) (ab_in 1372 (by decide +kernel) rfl) (ab_in 1369 (by decide +kernel) rfl) (ab_in 1371 (by decide +kernel) rfl) (ab_inS (List.mem_of_getElem? (i := 50) (by decide +kernel)) rfl) (ab_in 17 (by decide +kernel) rfl) (by unfold ab_yok; decide +kernel) ⟨rfl, rfl⟩ (by decide) zV_X12_runAll, List.forall_mem_nil _⟩) (List.forall_mem_nil _) zE_X12_withLook
theorem upd_back (f : Nat → Int32) (j : Nat) (x : Int32) : upd (upd f j x) j (f j) = f := by
  funext i
  by_cases e : i = j
  · rw [e, upd_eq]
  · rw [upd_ne _ _ e, upd_ne _ _ e]
def zt_X12_calledIn : ab_T := ab_lq (α := ab_M × Int32) (fun x r M _ => r = [.int x.2] ∧ zRN x.1 (ab_u M 0 (upd (M 0) 5 x.2)))
  (fun x M N o M2 N2 => zFr zSL M M2 ∧ zNfr [0, 32] N N2 ∧ o = some (.long (zSum x.1 0 (zPcs x.1))))
theorem zt_X12_calledIn_mono : ab_mono zt_X12_calledIn := ab_lq_mono _ _
theorem zV_X12_calledIn : ab_recv zw_M vwCl RX12 zt_X12_calledIn := ab_lq_v
def zp_X12_calledIn : ab_P := [(0, .aload_n 0, 1, [0], []),
  (1, .getfield 22, 4, [], []),
  (4, .istore_n 2, 5, [2], []),
  (5, .aload_n 0, 6, [0], []),
  (6, .iload_n 1, 7, [1], []),
  (7, .putfield 22, 10, [], []),
  (10, .aload_n 0, 11, [0], []),
  (11, .iconst 0, 12, [], [0]),
  (12, .invokevirtual 337, 15, [], []),
  (15, .lstore_n 3, 16, [3], []),
  (16, .aload_n 0, 17, [0], []),
  (17, .iload_n 2, 18, [2], []),
  (18, .putfield 22, 21, [], []),
  (21, .lload_n 3, 22, [3], []),
  (22, .lreturn, 23, [], [])]
theorem zo_X12_calledIn : ab_ok cX12_calledIn zp_X12_calledIn = true := by decide +kernel
def zg_X12_calledIn : ab_G := (zw_M, [], zf_X12, zc_X12, [], [(337, 2, zt_X12_runAll)], [])
theorem zm_X12_calledIn : ab_MG zg_X12_calledIn := ab_MGof (List.forall_mem_cons.mpr ⟨zt_X12_runAll_mono, List.forall_mem_nil _⟩) (List.forall_mem_nil _)
abbrev zr_X12_calledIn (Q : ab_R) : ab_K := ab_Run zg_X12_calledIn zp_X12_calledIn (some .long) 5 Q
set_option maxRecDepth 20000 in
theorem zv_X12_calledIn_0 {Q : ab_R} {M : ab_M} {N : ab_N} (l1 : Int32) (h : let z1 : Nat → Int32 := upd (M 0) 5 l1; zt_X12_runAll [.ref 0, .int (0 : Int32)] (ab_u M 0 z1) N (fun r M2 N2 => zr_X12_calledIn Q 15 [some (.ref 0), none, some (.int (M 0 5)), none, none] (ab_ol r []) M2 N2)) : zr_X12_calledIn Q 0 [some (.ref 0), some (.int l1)] [] M N := ab_Run_s zm_X12_calledIn (sp := [(15, [true, false, true, false, false])]) 17 h
set_option maxRecDepth 20000 in
theorem zv_X12_calledIn_15 {Q : ab_R} {M : ab_M} {N : ab_N} (l2 : Int32) (s0 : Int64) (h : let z1 : Nat → Int32 := upd (M 0) 5 l2; Q (some (.long s0)) (ab_u M 0 z1) N) : zr_X12_calledIn Q 15 [some (.ref 0), none, some (.int l2), none, none] [.long s0] M N := ab_Run_s zm_X12_calledIn (sp := [(15, [true, false, true, false, false])]) 17 h
theorem zE_X12_calledIn (as : List Value) (M : ab_M) (N : ab_N) (k : ab_R) (hT : zt_X12_calledIn as M N k) : ab_cs as ≤ 5 ∧ zr_X12_calledIn k 0 (ab_en as) [] M N := by
  obtain ⟨⟨d, a⟩, q, rfl, ⟨rfl, h⟩, hk⟩ := hT
  dsimp only at h hk ⊢
  refine ⟨Nat.le_of_ble_eq_true rfl, zv_X12_calledIn_0 _ ?_⟩
  intro z1
  refine ⟨(d, 0), _, rfl, ⟨rfl, h, show 0 ≤ 2 by decide⟩, ?_⟩
  rintro o M2 N2 ⟨g1, g2, rfl⟩
  have e0 : M2 0 = upd (M 0) 5 a := by rw [g1 0 (by decide), ab_u_eq]
  refine zv_X12_calledIn_15 _ _ ?_
  intro z3
  refine hk _ _ _ ⟨fun c hc => ?_, g2, rfl⟩
  by_cases e : c = 0
  · rw [e, ab_u_eq]
    simp only [z3]
    rw [e0, upd_back]
  · rw [ab_u_ne _ _ e, g1 c hc, ab_u_ne _ _ e]
abbrev zR_X12_calledIn : Room := { frames := 8, cells := 0, slots := 0, locals := 190 }
set_option maxRecDepth 20000 in
theorem zM_X12_calledIn (l : Launch) : ab_Met l zw_M vwCl zZ_M yX12_calledIn cX12_calledIn 5 (some .long) zR_X12_calledIn zt_X12_calledIn := ab_ofRun (G := zg_X12_calledIn) (P := zp_X12_calledIn) rfl zo_X12_calledIn (by decide +kernel) zl_cl zl_lamM zf_X12_ok ab_Tab_nil zc_X12_ok ab_Sta_nil (List.forall_mem_cons.mpr ⟨ab_callV zZ_M_ok (zM_X12_runAll l) (ab_in 1372 (by decide +kernel) rfl) (ab_in 1369 (by decide +kernel) rfl) (ab_in 1371 (by decide +kernel) rfl) (ab_inS (List.mem_of_getElem? (i := 50) (by decide +kernel)) rfl) (ab_in 17 (by decide +kernel) rfl) (by unfold ab_yok; decide +kernel) ⟨rfl, rfl⟩ (by decide) zV_X12_runAll, List.forall_mem_nil _⟩) (List.forall_mem_nil _) zE_X12_calledIn
def zt_X12_isLittle : ab_T := ab_lq (α := ab_M × ab_M × Int32 × Int32 × Int32) (fun x r M _ => r = [.int x.2.2.1, .int x.2.2.2.1, .int x.2.2.2.2] ∧ zRN x.1 (ab_u M 0 (upd (upd (M 0) 3 (M 0 3 - x.2.2.2.2)) 5 (-1))) ∧ zRN x.2.1 (ab_u M 0 (upd (upd (M 0) 3 (M 0 3 - x.2.2.2.2)) 5 x.2.2.1)))
  (fun x M N o M2 N2 => zFr zSL M M2 ∧ zNfr [0, 32] N N2 ∧ o = some (.int (if 0 < lg_cmp (zSum x.1 0 (zPcs x.1) - zSum x.2.1 0 (zPcs x.2.1)) (1000000000 * x.2.2.2.1.toInt64) then 0 else 1)))
theorem zt_X12_isLittle_mono : ab_mono zt_X12_isLittle := ab_lq_mono _ _
theorem zV_X12_isLittle : ab_recv zw_M vwCl RX12 zt_X12_isLittle := ab_lq_v
def zp_X12_isLittle : ab_P := [(0, .aload_n 0, 1, [0], []),
  (1, .getfield 16, 4, [], []),
  (4, .istore 4, 6, [], []),
  (6, .aload_n 0, 7, [0], []),
  (7, .iload 4, 9, [], []),
  (9, .iload_n 3, 10, [3], []),
  (10, .isub, 11, [], []),
  (11, .putfield 16, 14, [], []),
  (14, .aload_n 0, 15, [0], []),
  (15, .iconst (-1), 16, [], [(-1)]),
  (16, .invokevirtual 346, 19, [], []),
  (19, .aload_n 0, 20, [0], []),
  (20, .iload_n 1, 21, [1], []),
  (21, .invokevirtual 346, 24, [], []),
  (24, .lsub, 25, [], []),
  (25, .lstore 5, 27, [], []),
  (27, .aload_n 0, 28, [0], []),
  (28, .iload 4, 30, [], []),
  (30, .putfield 16, 33, [], []),
  (33, .lload 5, 35, [], []),
  (35, .ldc2_w 326, 38, [], []),
  (38, .iload_n 2, 39, [2], []),
  (39, .i2l, 40, [], []),
  (40, .lmul, 41, [], []),
  (41, .lcmp, 42, [], []),
  (42, .ifCond .gt 7, 45, [49], []),
  (45, .iconst 1, 46, [], [1]),
  (46, .goto 4, 49, [50], []),
  (49, .iconst 0, 50, [], [0]),
  (50, .ireturn, 51, [], [])]
theorem zo_X12_isLittle : ab_ok cX12_isLittle zp_X12_isLittle = true := by decide +kernel
def zg_X12_isLittle : ab_G := (zw_M, [], zf_X12, zc_X12, [], [(346, 2, zt_X12_calledIn)], [])
theorem zm_X12_isLittle : ab_MG zg_X12_isLittle := ab_MGof (List.forall_mem_cons.mpr ⟨zt_X12_calledIn_mono, List.forall_mem_nil _⟩) (List.forall_mem_nil _)
abbrev zr_X12_isLittle (Q : ab_R) : ab_K := ab_Run zg_X12_isLittle zp_X12_isLittle (some .boolean) 7 Q
set_option maxRecDepth 20000 in
theorem zv_X12_isLittle_0 {Q : ab_R} {M : ab_M} {N : ab_N} (l1 : Int32) (l2 : Int32) (l3 : Int32) (h : let z1 : Nat → Int32 := upd (M 0) 3 ((M 0 3) - l3); zt_X12_calledIn [.ref 0, .int (-1 : Int32)] (ab_u M 0 z1) N (fun r M2 N2 => zr_X12_isLittle Q 19 [some (.ref 0), some (.int l1), some (.int l2), none, some (.int (M 0 3)), none, none] (ab_ol r []) M2 N2)) : zr_X12_isLittle Q 0 [some (.ref 0), some (.int l1), some (.int l2), some (.int l3)] [] M N := ab_Run_s zm_X12_isLittle (sp := [(19, [true, true, true, false, true, false, false]), (24, [true, false, true, false, true, false, false])]) 32 h
set_option maxRecDepth 20000 in
theorem zv_X12_isLittle_19 {Q : ab_R} {M : ab_M} {N : ab_N} (l1 : Int32) (l2 : Int32) (l4 : Int32) (s0 : Int64) (h : zt_X12_calledIn [.ref 0, .int l1] M N (fun r M2 N2 => zr_X12_isLittle Q 24 [some (.ref 0), none, some (.int l2), none, some (.int l4), none, none] (ab_ol r [.long s0]) M2 N2)) : zr_X12_isLittle Q 19 [some (.ref 0), some (.int l1), some (.int l2), none, some (.int l4), none, none] [.long s0] M N := ab_Run_s zm_X12_isLittle (sp := [(19, [true, true, true, false, true, false, false]), (24, [true, false, true, false, true, false, false])]) 32 h
set_option maxRecDepth 20000 in
theorem zv_X12_isLittle_24 {Q : ab_R} {M : ab_M} {N : ab_N} (l2 : Int32) (l4 : Int32) (s0 : Int64) (s1 : Int64) (h : let z1 : Nat → Int32 := upd (M 0) 3 l4; (0 < (lg_cmp (s0 - s1) ((1000000000 : Int64) * (l2.toInt64))) → narrow .boolean (.int (0 : Int32)) = .int (0 : Int32) ∧ Q (some (.int (0 : Int32))) (ab_u M 0 z1) N) ∧ (¬ (0 < (lg_cmp (s0 - s1) ((1000000000 : Int64) * (l2.toInt64)))) → narrow .boolean (.int (1 : Int32)) = .int (1 : Int32) ∧ Q (some (.int (1 : Int32))) (ab_u M 0 z1) N)) : zr_X12_isLittle Q 24 [some (.ref 0), none, some (.int l2), none, some (.int l4), none, none] [.long s1, .long s0] M N := ab_Run_s zm_X12_isLittle (sp := [(19, [true, true, true, false, true, false, false]), (24, [true, false, true, false, true, false, false])]) 32 h
theorem zE_X12_isLittle (as : List Value) (M : ab_M) (N : ab_N) (k : ab_R) (hT : zt_X12_isLittle as M N k) : ab_cs as ≤ 7 ∧ zr_X12_isLittle k 0 (ab_en as) [] M N := by
  obtain ⟨⟨d1, d2, a, b, c⟩, q, rfl, ⟨rfl, h1, h2⟩, hk⟩ := hT
  dsimp only at h1 h2 hk ⊢
  refine ⟨Nat.le_of_ble_eq_true rfl, zv_X12_isLittle_0 _ _ _ ?_⟩
  intro z1
  refine ⟨(d1, -1), _, rfl, ⟨rfl, by rw [ab_u_eq, ab_u_u]; exact h1⟩, ?_⟩
  rintro o M2 N2 ⟨g1, g2, rfl⟩
  have e0 : M2 0 = upd (M 0) 3 (M 0 3 - c) := by rw [g1 0 (by decide), ab_u_eq]
  refine zv_X12_isLittle_19 _ _ _ _ ⟨(d2, a), _, rfl, ⟨rfl, ?_⟩, ?_⟩
  · refine zRN_zfr h2 (L := zSL) (fun q hq => ?_) (by decide)
    dsimp only
    by_cases e : q = 0
    · rw [e, ab_u_eq, ab_u_eq, e0]
    · rw [ab_u_ne _ _ e, ab_u_ne _ _ e, g1 q hq, ab_u_ne _ _ e]
  rintro o M3 N3 ⟨f1, f2, rfl⟩
  refine zv_X12_isLittle_24 _ _ _ _ ?_
  intro z4
  have fr : zFr zSL M (ab_u M3 0 z4) := fun q hq => by
    by_cases e : q = 0
    · rw [e, ab_u_eq]
      simp only [z4]
      rw [f1 0 (by decide), e0, upd_back]
    · rw [ab_u_ne _ _ e, f1 q hq, g1 q hq, ab_u_ne _ _ e]
  have nf : zNfr [0, 32] N N3 := fun q hq => (f2 q hq).trans (g2 q hq)
  dsimp only
  refine ⟨fun z => ⟨ab_n0, hk _ _ _ ⟨fr, nf, by rw [if_pos z]⟩⟩, fun z => ⟨ab_n1, hk _ _ _ ⟨fr, nf, by rw [if_neg z]⟩⟩⟩
abbrev zR_X12_isLittle : Room := { frames := 9, cells := 0, slots := 0, locals := 214 }
set_option maxRecDepth 20000 in
theorem zM_X12_isLittle (l : Launch) : ab_Met l zw_M vwCl zZ_M yX12_isLittle cX12_isLittle 7 (some .boolean) zR_X12_isLittle zt_X12_isLittle := ab_ofRun (G := zg_X12_isLittle) (P := zp_X12_isLittle) rfl zo_X12_isLittle (by decide +kernel) zl_cl zl_lamM zf_X12_ok ab_Tab_nil zc_X12_ok ab_Sta_nil (List.forall_mem_cons.mpr ⟨ab_callV zZ_M_ok (zM_X12_calledIn l) (ab_in 1460 (by decide +kernel) rfl) (ab_in 1457 (by decide +kernel) rfl) (ab_in 1459 (by decide +kernel) rfl) (ab_inS (List.mem_of_getElem? (i := 54) (by decide +kernel)) rfl) (ab_in 17 (by decide +kernel) rfl) (by unfold ab_yok; decide +kernel) ⟨rfl, rfl⟩ (by decide) zV_X12_calledIn, List.forall_mem_nil _⟩) (List.forall_mem_nil _) zE_X12_isLittle
/-- the row of hours that ends at hour h, and the longest row before it -/
def zLgR (B : Nat → Bool) : Nat → Nat × Nat
  | 0 => (0, 0)
  | h + 1 => if B h = true then (0, (zLgR B h).2) else ((zLgR B h).1 + 1, if (zLgR B h).1 + 1 ≤ (zLgR B h).2 then (zLgR B h).2 else (zLgR B h).1 + 1)
theorem zLgR_le (B : Nat → Bool) : ∀ h, (zLgR B h).1 ≤ h ∧ (zLgR B h).2 ≤ h
  | 0 => ⟨Nat.le_refl _, Nat.le_refl _⟩
  | h + 1 => by
    have := zLgR_le B h
    unfold zLgR
    split
    · exact ⟨Nat.zero_le _, by dsimp only; omega⟩
    · dsimp only
      split <;> omega
def zBt (f : Nat → Int32) (p : Int32) (h : Nat) : Bool := decide ((f h >>> (p &&& 31)) &&& 1 = 1)
def zt_X12_rowWithout : ab_T := ab_lq (α := Nat × Int32) (fun x r M _ => r = [.int x.2] ∧ M 0 0 = nI x.1 ∧ x.1 ≤ 12)
  (fun x M N o M2 N2 => M2 = M ∧ N2 = N ∧ o = some (.int (nI (zLgR (zBt (M 29) x.2) x.1).2)))
theorem zt_X12_rowWithout_mono : ab_mono zt_X12_rowWithout := ab_lq_mono _ _
theorem zV_X12_rowWithout : ab_recv zw_M vwCl RX12 zt_X12_rowWithout := ab_lq_v
def zp_X12_rowWithout : ab_P := [(0, .iconst 0, 1, [], [0]),
  (1, .istore_n 2, 2, [2], []),
  (2, .iconst 0, 3, [], [0]),
  (3, .istore_n 3, 4, [3], []),
  (4, .iconst 0, 5, [], [0]),
  (5, .istore 4, 7, [], []),
  (7, .iload 4, 9, [], []),
  (9, .aload_n 0, 10, [0], []),
  (10, .getfield 7, 13, [], []),
  (13, .if_icmp .ge 43, 16, [56], []),
  (16, .aload_n 0, 17, [0], []),
  (17, .getfield 147, 20, [], []),
  (20, .iload 4, 22, [], []),
  (22, .iaload, 23, [], []),
  (23, .iload_n 1, 24, [1], []),
  (24, .ishr, 25, [], []),
  (25, .iconst 1, 26, [], [1]),
  (26, .iand, 27, [], []),
  (27, .iconst 1, 28, [], [1]),
  (28, .if_icmp .ne 7, 31, [35], []),
  (31, .iconst 0, 32, [], [0]),
  (32, .goto 6, 35, [38], []),
  (35, .iload_n 3, 36, [3], []),
  (36, .iconst 1, 37, [], [1]),
  (37, .iadd, 38, [], []),
  (38, .istore_n 3, 39, [3], []),
  (39, .iload_n 3, 40, [3], []),
  (40, .iload_n 2, 41, [2], []),
  (41, .if_icmp .le 7, 44, [48], []),
  (44, .iload_n 3, 45, [3], []),
  (45, .goto 4, 48, [49], []),
  (48, .iload_n 2, 49, [2], []),
  (49, .istore_n 2, 50, [2], []),
  (50, .iinc 4 1, 53, [], [1]),
  (53, .goto (-46), 56, [7], []),
  (56, .iload_n 2, 57, [2], []),
  (57, .ireturn, 58, [], [])]
theorem zo_X12_rowWithout : ab_ok cX12_rowWithout zp_X12_rowWithout = true := by decide +kernel
def zg_X12_rowWithout : ab_G := (zw_M, [], zf_X12, zc_X12, [], [], [])
theorem zm_X12_rowWithout : ab_MG zg_X12_rowWithout := ab_MGof (List.forall_mem_nil _) (List.forall_mem_nil _)
abbrev zr_X12_rowWithout (Q : ab_R) : ab_K := ab_Run zg_X12_rowWithout zp_X12_rowWithout (some .int) 5 Q
set_option maxRecDepth 20000 in
theorem zv_X12_rowWithout_0 {Q : ab_R} {M : ab_M} {N : ab_N} (l1 : Int32) (h : zr_X12_rowWithout Q 7 [some (.ref 0), some (.int l1), some (.int (0 : Int32)), some (.int (0 : Int32)), some (.int (0 : Int32))] [] M N) : zr_X12_rowWithout Q 0 [some (.ref 0), some (.int l1)] [] M N := ab_Run_s zm_X12_rowWithout (sp := [(7, [true, true, true, true, true])]) 39 h
set_option maxRecDepth 20000 in
theorem zv_X12_rowWithout_7 {Q : ab_R} {M : ab_M} {N : ab_N} (l1 : Int32) (l2 : Int32) (l3 : Int32) (l4 : Int32) (h : ((M 0 0) ≤ l4 → Q (some (.int l2)) M N) ∧ (¬ ((M 0 0) ≤ l4) → vp_in l4 12 ∧ (((((M 29 l4.toNatClampNeg) >>> (l1 &&& 31)) &&& (1 : Int32)) = (1 : Int32) → ((0 : Int32) ≤ l2 → zr_X12_rowWithout Q 7 [some (.ref 0), some (.int l1), some (.int l2), some (.int (0 : Int32)), some (.int (l4 + (1 : Int32)))] [] M N) ∧ (¬ ((0 : Int32) ≤ l2) → zr_X12_rowWithout Q 7 [some (.ref 0), some (.int l1), some (.int (0 : Int32)), some (.int (0 : Int32)), some (.int (l4 + (1 : Int32)))] [] M N)) ∧ (¬ ((((M 29 l4.toNatClampNeg) >>> (l1 &&& 31)) &&& (1 : Int32)) = (1 : Int32)) → ((l3 + (1 : Int32)) ≤ l2 → zr_X12_rowWithout Q 7 [some (.ref 0), some (.int l1), some (.int l2), some (.int (l3 + (1 : Int32))), some (.int (l4 + (1 : Int32)))] [] M N) ∧ (¬ ((l3 + (1 : Int32)) ≤ l2) → zr_X12_rowWithout Q 7 [some (.ref 0), some (.int l1), some (.int (l3 + (1 : Int32))), some (.int (l3 + (1 : Int32))), some (.int (l4 + (1 : Int32)))] [] M N))))) : zr_X12_rowWithout Q 7 [some (.ref 0), some (.int l1), some (.int l2), some (.int l3), some (.int l4)] [] M N := ab_Run_s zm_X12_rowWithout (sp := [(7, [true, true, true, true, true])]) 39 h
theorem zL_X12_rowWithout {Q : ab_R} {M : ab_M} {N : ab_N} {n : Nat} {p : Int32} (h0 : M 0 0 = nI n) (hn : n ≤ 12) (hk : Q (some (.int (nI (zLgR (zBt (M 29) p) n).2))) M N) : ∀ (r h : Nat), h + r = n → zr_X12_rowWithout Q 7 [some (.ref 0), some (.int p), some (.int (nI (zLgR (zBt (M 29) p) h).2)), some (.int (nI (zLgR (zBt (M 29) p) h).1)), some (.int (nI h))] [] M N := by
  intro r
  induction r with
  | zero =>
    intro h hr
    have e : h = n := by omega
    subst e
    exact zv_X12_rowWithout_7 _ _ _ _ ⟨fun _ => hk, fun c => absurd (by rw [h0]; exact nI_le (Nat.le_refl _) (by omega)) c⟩
  | succ r ih =>
    intro h hr
    obtain ⟨l1, l2⟩ := zLgR_le (zBt (M 29) p) h
    have ih := ih (h + 1) (by omega)
    refine zv_X12_rowWithout_7 _ _ _ _ ?_
    rw [h0, nI_clamp (show h < 2 ^ 31 by omega), nI_1, nI_1]
    refine ⟨fun c => absurd c (nI_ge (by omega) (by omega)), fun _ => ⟨nI_in_ (by omega), fun c => ⟨fun _ => ?_, fun c2 => absurd (nI_pos' (by omega)) c2⟩, fun c => ⟨fun c2 => ?_, fun c2 => ?_⟩⟩⟩
    · have e : zLgR (zBt (M 29) p) (h + 1) = (0, (zLgR (zBt (M 29) p) h).2) := by
        show (if _ then _ else _) = _
        rw [if_pos (show zBt (M 29) p h = true from decide_eq_true c)]
      rw [e] at ih
      exact ih
    · have c3 := (nI_leI (by omega) (by omega)).mp c2
      have e : zLgR (zBt (M 29) p) (h + 1) = ((zLgR (zBt (M 29) p) h).1 + 1, (zLgR (zBt (M 29) p) h).2) := by
        show (if _ then _ else _) = _
        rw [if_neg (by rw [show zBt (M 29) p h = false from decide_eq_false c]; decide), if_pos c3]
      rw [e] at ih
      exact ih
    · have c3 : ¬ (zLgR (zBt (M 29) p) h).1 + 1 ≤ (zLgR (zBt (M 29) p) h).2 := fun z => c2 (nI_le z (by omega))
      have e : zLgR (zBt (M 29) p) (h + 1) = ((zLgR (zBt (M 29) p) h).1 + 1, (zLgR (zBt (M 29) p) h).1 + 1) := by
        show (if _ then _ else _) = _
        rw [if_neg (by rw [show zBt (M 29) p h = false from decide_eq_false c]; decide), if_neg c3]
      rw [e] at ih
      exact ih
theorem zE_X12_rowWithout (as : List Value) (M : ab_M) (N : ab_N) (k : ab_R) (hT : zt_X12_rowWithout as M N k) : ab_cs as ≤ 5 ∧ zr_X12_rowWithout k 0 (ab_en as) [] M N := by
  obtain ⟨⟨n, p⟩, q, rfl, ⟨rfl, h0, hn⟩, hk⟩ := hT
  dsimp only at h0 hn hk ⊢
  exact ⟨Nat.le_of_ble_eq_true rfl, zv_X12_rowWithout_0 _ (zL_X12_rowWithout h0 hn (hk _ _ _ ⟨rfl, rfl, rfl⟩) n 0 (by omega))⟩
abbrev zR_X12_rowWithout : Room := { frames := 0, cells := 0, slots := 0, locals := 0 }
set_option maxRecDepth 20000 in
theorem zM_X12_rowWithout (l : Launch) : ab_Met l zw_M vwCl zZ_M yX12_rowWithout cX12_rowWithout 5 (some .int) zR_X12_rowWithout zt_X12_rowWithout := ab_ofRun (G := zg_X12_rowWithout) (P := zp_X12_rowWithout) rfl zo_X12_rowWithout (by decide +kernel) zl_cl zl_lamM zf_X12_ok ab_Tab_nil zc_X12_ok ab_Sta_nil (List.forall_mem_nil _) (List.forall_mem_nil _) zE_X12_rowWithout
