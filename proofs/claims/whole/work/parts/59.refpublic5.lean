/-! the reference: asks, count *)
-/
def zAkA (d : ab_M) (t p h s c : Int32) : Int32 := if zHasN p (zPcs d) then (if 0 ≤ t ∧ t ≤ 2 then (if 0 ≤ h ∧ h ≤ 11 then (if 0 ≤ s ∧ s ≤ 12 then (if 0 ≤ c ∧ c ≤ 3 then nI (zAsk d t.toNatClampNeg p.toNatClampNeg h.toNatClampNeg s.toNatClampNeg c.toNatClampNeg) else -7) else -7) else -7) else -7) else -5
def zt_X12_asks : ab_T := ab_lq (α := ab_M × Int32 × Int32 × Int32 × Int32 × Int32) (fun x r M _ => r = [.int x.2.1, .int x.2.2.1, .int x.2.2.2.1, .int x.2.2.2.2.1, .int x.2.2.2.2.2] ∧ zRN x.1 M)
  (fun x M N o M2 N2 => zFr zSL M M2 ∧ N2 = N ∧ o = some (.int (zAkA x.1 x.2.1 x.2.2.1 x.2.2.2.1 x.2.2.2.2.1 x.2.2.2.2.2)))
theorem zt_X12_asks_mono : ab_mono zt_X12_asks := ab_lq_mono _ _
theorem zV_X12_asks : ab_recv zw_M vwCl RX12 zt_X12_asks := ab_lq_v
def zp_X12_asks : ab_P := [(0, .aload_n 0, 1, [0], []),
  (1, .iload_n 2, 2, [2], []),
  (2, .invokevirtual 182, 5, [], []),
  (5, .ifCond .ne 6, 8, [11], []),
  (8, .bipush (-5), 10, [], [(-5)]),
  (10, .ireturn, 11, [], []),
  (11, .iload_n 1, 12, [1], []),
  (12, .iconst 0, 13, [], [0]),
  (13, .iconst 2, 14, [], [2]),
  (14, .invokestatic 175, 17, [], []),
  (17, .ifCond .eq 48, 20, [65], []),
  (20, .iload_n 3, 21, [3], []),
  (21, .iconst 0, 22, [], [0]),
  (22, .bipush 11, 24, [], [11]),
  (24, .invokestatic 175, 27, [], []),
  (27, .ifCond .eq 38, 30, [65], []),
  (30, .iload 4, 32, [], []),
  (32, .iconst 0, 33, [], [0]),
  (33, .bipush 12, 35, [], [12]),
  (35, .invokestatic 175, 38, [], []),
  (38, .ifCond .eq 27, 41, [65], []),
  (41, .iload 5, 43, [], []),
  (43, .iconst 0, 44, [], [0]),
  (44, .iconst 3, 45, [], [3]),
  (45, .invokestatic 175, 48, [], []),
  (48, .ifCond .eq 17, 51, [65], []),
  (51, .aload_n 0, 52, [0], []),
  (52, .iload_n 1, 53, [1], []),
  (53, .iload_n 2, 54, [2], []),
  (54, .iload_n 3, 55, [3], []),
  (55, .iload 4, 57, [], []),
  (57, .iload 5, 59, [], []),
  (59, .invokevirtual 264, 62, [], []),
  (62, .goto 5, 65, [67], []),
  (65, .bipush (-7), 67, [], [(-7)]),
  (67, .ireturn, 68, [], [])]
theorem zo_X12_asks : ab_ok cX12_asks zp_X12_asks = true := by decide +kernel
def zg_X12_asks : ab_G := (zw_M, [], zf_X12, zc_X12, [], [(182, 2, zt_X12_isPiece), (264, 6, zt_X12_says)], [(175, 3, zt_X12_in)])
theorem zm_X12_asks : ab_MG zg_X12_asks := ab_MGof (List.forall_mem_cons.mpr ⟨ab_pure_mono _, List.forall_mem_cons.mpr ⟨zt_X12_says_mono, List.forall_mem_nil _⟩⟩) (List.forall_mem_cons.mpr ⟨ab_pure_mono _, List.forall_mem_nil _⟩)
abbrev zr_X12_asks (Q : ab_R) : ab_K := ab_Run zg_X12_asks zp_X12_asks (some .int) 6 Q
set_option maxRecDepth 20000 in
theorem zv_X12_asks_0 {Q : ab_R} {M : ab_M} {N : ab_N} (l1 : Int32) (l2 : Int32) (l3 : Int32) (l4 : Int32) (l5 : Int32) (h : ((ab_b (0 ≤ l2 ∧ l2 ≤ (M 0) 7 - 1)) = 0 → Q (some (.int (-5 : Int32))) M N) ∧ (¬ ((ab_b (0 ≤ l2 ∧ l2 ≤ (M 0) 7 - 1)) = 0) → ((ab_b ((0 : Int32) ≤ l1 ∧ l1 ≤ (2 : Int32))) = 0 → Q (some (.int (-7 : Int32))) M N) ∧ (¬ ((ab_b ((0 : Int32) ≤ l1 ∧ l1 ≤ (2 : Int32))) = 0) → ((ab_b ((0 : Int32) ≤ l3 ∧ l3 ≤ (11 : Int32))) = 0 → Q (some (.int (-7 : Int32))) M N) ∧ (¬ ((ab_b ((0 : Int32) ≤ l3 ∧ l3 ≤ (11 : Int32))) = 0) → ((ab_b ((0 : Int32) ≤ l4 ∧ l4 ≤ (12 : Int32))) = 0 → Q (some (.int (-7 : Int32))) M N) ∧ (¬ ((ab_b ((0 : Int32) ≤ l4 ∧ l4 ≤ (12 : Int32))) = 0) → ((ab_b ((0 : Int32) ≤ l5 ∧ l5 ≤ (3 : Int32))) = 0 → Q (some (.int (-7 : Int32))) M N) ∧ (¬ ((ab_b ((0 : Int32) ≤ l5 ∧ l5 ≤ (3 : Int32))) = 0) → zt_X12_says [.ref 0, .int l1, .int l2, .int l3, .int l4, .int l5] M N (fun r M2 N2 => zr_X12_asks Q 62 [none, none, none, none, none, none] (ab_ol r []) M2 N2))))))) : zr_X12_asks Q 0 [some (.ref 0), some (.int l1), some (.int l2), some (.int l3), some (.int l4), some (.int l5)] [] M N := ab_Run_s zm_X12_asks (sp := [(62, [false, false, false, false, false, false])]) 38 h
set_option maxRecDepth 20000 in
theorem zv_X12_asks_62 {Q : ab_R} {M : ab_M} {N : ab_N} (s0 : Int32) (h : Q (some (.int s0)) M N) : zr_X12_asks Q 62 [none, none, none, none, none, none] [.int s0] M N := ab_Run_s zm_X12_asks (sp := [(62, [false, false, false, false, false, false])]) 38 h
theorem zIxM {l : Int32} {n : Nat} (hn : n < 2 ^ 31) (h : 0 ≤ l ∧ l ≤ nI n) : ∃ k : Nat, k ≤ n ∧ l = nI k := by
  obtain ⟨k, hk, rfl⟩ := nI_ex h.1
  exact ⟨k, (nI_leI hk hn).mp h.2, rfl⟩
theorem zE_X12_asks (as : List Value) (M : ab_M) (N : ab_N) (k : ab_R) (hT : zt_X12_asks as M N k) : ab_cs as ≤ 6 ∧ zr_X12_asks k 0 (ab_en as) [] M N := by
  obtain ⟨⟨d, t, p, h, s, c⟩, q, rfl, ⟨rfl, hR⟩, hk⟩ := hT
  dsimp only at hR hk ⊢
  obtain ⟨n7, p8, -⟩ := zNI_n hR
  have hk := fun M2 (hF : zFr zSL M M2) => hk _ M2 N ⟨hF, rfl, rfl⟩
  unfold zAkA at hk
  refine ⟨Nat.le_of_ble_eq_true rfl, zv_X12_asks_0 _ _ _ _ _ ?_⟩
  rw [n7]
  refine ⟨fun c1 => ?_, fun c1 => ⟨fun c2 => ?_, fun c2 => ⟨fun c3 => ?_, fun c3 => ⟨fun c4 => ?_, fun c4 => ⟨fun c5 => ?_, fun c5 => ?_⟩⟩⟩⟩⟩
  · have hk := hk M (zFr_rf _ _)
    rw [if_neg (ab_b_0.mp c1)] at hk
    exact hk
  · have hk := hk M (zFr_rf _ _)
    rw [if_pos (zIx0 c1), if_neg (ab_b_0.mp c2)] at hk
    exact hk
  · have hk := hk M (zFr_rf _ _)
    rw [if_pos (zIx0 c1), if_pos (zIx0 c2), if_neg (ab_b_0.mp c3)] at hk
    exact hk
  · have hk := hk M (zFr_rf _ _)
    rw [if_pos (zIx0 c1), if_pos (zIx0 c2), if_pos (zIx0 c3), if_neg (ab_b_0.mp c4)] at hk
    exact hk
  · have hk := hk M (zFr_rf _ _)
    rw [if_pos (zIx0 c1), if_pos (zIx0 c2), if_pos (zIx0 c3), if_pos (zIx0 c4), if_neg (ab_b_0.mp c5)] at hk
    exact hk
  · have a1 := zIx0 c1
    have a2 := zIx0 c2
    have a3 := zIx0 c3
    have a4 := zIx0 c4
    have a5 := zIx0 c5
    obtain ⟨kp, y1, rfl⟩ := zIxN (by omega) a1
    obtain ⟨kt, y2, rfl⟩ := zIxM (n := 2) (by decide) a2
    obtain ⟨kh, y3, rfl⟩ := zIxM (n := 11) (by decide) a3
    obtain ⟨ks, y4, rfl⟩ := zIxM (n := 12) (by decide) a4
    obtain ⟨kc, y5, rfl⟩ := zIxM (n := 3) (by decide) a5
    rw [if_pos a1, if_pos a2, if_pos a3, if_pos a4, if_pos a5, nI_clamp (show kt < 2 ^ 31 by omega), nI_clamp (show kp < 2 ^ 31 by omega), nI_clamp (show kh < 2 ^ 31 by omega), nI_clamp (show ks < 2 ^ 31 by omega), nI_clamp (show kc < 2 ^ 31 by omega)] at hk
    refine ⟨(d, kt, kp, kh, ks, kc), _, rfl, ⟨rfl, hR, by dsimp only; omega, by dsimp only; omega, by dsimp only; omega, by dsimp only; omega⟩, ?_⟩
    rintro o M2 N2 ⟨rfl, g1, rfl⟩
    exact zv_X12_asks_62 _ (hk M2 (zFr_mono g1 (by decide)))
abbrev zR_X12_asks : Room := { frames := 3, cells := 0, slots := 0, locals := 73 }
set_option maxRecDepth 20000 in
theorem zM_X12_asks (l : Launch) : ab_Met l zw_M vwCl zZ_M yX12_asks cX12_asks 6 (some .int) zR_X12_asks zt_X12_asks := ab_ofRun (G := zg_X12_asks) (P := zp_X12_asks) rfl zo_X12_asks (by decide +kernel) zl_cl zl_lamM zf_X12_ok ab_Tab_nil zc_X12_ok ab_Sta_nil (List.forall_mem_cons.mpr ⟨ab_callV zZ_M_ok (zM_X12_isPiece l) (ab_in 1208 (by decide +kernel) rfl) (ab_in 1205 (by decide +kernel) rfl) (ab_in 1207 (by decide +kernel) rfl) (ab_inS (List.mem_of_getElem? (i := 27) (by decide +kernel)) rfl) (ab_in 17 (by decide +kernel) rfl) (by unfold ab_yok; decide +kernel) ⟨rfl, rfl⟩ (by decide) zV_X12_isPiece, List.forall_mem_cons.mpr ⟨ab_callV zZ_M_ok (zM_X12_says l) (ab_in 1282 (by decide +kernel) rfl) (ab_in 1279 (by decide +kernel) rfl) (ab_in 1281 (by decide +kernel) rfl) (ab_inS (List.mem_of_getElem? (i := 37) (by decide +kernel)) rfl) (ab_in 17 (by decide +kernel) rfl) (by unfold ab_yok; decide +kernel) ⟨rfl, rfl⟩ (by decide) zV_X12_says, List.forall_mem_nil _⟩⟩) (List.forall_mem_cons.mpr ⟨ab_callS zZ_M_ok (zM_X12_in l) (ab_in 1200 (by decide +kernel) rfl) (ab_in 1198 (by decide +kernel) rfl) (ab_in 1199 (by decide +kernel) rfl) (ab_in 17 (by decide +kernel) rfl) (by unfold ab_yok; decide +kernel) ⟨rfl, rfl⟩ (by decide), List.forall_mem_nil _⟩) zE_X12_asks
def zCoA (M : ab_M) (l : Int32) : Int32 := if l = 0 then M 0 0 else if l = 1 then M 0 1 else if l = 2 then M 0 2 else if l = 3 then M 0 3 else if l = 4 then M 0 4 else if l = 5 then M 0 7 else if l = 6 then M 0 12 else if l = 7 then M 0 23 else if l = 8 then M 0 24 else if l = 9 then M 0 20 else -2
def zt_X12_count : ab_T := ab_lq (α := Int32) (fun x r _ _ => r = [.int x]) (fun x M N o M2 N2 => M2 = M ∧ N2 = N ∧ o = some (.int (zCoA M x)))
theorem zt_X12_count_mono : ab_mono zt_X12_count := ab_lq_mono _ _
theorem zV_X12_count : ab_recv zw_M vwCl RX12 zt_X12_count := ab_lq_v
def zp_X12_count : ab_P := [(0, .iload_n 1, 1, [1], []),
  (1, .tableswitch 105 0 9 #[55, 60, 65, 70, 75, 80, 85, 90, 95, 100], 56, [106, 56, 61, 66, 71, 76, 81, 86, 91, 96, 101], [0, 1, 2, 3, 4, 5, 6, 7, 8, 9]),
  (56, .aload_n 0, 57, [0], []),
  (57, .getfield 7, 60, [], []),
  (60, .ireturn, 61, [], []),
  (61, .aload_n 0, 62, [0], []),
  (62, .getfield 13, 65, [], []),
  (65, .ireturn, 66, [], []),
  (66, .aload_n 0, 67, [0], []),
  (67, .getfield 190, 70, [], []),
  (70, .ireturn, 71, [], []),
  (71, .aload_n 0, 72, [0], []),
  (72, .getfield 16, 75, [], []),
  (75, .ireturn, 76, [], []),
  (76, .aload_n 0, 77, [0], []),
  (77, .getfield 19, 80, [], []),
  (80, .ireturn, 81, [], []),
  (81, .aload_n 0, 82, [0], []),
  (82, .getfield 172, 85, [], []),
  (85, .ireturn, 86, [], []),
  (86, .aload_n 0, 87, [0], []),
  (87, .getfield 179, 90, [], []),
  (90, .ireturn, 91, [], []),
  (91, .aload_n 0, 92, [0], []),
  (92, .getfield 68, 95, [], []),
  (95, .ireturn, 96, [], []),
  (96, .aload_n 0, 97, [0], []),
  (97, .getfield 193, 100, [], []),
  (100, .ireturn, 101, [], []),
  (101, .aload_n 0, 102, [0], []),
  (102, .getfield 196, 105, [], []),
  (105, .ireturn, 106, [], []),
  (106, .bipush (-2), 108, [], [(-2)]),
  (108, .ireturn, 109, [], [])]
theorem zo_X12_count : ab_ok cX12_count zp_X12_count = true := by decide +kernel
def zg_X12_count : ab_G := (zw_M, [], zf_X12, zc_X12, [], [], [])
theorem zm_X12_count : ab_MG zg_X12_count := ab_MGof (List.forall_mem_nil _) (List.forall_mem_nil _)
abbrev zr_X12_count (Q : ab_R) : ab_K := ab_Run zg_X12_count zp_X12_count (some .int) 2 Q
set_option maxRecDepth 20000 in
theorem zv_X12_count_0 {Q : ab_R} {M : ab_M} {N : ab_N} (l1 : Int32) (h : (l1 = 0 → Q (some (.int (M 0 0))) M N) ∧ (¬ l1 = 0 → (l1 = 1 → Q (some (.int (M 0 1))) M N) ∧ (¬ l1 = 1 → (l1 = 2 → Q (some (.int (M 0 2))) M N) ∧ (¬ l1 = 2 → (l1 = 3 → Q (some (.int (M 0 3))) M N) ∧ (¬ l1 = 3 → (l1 = 4 → Q (some (.int (M 0 4))) M N) ∧ (¬ l1 = 4 → (l1 = 5 → Q (some (.int (M 0 7))) M N) ∧ (¬ l1 = 5 → (l1 = 6 → Q (some (.int (M 0 12))) M N) ∧ (¬ l1 = 6 → (l1 = 7 → Q (some (.int (M 0 23))) M N) ∧ (¬ l1 = 7 → (l1 = 8 → Q (some (.int (M 0 24))) M N) ∧ (¬ l1 = 8 → (l1 = 9 → Q (some (.int (M 0 20))) M N) ∧ (¬ l1 = 9 → Q (some (.int (-2 : Int32))) M N))))))))))) : zr_X12_count Q 0 [some (.ref 0), some (.int l1)] [] M N := ab_Run_s zm_X12_count (sp := []) 36 h
theorem zE_X12_count (as : List Value) (M : ab_M) (N : ab_N) (k : ab_R) (hT : zt_X12_count as M N k) : ab_cs as ≤ 2 ∧ zr_X12_count k 0 (ab_en as) [] M N := by
  obtain ⟨l, q, rfl, rfl, hk⟩ := hT
  have hk := hk _ _ _ ⟨rfl, rfl, rfl⟩
  unfold zCoA at hk
  refine ⟨Nat.le_of_ble_eq_true rfl, zv_X12_count_0 _ ⟨fun c => ?_, fun c => ?_⟩⟩
  · rw [if_pos c] at hk; exact hk
  rw [if_neg c] at hk
  refine ⟨fun c => ?_, fun c => ?_⟩
  · rw [if_pos c] at hk; exact hk
  rw [if_neg c] at hk
  refine ⟨fun c => ?_, fun c => ?_⟩
  · rw [if_pos c] at hk; exact hk
  rw [if_neg c] at hk
  refine ⟨fun c => ?_, fun c => ?_⟩
  · rw [if_pos c] at hk; exact hk
  rw [if_neg c] at hk
  refine ⟨fun c => ?_, fun c => ?_⟩
  · rw [if_pos c] at hk; exact hk
  rw [if_neg c] at hk
  refine ⟨fun c => ?_, fun c => ?_⟩
  · rw [if_pos c] at hk; exact hk
  rw [if_neg c] at hk
  refine ⟨fun c => ?_, fun c => ?_⟩
  · rw [if_pos c] at hk; exact hk
  rw [if_neg c] at hk
  refine ⟨fun c => ?_, fun c => ?_⟩
  · rw [if_pos c] at hk; exact hk
  rw [if_neg c] at hk
  refine ⟨fun c => ?_, fun c => ?_⟩
  · rw [if_pos c] at hk; exact hk
  rw [if_neg c] at hk
  refine ⟨fun c => ?_, fun c => ?_⟩
  · rw [if_pos c] at hk; exact hk
  rw [if_neg c] at hk
  exact hk
abbrev zR_X12_count : Room := { frames := 0, cells := 0, slots := 0, locals := 0 }
set_option maxRecDepth 20000 in
theorem zM_X12_count (l : Launch) : ab_Met l zw_M vwCl zZ_M yX12_count cX12_count 2 (some .int) zR_X12_count zt_X12_count := ab_ofRun (G := zg_X12_count) (P := zp_X12_count) rfl zo_X12_count (by decide +kernel) zl_cl zl_lamM zf_X12_ok ab_Tab_nil zc_X12_ok ab_Sta_nil (List.forall_mem_nil _) (List.forall_mem_nil _) zE_X12_count
