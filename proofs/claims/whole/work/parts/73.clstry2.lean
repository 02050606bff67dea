/-! the class: spare, quick, village, callWhen *)
-/
theorem zFo_t {g : Nat → Int64} {nm : Nat → Int32} {s : Int32 × Int64} {n : Nat} : zFo g nm (fun _ => true) s (n + 1) = zOf (zFo g nm (fun _ => true) s n) (nm n) (g n) := if_pos rfl
def zBlD (d : ab_M) (a : Int32) : ab_M := ab_u d 6 (upd (d 6) 7 a)
def zSpS (d : ab_M) (n : Nat) : Int32 × Int64 := zFo (fun m => zAll (zBlD d (nI m))) nI (fun _ => true) (-1, 1000000000000000000) n
def zt_X11_spare : ab_T := ab_m0 0 (fun M _ => zNight M ∧ zT6 M) (fun M N o M2 N2 => zFr (6 :: zQc) M M2 ∧ zAsks M2 ∧ zT6 M2 ∧ o = some (.int (zSpS M (zMen M)).1))
theorem zt_X11_spare_mono : ab_mono zt_X11_spare := ab_m0_mono _ _ _
theorem zV_X11_spare : ab_recv zw_C vwCl RX11 zt_X11_spare := ab_m0_v rfl rfl
def zp_X11_spare : ab_P := [(0, .aload_n 0, 1, [0], []),
  (1, .getfield 90, 4, [], []),
  (4, .ldc2_w 259, 7, [], []),
  (7, .invokevirtual 231, 10, [], []),
  (10, .iconst 0, 11, [], [0]),
  (11, .istore_n 1, 12, [1], []),
  (12, .iload_n 1, 13, [1], []),
  (13, .aload_n 0, 14, [0], []),
  (14, .getfield 19, 17, [], []),
  (17, .getfield 156, 20, [], []),
  (20, .if_icmp .ge 29, 23, [49], []),
  (23, .aload_n 0, 24, [0], []),
  (24, .getfield 53, 27, [], []),
  (27, .iload_n 1, 28, [1], []),
  (28, .putfield 275, 31, [], []),
  (31, .aload_n 0, 32, [0], []),
  (32, .getfield 90, 35, [], []),
  (35, .iload_n 1, 36, [1], []),
  (36, .aload_n 0, 37, [0], []),
  (37, .invokevirtual 242, 40, [], []),
  (40, .invokevirtual 235, 43, [], []),
  (43, .iinc 1 1, 46, [], [1]),
  (46, .goto (-34), 49, [12], []),
  (49, .aload_n 0, 50, [0], []),
  (50, .getfield 53, 53, [], []),
  (53, .iconst (-1), 54, [], [(-1)]),
  (54, .putfield 275, 57, [], []),
  (57, .aload_n 0, 58, [0], []),
  (58, .getfield 90, 61, [], []),
  (61, .getfield 239, 64, [], []),
  (64, .ireturn, 65, [], [])]
theorem zo_X11_spare : ab_ok cX11_spare zp_X11_spare = true := by decide +kernel
def zg_X11_spare : ab_G := (zw_C, zs_tab, zf_X11, zc_X11, [(144, 50), (147, 51)], [(231, 2, zt_X0_begin), (235, 3, zt_X0_offer), (242, 1, zt_X11_allHarm)], [])
theorem zm_X11_spare : ab_MG zg_X11_spare := ab_MGof (List.forall_mem_cons.mpr ⟨zt_X0_begin_mono, List.forall_mem_cons.mpr ⟨zt_X0_offer_mono, List.forall_mem_cons.mpr ⟨zt_X11_allHarm_mono, List.forall_mem_nil _⟩⟩⟩) (List.forall_mem_nil _)
abbrev zr_X11_spare (Q : ab_R) : ab_K := ab_Run zg_X11_spare zp_X11_spare (some .int) 2 Q
set_option maxRecDepth 20000 in
theorem zv_X11_spare_0 {Q : ab_R} {M : ab_M} {N : ab_N}  (h : zt_X0_begin [.ref 11, .long (1000000000000000000 : Int64)] M N (fun r M2 N2 => zr_X11_spare Q 10 [some (.ref 0), none] (ab_ol r []) M2 N2)) : zr_X11_spare Q 0 [some (.ref 0)] [] M N := ab_Run_s zm_X11_spare (sp := [(10, [true, false]), (12, [true, true]), (40, [true, true]), (43, [true, true])]) 33 h
set_option maxRecDepth 20000 in
theorem zv_X11_spare_10 {Q : ab_R} {M : ab_M} {N : ab_N}  (h : zr_X11_spare Q 12 [some (.ref 0), some (.int (0 : Int32))] [] M N) : zr_X11_spare Q 10 [some (.ref 0), none] [] M N := ab_Run_s zm_X11_spare (sp := [(10, [true, false]), (12, [true, true]), (40, [true, true]), (43, [true, true])]) 33 h
set_option maxRecDepth 20000 in
theorem zv_X11_spare_12 {Q : ab_R} {M : ab_M} {N : ab_N} (l1 : Int32) (h : ((M 2 6) ≤ l1 → let z1 : Nat → Int32 := upd (M 6) 7 (-1 : Int32); Q (some (.int (M 11 0))) (ab_u M 6 z1) N) ∧ (¬ ((M 2 6) ≤ l1) → let z2 : Nat → Int32 := upd (M 6) 7 l1; zt_X11_allHarm [.ref 0] (ab_u M 6 z2) N (fun r M2 N2 => zr_X11_spare Q 40 [some (.ref 0), some (.int l1)] (ab_ol r [.int l1, .ref 11]) M2 N2))) : zr_X11_spare Q 12 [some (.ref 0), some (.int l1)] [] M N := ab_Run_s zm_X11_spare (sp := [(10, [true, false]), (12, [true, true]), (40, [true, true]), (43, [true, true])]) 33 h
set_option maxRecDepth 20000 in
theorem zv_X11_spare_40 {Q : ab_R} {M : ab_M} {N : ab_N} (l1 : Int32) (s1 : Int32) (s2 : Int64) (h : zt_X0_offer [.ref 11, .int s1, .long s2] M N (fun r M2 N2 => zr_X11_spare Q 43 [some (.ref 0), some (.int l1)] (ab_ol r []) M2 N2)) : zr_X11_spare Q 40 [some (.ref 0), some (.int l1)] [.long s2, .int s1, .ref 11] M N := ab_Run_s zm_X11_spare (sp := [(10, [true, false]), (12, [true, true]), (40, [true, true]), (43, [true, true])]) 33 h
set_option maxRecDepth 20000 in
theorem zv_X11_spare_43 {Q : ab_R} {M : ab_M} {N : ab_N} (l1 : Int32) (h : zr_X11_spare Q 12 [some (.ref 0), some (.int (l1 + (1 : Int32)))] [] M N) : zr_X11_spare Q 43 [some (.ref 0), some (.int l1)] [] M N := ab_Run_s zm_X11_spare (sp := [(10, [true, false]), (12, [true, true]), (40, [true, true]), (43, [true, true])]) 33 h
theorem zL_X11_spare {Q : ab_R} {d : ab_M} (hN : zNight d) (h6 : zT6 d) (hk : ∀ M N, zFr (6 :: zQc) d M → zAsks M → zT6 M → Q (some (.int (zSpS d (zMen d)).1)) M N) : ∀ (r m : Nat) (M : ab_M) (N : ab_N) (x : Int32), m + r = zMen d → zFr (6 :: zQc) d M → zAsks M → M 6 = upd (d 6) 7 x → zBst M N (zSpS d m) → zr_X11_spare Q 12 [some (.ref 0), some (.int (nI m))] [] M N := by
  obtain ⟨n7, p8, n12, m5, n0, h12, -⟩ := zCn hN
  intro r
  induction r with
  | zero =>
    intro m M N x hr hF hA e6 hb
    have e : m = zMen d := by omega
    subst e
    have n12 : M 2 6 = nI (zMen d) := by rw [hF 2 (by decide)]; exact n12
    refine zv_X11_spare_12 _ ⟨fun _ => ?_, fun c => absurd (by rw [n12]; exact nI_le (Nat.le_refl _) (by omega)) c⟩
    intro z1
    rw [hb.1]
    refine hk _ _ (zFr_u hF (by decide) _) (zAsks_u hA _ (by decide)) ⟨?_, ?_, ?_⟩
    · rw [ab_u_eq]; exact upd_eq _ _ _
    · rw [ab_u_eq]
      show upd (M 6) 7 (-1) 8 = -1
      rw [upd_ne _ _ (by decide), e6, upd_ne _ _ (by decide)]; exact h6.2.1
    · rw [ab_u_eq]
      show upd (M 6) 7 (-1) 11 = -1
      rw [upd_ne _ _ (by decide), e6, upd_ne _ _ (by decide)]; exact h6.2.2
  | succ r ih =>
    intro m M N x hr hF hA e6 hb
    have n12 : M 2 6 = nI (zMen d) := by rw [hF 2 (by decide)]; exact n12
    refine zv_X11_spare_12 _ ⟨fun c => absurd (by rw [← n12]; exact c) (nI_ge (a := m) (b := zMen d) (by omega) (by omega)), fun _ => ?_⟩
    intro z2
    have ez : z2 = upd (d 6) 7 (nI m) := by simp only [z2]; rw [e6, upd_upd]
    clear_value z2
    subst ez
    refine zAHC (d := zBlD d (nI m)) (s := zSpS d m) (zI0_6 hN.2.1 _ (by decide)) (zI1_6 hN.2.2 _ (upd_ne _ _ (by decide)) (upd_ne _ _ (by decide))) (zFr_same hF _) (zAsks_u hA _ (by decide)) ⟨by rw [ab_u_ne _ _ (by decide)]; exact hb.1, hb.2⟩ (fun M2 N2 f1 f2 f3 => ?_)
    refine zv_X11_spare_40 _ _ _ (zOfC f3 (fun M3 N3 f4 f5 => zv_X11_spare_43 _ ?_))
    rw [nI_1]
    refine ih (m + 1) M3 N3 (nI m) (by omega) (zFr_tr (zFr_tr (zFr_u hF (by decide) _) (zFr_mono f1 (by decide))) (zFr_mono f4 (by decide))) (zAsks_11 f2 f4) (by rw [f4 6 (by decide), f1 6 (by decide), ab_u_eq]) ?_
    unfold zSpS
    rw [zFo_t]
    exact f5
theorem zE_X11_spare (as : List Value) (M : ab_M) (N : ab_N) (k : ab_R) (hT : zt_X11_spare as M N k) : ab_cs as ≤ 2 ∧ zr_X11_spare k 0 (ab_en as) [] M N := by
  obtain ⟨rfl, ⟨hN, h6⟩, hk⟩ := ab_m0_e hT
  refine ⟨Nat.le_of_ble_eq_true rfl, zv_X11_spare_0 (zBgC (fun M2 N2 f1 f2 => zv_X11_spare_10 ?_))⟩
  exact zL_X11_spare hN h6 (fun M3 N3 a b c => hk _ _ _ ⟨a, b, c, rfl⟩) (zMen M) 0 M2 N2 (M 6 7) (by omega) (zFr_mono f1 (by decide)) (zAsks_11 hN.1 f1) (by rw [f1 6 (by decide), upd_same]) f2
abbrev zR_X11_spare : Room := { frames := 7, cells := 0, slots := 0, locals := 178 }
set_option maxRecDepth 20000 in
theorem zM_X11_spare (l : Launch) : ab_Met l zw_C vwCl zZ_C yX11_spare cX11_spare 2 (some .int) zR_X11_spare zt_X11_spare := ab_ofRun (G := zg_X11_spare) (P := zp_X11_spare) rfl zo_X11_spare (by decide +kernel) zl_cl zl_lamC zf_X11_ok zs_tabOK zc_X11_ok zs_X11_ok (List.forall_mem_cons.mpr ⟨ab_callV zZ_C_ok (zM_X0_begin l) (ab_in 783 (by decide +kernel) rfl) (ab_in 780 (by decide +kernel) rfl) (ab_in 781 (by decide +kernel) rfl) (ab_in 782 (by decide +kernel) rfl) (ab_in 12 (by decide +kernel) rfl) (by unfold ab_yok; decide +kernel) ⟨rfl, rfl⟩ (by decide) zV_X0_begin, List.forall_mem_cons.mpr ⟨ab_callV zZ_C_ok (zM_X0_offer l) (ab_in 787 (by decide +kernel) rfl) (ab_in 784 (by decide +kernel) rfl) (ab_in 785 (by decide +kernel) rfl) (ab_in 786 (by decide +kernel) rfl) (ab_in 12 (by decide +kernel) rfl) (by unfold ab_yok; decide +kernel) ⟨rfl, rfl⟩ (by decide) zV_X0_offer, List.forall_mem_cons.mpr ⟨ab_callV zZ_C_ok (zM_X11_allHarm l) (ab_in 795 (by decide +kernel) rfl) (ab_in 792 (by decide +kernel) rfl) (ab_in 794 (by decide +kernel) rfl) (ab_inS (List.mem_of_getElem? (i := 21) (by decide +kernel)) rfl) (ab_in 1 (by decide +kernel) rfl) (by unfold ab_yok; decide +kernel) ⟨rfl, rfl⟩ (by decide) zV_X11_allHarm, List.forall_mem_nil _⟩⟩⟩) (List.forall_mem_nil _) zE_X11_spare
def zPaD (d : ab_M) (m : Nat) (v : Int32) : ab_M := ab_u d 28 (upd (d 28) m v)
def zQkS (d : ab_M) (m n : Nat) : Int32 × Int64 := zFo (fun v => zAll (zPaD d m (nI (v + 1)))) (fun v => nI (v + 1)) (fun _ => true) (-1, 1000000000000000000) n
def zQkA (d : ab_M) (l : Int32) : Int32 := if zHasN l (zMen d) then (zQkS d l.toNatClampNeg 3).1 else -5
theorem zI1_28 {d : ab_M} (h : zI1 d) {m : Nat} {v : Int32} (hv : 1 ≤ v ∧ v ≤ 3) : zI1 (zPaD d m v) := by
  have e : ∀ c, c ≠ 28 → zPaD d m v c = d c := fun c hc => ab_u_ne _ _ hc
  have e28 : zPaD d m v 28 = upd (d 28) m v := ab_u_eq _ _ _
  unfold zI1 zMen at h ⊢
  rw [e 1 (by decide), e 2 (by decide), e 6 (by decide), e 25 (by decide), e 26 (by decide), e 27 (by decide), e 29 (by decide), e28]
  intro q hq
  obtain ⟨a1, a2, a3, a4, a5, a6⟩ := h q hq
  refine ⟨a1, a2, a3, ?_, a5, a6⟩
  by_cases c : q = m
  · rw [c, upd_eq]; exact hv
  · rw [upd_ne _ _ c]; exact a4
def zt_X11_quick : ab_T := ab_m1 0 (fun _ M _ => zNight M) (fun x M N o M2 N2 => zFr zQc M M2 ∧ zAsks M2 ∧ o = some (.int (zQkA M x)))
theorem zt_X11_quick_mono : ab_mono zt_X11_quick := ab_m1_mono _ _ _
theorem zV_X11_quick : ab_recv zw_C vwCl RX11 zt_X11_quick := ab_m1_v rfl rfl
def zp_X11_quick : ab_P := [(0, .aload_n 0, 1, [0], []),
  (1, .getfield 19, 4, [], []),
  (4, .iload_n 1, 5, [1], []),
  (5, .invokevirtual 179, 8, [], []),
  (8, .ifCond .ne 6, 11, [14], []),
  (11, .bipush (-5), 13, [], [(-5)]),
  (13, .ireturn, 14, [], []),
  (14, .aload_n 0, 15, [0], []),
  (15, .getfield 19, 18, [], []),
  (18, .getfield 180, 21, [], []),
  (21, .iload_n 1, 22, [1], []),
  (22, .iaload, 23, [], []),
  (23, .istore_n 2, 24, [2], []),
  (24, .aload_n 0, 25, [0], []),
  (25, .getfield 90, 28, [], []),
  (28, .ldc2_w 259, 31, [], []),
  (31, .invokevirtual 231, 34, [], []),
  (34, .iconst 1, 35, [], [1]),
  (35, .istore_n 3, 36, [3], []),
  (36, .iload_n 3, 37, [3], []),
  (37, .iconst 3, 38, [], [3]),
  (38, .if_icmp .gt 31, 41, [69], []),
  (41, .aload_n 0, 42, [0], []),
  (42, .getfield 19, 45, [], []),
  (45, .getfield 180, 48, [], []),
  (48, .iload_n 1, 49, [1], []),
  (49, .iload_n 3, 50, [3], []),
  (50, .iastore, 51, [], []),
  (51, .aload_n 0, 52, [0], []),
  (52, .getfield 90, 55, [], []),
  (55, .iload_n 3, 56, [3], []),
  (56, .aload_n 0, 57, [0], []),
  (57, .invokevirtual 242, 60, [], []),
  (60, .invokevirtual 235, 63, [], []),
  (63, .iinc 3 1, 66, [], [1]),
  (66, .goto (-30), 69, [36], []),
  (69, .aload_n 0, 70, [0], []),
  (70, .getfield 19, 73, [], []),
  (73, .getfield 180, 76, [], []),
  (76, .iload_n 1, 77, [1], []),
  (77, .iload_n 2, 78, [2], []),
  (78, .iastore, 79, [], []),
  (79, .aload_n 0, 80, [0], []),
  (80, .getfield 90, 83, [], []),
  (83, .getfield 239, 86, [], []),
  (86, .ireturn, 87, [], [])]
theorem zo_X11_quick : ab_ok cX11_quick zp_X11_quick = true := by decide +kernel
def zg_X11_quick : ab_G := (zw_C, zs_tab, zf_X11, zc_X11, [(144, 50), (147, 51)], [(179, 2, zt_X5_has), (231, 2, zt_X0_begin), (235, 3, zt_X0_offer), (242, 1, zt_X11_allHarm)], [])
theorem zm_X11_quick : ab_MG zg_X11_quick := ab_MGof (List.forall_mem_cons.mpr ⟨ab_pure_mono _, List.forall_mem_cons.mpr ⟨zt_X0_begin_mono, List.forall_mem_cons.mpr ⟨zt_X0_offer_mono, List.forall_mem_cons.mpr ⟨zt_X11_allHarm_mono, List.forall_mem_nil _⟩⟩⟩⟩) (List.forall_mem_nil _)
abbrev zr_X11_quick (Q : ab_R) : ab_K := ab_Run zg_X11_quick zp_X11_quick (some .int) 4 Q
set_option maxRecDepth 20000 in
theorem zv_X11_quick_0 {Q : ab_R} {M : ab_M} {N : ab_N} (l1 : Int32) (h : ((ab_b (0 ≤ l1 ∧ l1 < (M 2) 6 ∧ l1 < 5)) = 0 → Q (some (.int (-5 : Int32))) M N) ∧ (¬ ((ab_b (0 ≤ l1 ∧ l1 < (M 2) 6 ∧ l1 < 5)) = 0) → vp_in l1 5 ∧ (zt_X0_begin [.ref 11, .long (1000000000000000000 : Int64)] M N (fun r M2 N2 => zr_X11_quick Q 34 [some (.ref 0), some (.int l1), some (.int (M 28 l1.toNatClampNeg)), none] (ab_ol r []) M2 N2)))) : zr_X11_quick Q 0 [some (.ref 0), some (.int l1)] [] M N := ab_Run_s zm_X11_quick (sp := [(34, [true, true, true, false]), (36, [true, true, true, true]), (60, [true, true, true, true]), (63, [true, true, true, true])]) 48 h
set_option maxRecDepth 20000 in
theorem zv_X11_quick_34 {Q : ab_R} {M : ab_M} {N : ab_N} (l1 : Int32) (l2 : Int32) (h : zr_X11_quick Q 36 [some (.ref 0), some (.int l1), some (.int l2), some (.int (1 : Int32))] [] M N) : zr_X11_quick Q 34 [some (.ref 0), some (.int l1), some (.int l2), none] [] M N := ab_Run_s zm_X11_quick (sp := [(34, [true, true, true, false]), (36, [true, true, true, true]), (60, [true, true, true, true]), (63, [true, true, true, true])]) 48 h
set_option maxRecDepth 20000 in
theorem zv_X11_quick_36 {Q : ab_R} {M : ab_M} {N : ab_N} (l1 : Int32) (l2 : Int32) (l3 : Int32) (h : ((3 : Int32) < l3 → vp_in l1 5 ∧ (let z1 : Nat → Int32 := upd (M 28) l1.toNatClampNeg l2; Q (some (.int (M 11 0))) (ab_u M 28 z1) N)) ∧ (¬ ((3 : Int32) < l3) → vp_in l1 5 ∧ (let z2 : Nat → Int32 := upd (M 28) l1.toNatClampNeg l3; zt_X11_allHarm [.ref 0] (ab_u M 28 z2) N (fun r M2 N2 => zr_X11_quick Q 60 [some (.ref 0), some (.int l1), some (.int l2), some (.int l3)] (ab_ol r [.int l3, .ref 11]) M2 N2)))) : zr_X11_quick Q 36 [some (.ref 0), some (.int l1), some (.int l2), some (.int l3)] [] M N := ab_Run_s zm_X11_quick (sp := [(34, [true, true, true, false]), (36, [true, true, true, true]), (60, [true, true, true, true]), (63, [true, true, true, true])]) 48 h
set_option maxRecDepth 20000 in
theorem zv_X11_quick_60 {Q : ab_R} {M : ab_M} {N : ab_N} (l1 : Int32) (l2 : Int32) (l3 : Int32) (s1 : Int32) (s2 : Int64) (h : zt_X0_offer [.ref 11, .int s1, .long s2] M N (fun r M2 N2 => zr_X11_quick Q 63 [some (.ref 0), some (.int l1), some (.int l2), some (.int l3)] (ab_ol r []) M2 N2)) : zr_X11_quick Q 60 [some (.ref 0), some (.int l1), some (.int l2), some (.int l3)] [.long s2, .int s1, .ref 11] M N := ab_Run_s zm_X11_quick (sp := [(34, [true, true, true, false]), (36, [true, true, true, true]), (60, [true, true, true, true]), (63, [true, true, true, true])]) 48 h
set_option maxRecDepth 20000 in
theorem zv_X11_quick_63 {Q : ab_R} {M : ab_M} {N : ab_N} (l1 : Int32) (l2 : Int32) (l3 : Int32) (h : zr_X11_quick Q 36 [some (.ref 0), some (.int l1), some (.int l2), some (.int (l3 + (1 : Int32)))] [] M N) : zr_X11_quick Q 63 [some (.ref 0), some (.int l1), some (.int l2), some (.int l3)] [] M N := ab_Run_s zm_X11_quick (sp := [(34, [true, true, true, false]), (36, [true, true, true, true]), (60, [true, true, true, true]), (63, [true, true, true, true])]) 48 h
theorem zL_X11_quick {Q : ab_R} {d : ab_M} {m : Nat} (hN : zNight d) (hm : m < zMen d) (hk : ∀ M N, zFr zQc d M → zAsks M → Q (some (.int (zQkS d m 3).1)) M N) : ∀ (r v : Nat) (M : ab_M) (N : ab_N) (x : Int32), v + r = 3 → zFr (28 :: zQc) d M → zAsks M → M 28 = upd (d 28) m x → zBst M N (zQkS d m v) → zr_X11_quick Q 36 [some (.ref 0), some (.int (nI m)), some (.int (d 28 m)), some (.int (nI (v + 1)))] [] M N := by
  obtain ⟨n7, p8, n12, m5, n0, h12, -⟩ := zCn hN
  have hin : vp_in (nI m) 5 := nI_in_ (by omega)
  have cm : (nI m).toNatClampNeg = m := nI_clamp (by omega)
  intro r
  induction r with
  | zero =>
    intro v M N x hr hF hA e28 hb
    have e : v = 3 := by omega
    subst e
    refine zv_X11_quick_36 _ _ _ ?_
    rw [cm]
    refine ⟨fun _ => ⟨hin, ?_⟩, fun c => absurd (by decide) c⟩
    intro z1
    rw [hb.1]
    have ez : z1 = d 28 := by simp only [z1]; rw [e28, upd_upd, upd_same]
    exact hk _ _ (zFr_back hF ez) (zAsks_u hA _ (by decide))
  | succ r ih =>
    intro v M N x hr hF hA e28 hb
    refine zv_X11_quick_36 _ _ _ ?_
    rw [cm]
    refine ⟨fun c => absurd (show nI 3 < nI (v + 1) from c) (nI_nlt (by omega) (by omega)), fun _ => ⟨hin, ?_⟩⟩
    intro z2
    have ez : z2 = upd (d 28) m (nI (v + 1)) := by simp only [z2]; rw [e28, upd_upd]
    clear_value z2
    subst ez
    have v1 : 1 ≤ nI (v + 1) ∧ nI (v + 1) ≤ 3 := ⟨nI_le (a := 1) (by omega) (by omega), nI_le (b := 3) (by omega) (by decide)⟩
    refine zAHC (d := zPaD d m (nI (v + 1))) (s := zQkS d m v) (zI0_6 hN.2.1 _ (by decide)) (zI1_28 hN.2.2 v1) (zFr_same hF _) (zAsks_u hA _ (by decide)) ⟨by rw [ab_u_ne _ _ (by decide)]; exact hb.1, hb.2⟩ (fun M2 N2 f1 f2 f3 => ?_)
    refine zv_X11_quick_60 _ _ _ _ _ (zOfC f3 (fun M3 N3 f4 f5 => zv_X11_quick_63 _ _ _ ?_))
    rw [nI_1]
    refine ih (v + 1) M3 N3 (nI (v + 1)) (by omega) (zFr_tr (zFr_tr (zFr_u hF (by decide) _) (zFr_mono f1 (by decide))) (zFr_mono f4 (by decide))) (zAsks_11 f2 f4) (by rw [f4 28 (by decide), f1 28 (by decide), ab_u_eq]) ?_
    unfold zQkS
    rw [zFo_t]
    exact f5
theorem zE_X11_quick (as : List Value) (M : ab_M) (N : ab_N) (k : ab_R) (hT : zt_X11_quick as M N k) : ab_cs as ≤ 4 ∧ zr_X11_quick k 0 (ab_en as) [] M N := by
  obtain ⟨l, rfl, hN, hk⟩ := ab_m1_e hT
  obtain ⟨n7, p8, n12, m5, n0, h12, -⟩ := zCn hN
  have hk := fun M2 N2 (hF : zFr zQc M M2) (hA : zAsks M2) => hk _ M2 N2 ⟨hF, hA, rfl⟩
  unfold zQkA at hk
  refine ⟨Nat.le_of_ble_eq_true rfl, zv_X11_quick_0 _ ?_⟩
  rw [n12]
  refine ⟨fun c => ?_, fun c => ?_⟩
  · have hk := hk M N (zFr_rf _ _) hN.1
    rw [if_neg (zIcn m5 rfl (by decide) c)] at hk
    exact hk
  · have a1 := zIcp m5 rfl (by decide) c
    rw [if_pos a1] at hk
    obtain ⟨km, y1, rfl⟩ := zIxN (by omega) a1
    have cm : (nI km).toNatClampNeg = km := nI_clamp (by omega)
    rw [cm] at hk ⊢
    refine ⟨nI_in_ (by omega), zBgC (fun M2 N2 f1 f2 => zv_X11_quick_34 _ _ ?_)⟩
    exact zL_X11_quick hN y1 hk 3 0 M2 N2 (M 28 km) (by omega) (zFr_mono f1 (by decide)) (zAsks_11 hN.1 f1) (by rw [f1 28 (by decide), upd_same]) f2
abbrev zR_X11_quick : Room := { frames := 7, cells := 0, slots := 0, locals := 178 }
set_option maxRecDepth 20000 in
theorem zM_X11_quick (l : Launch) : ab_Met l zw_C vwCl zZ_C yX11_quick cX11_quick 4 (some .int) zR_X11_quick zt_X11_quick := ab_ofRun (G := zg_X11_quick) (P := zp_X11_quick) rfl zo_X11_quick (by decide +kernel) zl_cl zl_lamC zf_X11_ok zs_tabOK zc_X11_ok zs_X11_ok (List.forall_mem_cons.mpr ⟨ab_callV zZ_C_ok (zM_X5_has l) (ab_in 642 (by decide +kernel) rfl) (ab_in 639 (by decide +kernel) rfl) (ab_in 640 (by decide +kernel) rfl) (ab_in 641 (by decide +kernel) rfl) (ab_in 3 (by decide +kernel) rfl) (by unfold ab_yok; decide +kernel) ⟨rfl, rfl⟩ (by decide) zV_X5_has, List.forall_mem_cons.mpr ⟨ab_callV zZ_C_ok (zM_X0_begin l) (ab_in 783 (by decide +kernel) rfl) (ab_in 780 (by decide +kernel) rfl) (ab_in 781 (by decide +kernel) rfl) (ab_in 782 (by decide +kernel) rfl) (ab_in 12 (by decide +kernel) rfl) (by unfold ab_yok; decide +kernel) ⟨rfl, rfl⟩ (by decide) zV_X0_begin, List.forall_mem_cons.mpr ⟨ab_callV zZ_C_ok (zM_X0_offer l) (ab_in 787 (by decide +kernel) rfl) (ab_in 784 (by decide +kernel) rfl) (ab_in 785 (by decide +kernel) rfl) (ab_in 786 (by decide +kernel) rfl) (ab_in 12 (by decide +kernel) rfl) (by unfold ab_yok; decide +kernel) ⟨rfl, rfl⟩ (by decide) zV_X0_offer, List.forall_mem_cons.mpr ⟨ab_callV zZ_C_ok (zM_X11_allHarm l) (ab_in 795 (by decide +kernel) rfl) (ab_in 792 (by decide +kernel) rfl) (ab_in 794 (by decide +kernel) rfl) (ab_inS (List.mem_of_getElem? (i := 21) (by decide +kernel)) rfl) (ab_in 1 (by decide +kernel) rfl) (by unfold ab_yok; decide +kernel) ⟨rfl, rfl⟩ (by decide) zV_X11_allHarm, List.forall_mem_nil _⟩⟩⟩⟩) (List.forall_mem_nil _) zE_X11_quick
theorem zI0_cal {d : ab_M} (h : zI0 d) {a : Int32} (ha : -1 ≤ a ∧ a ≤ 11) : zI0 (zCalD d a) := by
  have e : ∀ c, c ≠ 1 → zCalD d a c = d c := fun c hc => ab_u_ne _ _ hc
  have e4 : zCalD d a 1 4 = d 1 4 := by unfold zCalD; rw [ab_u_eq, upd_ne _ _ (by decide)]
  have e7 : zCalD d a 1 7 = a := by unfold zCalD; rw [ab_u_eq, upd_eq]
  unfold zI0 at h ⊢
  rw [e 17 (by decide), e 2 (by decide), e4, e7]
  exact ⟨h.1, h.2.1, h.2.2.1, h.2.2.2.1, h.2.2.2.2.1, h.2.2.2.2.2.1, ha, h.2.2.2.2.2.2.2⟩
theorem zI1_cal {d : ab_M} (h : zI1 d) (a : Int32) : zI1 (zCalD d a) := by
  have e : ∀ c, c ≠ 1 → zCalD d a c = d c := fun c hc => ab_u_ne _ _ hc
  have e4 : zCalD d a 1 4 = d 1 4 := by unfold zCalD; rw [ab_u_eq, upd_ne _ _ (by decide)]
  unfold zI1 zMen at h ⊢
  rw [e 2 (by decide), e 6 (by decide), e 25 (by decide), e 26 (by decide), e 27 (by decide), e 28 (by decide), e 29 (by decide), e4]
  exact h
theorem zAll_cal (d : ab_M) (a : Int32) : zAll (zCalD d a) = zSum (zCalD d a) 0 (zPcs d) := by unfold zAll; rw [zCalD_p]
def zt_X11_village : ab_T := ab_m1 0 (fun _ M _ => zNight M) (fun x M N o M2 N2 => zFr zQc M M2 ∧ zAsks M2 ∧ o = some (.long (zViA M x)))
theorem zt_X11_village_mono : ab_mono zt_X11_village := ab_m1_mono _ _ _
theorem zV_X11_village : ab_recv zw_C vwCl RX11 zt_X11_village := ab_m1_v rfl rfl
def zp_X11_village : ab_P := [(0, .iload_n 1, 1, [1], []),
  (1, .iconst (-1), 2, [], [(-1)]),
  (2, .bipush 11, 4, [], [11]),
  (4, .invokestatic 117, 7, [], []),
  (7, .ifCond .ne 7, 10, [14], []),
  (10, .ldc2_w 218, 13, [], []),
  (13, .lreturn, 14, [], []),
  (14, .aload_n 0, 15, [0], []),
  (15, .getfield 10, 18, [], []),
  (18, .getfield 287, 21, [], []),
  (21, .istore_n 2, 22, [2], []),
  (22, .aload_n 0, 23, [0], []),
  (23, .getfield 10, 26, [], []),
  (26, .iload_n 1, 27, [1], []),
  (27, .putfield 287, 30, [], []),
  (30, .aload_n 0, 31, [0], []),
  (31, .invokevirtual 242, 34, [], []),
  (34, .lstore_n 3, 35, [3], []),
  (35, .aload_n 0, 36, [0], []),
  (36, .getfield 10, 39, [], []),
  (39, .iload_n 2, 40, [2], []),
  (40, .putfield 287, 43, [], []),
  (43, .lload_n 3, 44, [3], []),
  (44, .lreturn, 45, [], [])]
theorem zo_X11_village : ab_ok cX11_village zp_X11_village = true := by decide +kernel
def zg_X11_village : ab_G := (zw_C, zs_tab, zf_X11, zc_X11, [(144, 50), (147, 51)], [(242, 1, zt_X11_allHarm)], [(117, 3, zt_X11_within)])
theorem zm_X11_village : ab_MG zg_X11_village := ab_MGof (List.forall_mem_cons.mpr ⟨zt_X11_allHarm_mono, List.forall_mem_nil _⟩) (List.forall_mem_cons.mpr ⟨ab_pure_mono _, List.forall_mem_nil _⟩)
abbrev zr_X11_village (Q : ab_R) : ab_K := ab_Run zg_X11_village zp_X11_village (some .long) 5 Q
set_option maxRecDepth 20000 in
theorem zv_X11_village_0 {Q : ab_R} {M : ab_M} {N : ab_N} (l1 : Int32) (h : ((ab_b ((-1 : Int32) ≤ l1 ∧ l1 ≤ (11 : Int32))) = 0 → Q (some (.long (-4611686018427387904 : Int64))) M N) ∧ (¬ ((ab_b ((-1 : Int32) ≤ l1 ∧ l1 ≤ (11 : Int32))) = 0) → let z1 : Nat → Int32 := upd (M 1) 7 l1; zt_X11_allHarm [.ref 0] (ab_u M 1 z1) N (fun r M2 N2 => zr_X11_village Q 34 [some (.ref 0), none, some (.int (M 1 7)), none, none] (ab_ol r []) M2 N2))) : zr_X11_village Q 0 [some (.ref 0), some (.int l1)] [] M N := ab_Run_s zm_X11_village (sp := [(34, [true, false, true, false, false])]) 26 h
set_option maxRecDepth 20000 in
theorem zv_X11_village_34 {Q : ab_R} {M : ab_M} {N : ab_N} (l2 : Int32) (s0 : Int64) (h : let z1 : Nat → Int32 := upd (M 1) 7 l2; Q (some (.long s0)) (ab_u M 1 z1) N) : zr_X11_village Q 34 [some (.ref 0), none, some (.int l2), none, none] [.long s0] M N := ab_Run_s zm_X11_village (sp := [(34, [true, false, true, false, false])]) 26 h
theorem zE_X11_village (as : List Value) (M : ab_M) (N : ab_N) (k : ab_R) (hT : zt_X11_village as M N k) : ab_cs as ≤ 5 ∧ zr_X11_village k 0 (ab_en as) [] M N := by
  obtain ⟨l, rfl, hN, hk⟩ := ab_m1_e hT
  have hk := fun M2 N2 (hF : zFr zQc M M2) (hA : zAsks M2) => hk _ M2 N2 ⟨hF, hA, rfl⟩
  unfold zViA at hk
  refine ⟨Nat.le_of_ble_eq_true rfl, zv_X11_village_0 _ ⟨fun c => ?_, fun c => ?_⟩⟩
  · have hk := hk M N (zFr_rf _ _) hN.1
    rw [if_neg (ab_b_0.mp c)] at hk
    exact hk
  · have c := zIx0 c
    rw [if_pos c] at hk
    intro z1
    have hF : zFr (1 :: zQc) M M := zFr_rf _ _
    refine zAHC0 (d := zCalD M l) (zI0_cal hN.2.1 c) (zI1_cal hN.2.2 l) (zFr_same hF _) (zAsks_u hN.1 _ (by decide)) (fun M2 N2 f1 f2 => ?_)
    refine zv_X11_village_34 _ _ ?_
    intro z2
    have ez : z2 = M 1 := by simp only [z2]; rw [f1 1 (by decide), ab_u_eq]; simp only [z1]; rw [upd_upd, upd_same]
    rw [zAll_cal]
    exact hk _ _ (zFr_back (zFr_tr (zFr_u hF (by decide) _) (zFr_mono f1 (by decide))) ez) (zAsks_u f2 _ (by decide))
abbrev zR_X11_village : Room := { frames := 7, cells := 0, slots := 0, locals := 178 }
set_option maxRecDepth 20000 in
theorem zM_X11_village (l : Launch) : ab_Met l zw_C vwCl zZ_C yX11_village cX11_village 5 (some .long) zR_X11_village zt_X11_village := ab_ofRun (G := zg_X11_village) (P := zp_X11_village) rfl zo_X11_village (by decide +kernel) zl_cl zl_lamC zf_X11_ok zs_tabOK zc_X11_ok zs_X11_ok (List.forall_mem_cons.mpr ⟨ab_callV zZ_C_ok (zM_X11_allHarm l) (ab_in 795 (by decide +kernel) rfl) (ab_in 792 (by decide +kernel) rfl) (ab_in 794 (by decide +kernel) rfl) (ab_inS (List.mem_of_getElem? (i := 21) (by decide +kernel)) rfl) (ab_in 1 (by decide +kernel) rfl) (by unfold ab_yok; decide +kernel) ⟨rfl, rfl⟩ (by decide) zV_X11_allHarm, List.forall_mem_nil _⟩) (List.forall_mem_cons.mpr ⟨ab_callS zZ_C_ok (zM_X11_within l) (ab_in 538 (by decide +kernel) rfl) (ab_in 536 (by decide +kernel) rfl) (ab_in 537 (by decide +kernel) rfl) (ab_in 1 (by decide +kernel) rfl) (by unfold ab_yok; decide +kernel) ⟨rfl, rfl⟩ (by decide), List.forall_mem_nil _⟩) zE_X11_village
theorem zCw_s (d : ab_M) (l : Int32) (h : Nat) : zCw d l (h + 1) = zOf (zCw d l h) (nI h) (zCwX d l h) := (zOf_cmp _ _ _).symm
def zt_X11_callWhen : ab_T := ab_m1 0 (fun _ M _ => zNight M) (fun x M N o M2 N2 => zFr zQc M M2 ∧ zAsks M2 ∧ o = some (.int (if 0 ≤ x ∧ x ≤ 9999 then (zCw M x (zHrs M)).1 else -2)))
theorem zt_X11_callWhen_mono : ab_mono zt_X11_callWhen := ab_m1_mono _ _ _
theorem zV_X11_callWhen : ab_recv zw_C vwCl RX11 zt_X11_callWhen := ab_m1_v rfl rfl
def zp_X11_callWhen : ab_P := [(0, .iload_n 1, 1, [1], []),
  (1, .iconst 0, 2, [], [0]),
  (2, .sipush 9999, 5, [], [9999]),
  (5, .invokestatic 117, 8, [], []),
  (8, .ifCond .ne 6, 11, [14], []),
  (11, .bipush (-2), 13, [], [(-2)]),
  (13, .ireturn, 14, [], []),
  (14, .aload_n 0, 15, [0], []),
  (15, .getfield 10, 18, [], []),
  (18, .getfield 287, 21, [], []),
  (21, .istore_n 2, 22, [2], []),
  (22, .aload_n 0, 23, [0], []),
  (23, .getfield 10, 26, [], []),
  (26, .iconst (-1), 27, [], [(-1)]),
  (27, .putfield 287, 30, [], []),
  (30, .aload_n 0, 31, [0], []),
  (31, .getfield 90, 34, [], []),
  (34, .aload_n 0, 35, [0], []),
  (35, .invokevirtual 242, 38, [], []),
  (38, .invokevirtual 231, 41, [], []),
  (41, .iconst 0, 42, [], [0]),
  (42, .istore_n 3, 43, [3], []),
  (43, .iload_n 3, 44, [3], []),
  (44, .aload_n 0, 45, [0], []),
  (45, .getfield 10, 48, [], []),
  (48, .getfield 150, 51, [], []),
  (51, .iconst 0, 52, [], [0]),
  (52, .iaload, 53, [], []),
  (53, .if_icmp .ge 36, 56, [89], []),
  (56, .aload_n 0, 57, [0], []),
  (57, .getfield 10, 60, [], []),
  (60, .iload_n 3, 61, [3], []),
  (61, .putfield 287, 64, [], []),
  (64, .aload_n 0, 65, [0], []),
  (65, .getfield 90, 68, [], []),
  (68, .iload_n 3, 69, [3], []),
  (69, .aload_n 0, 70, [0], []),
  (70, .invokevirtual 242, 73, [], []),
  (73, .iload_n 1, 74, [1], []),
  (74, .i2l, 75, [], []),
  (75, .ldc2_w 290, 78, [], []),
  (78, .lmul, 79, [], []),
  (79, .ladd, 80, [], []),
  (80, .invokevirtual 235, 83, [], []),
  (83, .iinc 3 1, 86, [], [1]),
  (86, .goto (-43), 89, [43], []),
  (89, .aload_n 0, 90, [0], []),
  (90, .getfield 10, 93, [], []),
  (93, .iload_n 2, 94, [2], []),
  (94, .putfield 287, 97, [], []),
  (97, .aload_n 0, 98, [0], []),
  (98, .getfield 90, 101, [], []),
  (101, .getfield 239, 104, [], []),
  (104, .ireturn, 105, [], [])]
theorem zo_X11_callWhen : ab_ok cX11_callWhen zp_X11_callWhen = true := by decide +kernel
def zg_X11_callWhen : ab_G := (zw_C, zs_tab, zf_X11, zc_X11, [(144, 50), (147, 51)], [(231, 2, zt_X0_begin), (235, 3, zt_X0_offer), (242, 1, zt_X11_allHarm)], [(117, 3, zt_X11_within)])
theorem zm_X11_callWhen : ab_MG zg_X11_callWhen := ab_MGof (List.forall_mem_cons.mpr ⟨zt_X0_begin_mono, List.forall_mem_cons.mpr ⟨zt_X0_offer_mono, List.forall_mem_cons.mpr ⟨zt_X11_allHarm_mono, List.forall_mem_nil _⟩⟩⟩) (List.forall_mem_cons.mpr ⟨ab_pure_mono _, List.forall_mem_nil _⟩)
abbrev zr_X11_callWhen (Q : ab_R) : ab_K := ab_Run zg_X11_callWhen zp_X11_callWhen (some .int) 4 Q
set_option maxRecDepth 20000 in
theorem zv_X11_callWhen_0 {Q : ab_R} {M : ab_M} {N : ab_N} (l1 : Int32) (h : ((ab_b ((0 : Int32) ≤ l1 ∧ l1 ≤ (9999 : Int32))) = 0 → Q (some (.int (-2 : Int32))) M N) ∧ (¬ ((ab_b ((0 : Int32) ≤ l1 ∧ l1 ≤ (9999 : Int32))) = 0) → let z1 : Nat → Int32 := upd (M 1) 7 (-1 : Int32); zt_X11_allHarm [.ref 0] (ab_u M 1 z1) N (fun r M2 N2 => zr_X11_callWhen Q 38 [some (.ref 0), some (.int l1), some (.int (M 1 7)), none] (ab_ol r [.ref 11]) M2 N2))) : zr_X11_callWhen Q 0 [some (.ref 0), some (.int l1)] [] M N := ab_Run_s zm_X11_callWhen (sp := [(38, [true, true, true, false]), (41, [true, true, true, false]), (43, [true, true, true, true]), (73, [true, true, true, true]), (83, [true, true, true, true])]) 56 h
set_option maxRecDepth 20000 in
theorem zv_X11_callWhen_38 {Q : ab_R} {M : ab_M} {N : ab_N} (l1 : Int32) (l2 : Int32) (s1 : Int64) (h : zt_X0_begin [.ref 11, .long s1] M N (fun r M2 N2 => zr_X11_callWhen Q 41 [some (.ref 0), some (.int l1), some (.int l2), none] (ab_ol r []) M2 N2)) : zr_X11_callWhen Q 38 [some (.ref 0), some (.int l1), some (.int l2), none] [.long s1, .ref 11] M N := ab_Run_s zm_X11_callWhen (sp := [(38, [true, true, true, false]), (41, [true, true, true, false]), (43, [true, true, true, true]), (73, [true, true, true, true]), (83, [true, true, true, true])]) 56 h
set_option maxRecDepth 20000 in
theorem zv_X11_callWhen_41 {Q : ab_R} {M : ab_M} {N : ab_N} (l1 : Int32) (l2 : Int32) (h : zr_X11_callWhen Q 43 [some (.ref 0), some (.int l1), some (.int l2), some (.int (0 : Int32))] [] M N) : zr_X11_callWhen Q 41 [some (.ref 0), some (.int l1), some (.int l2), none] [] M N := ab_Run_s zm_X11_callWhen (sp := [(38, [true, true, true, false]), (41, [true, true, true, false]), (43, [true, true, true, true]), (73, [true, true, true, true]), (83, [true, true, true, true])]) 56 h
set_option maxRecDepth 20000 in
theorem zv_X11_callWhen_43 {Q : ab_R} {M : ab_M} {N : ab_N} (l1 : Int32) (l2 : Int32) (l3 : Int32) (h : vp_in (0 : Int32) 5 ∧ (((M 17 0) ≤ l3 → let z1 : Nat → Int32 := upd (M 1) 7 l2; Q (some (.int (M 11 0))) (ab_u M 1 z1) N) ∧ (¬ ((M 17 0) ≤ l3) → let z2 : Nat → Int32 := upd (M 1) 7 l3; zt_X11_allHarm [.ref 0] (ab_u M 1 z2) N (fun r M2 N2 => zr_X11_callWhen Q 73 [some (.ref 0), some (.int l1), some (.int l2), some (.int l3)] (ab_ol r [.int l3, .ref 11]) M2 N2)))) : zr_X11_callWhen Q 43 [some (.ref 0), some (.int l1), some (.int l2), some (.int l3)] [] M N := ab_Run_s zm_X11_callWhen (sp := [(38, [true, true, true, false]), (41, [true, true, true, false]), (43, [true, true, true, true]), (73, [true, true, true, true]), (83, [true, true, true, true])]) 56 h
set_option maxRecDepth 20000 in
theorem zv_X11_callWhen_73 {Q : ab_R} {M : ab_M} {N : ab_N} (l1 : Int32) (l2 : Int32) (l3 : Int32) (s1 : Int32) (s2 : Int64) (h : zt_X0_offer [.ref 11, .int s1, .long (s2 + ((l1.toInt64) * (1000000000 : Int64)))] M N (fun r M2 N2 => zr_X11_callWhen Q 83 [some (.ref 0), some (.int l1), some (.int l2), some (.int l3)] (ab_ol r []) M2 N2)) : zr_X11_callWhen Q 73 [some (.ref 0), some (.int l1), some (.int l2), some (.int l3)] [.long s2, .int s1, .ref 11] M N := ab_Run_s zm_X11_callWhen (sp := [(38, [true, true, true, false]), (41, [true, true, true, false]), (43, [true, true, true, true]), (73, [true, true, true, true]), (83, [true, true, true, true])]) 56 h
set_option maxRecDepth 20000 in
theorem zv_X11_callWhen_83 {Q : ab_R} {M : ab_M} {N : ab_N} (l1 : Int32) (l2 : Int32) (l3 : Int32) (h : zr_X11_callWhen Q 43 [some (.ref 0), some (.int l1), some (.int l2), some (.int (l3 + (1 : Int32)))] [] M N) : zr_X11_callWhen Q 83 [some (.ref 0), some (.int l1), some (.int l2), some (.int l3)] [] M N := ab_Run_s zm_X11_callWhen (sp := [(38, [true, true, true, false]), (41, [true, true, true, false]), (43, [true, true, true, true]), (73, [true, true, true, true]), (83, [true, true, true, true])]) 56 h
theorem zL_X11_callWhen {Q : ab_R} {d : ab_M} {l : Int32} (hN : zNight d) (hk : ∀ M N, zFr zQc d M → zAsks M → Q (some (.int (zCw d l (zHrs d)).1)) M N) : ∀ (r h : Nat) (M : ab_M) (N : ab_N) (x : Int32), h + r = zHrs d → zFr (1 :: zQc) d M → zAsks M → M 1 = upd (d 1) 7 x → zBst M N (zCw d l h) → zr_X11_callWhen Q 43 [some (.ref 0), some (.int l), some (.int (d 1 7)), some (.int (nI h))] [] M N := by
  obtain ⟨n7, p8, n12, m5, n0, h12, -⟩ := zCn hN
  intro r
  induction r with
  | zero =>
    intro h M N x hr hF hA e1 hb
    have e : h = zHrs d := by omega
    subst e
    have n0 : M 17 0 = nI (zHrs d) := by rw [hF 17 (by decide)]; exact n0
    refine zv_X11_callWhen_43 _ _ _ ⟨ab_vpk (by decide), fun _ => ?_, fun c => absurd (by rw [n0]; exact nI_le (Nat.le_refl _) (by omega)) c⟩
    intro z1
    rw [hb.1]
    have ez : z1 = d 1 := by simp only [z1]; rw [e1, upd_upd, upd_same]
    exact hk _ _ (zFr_back hF ez) (zAsks_u hA _ (by decide))
  | succ r ih =>
    intro h M N x hr hF hA e1 hb
    have n0 : M 17 0 = nI (zHrs d) := by rw [hF 17 (by decide)]; exact n0
    refine zv_X11_callWhen_43 _ _ _ ⟨ab_vpk (by decide), fun c => absurd (by rw [← n0]; exact c) (nI_ge (a := h) (b := zHrs d) (by omega) (by omega)), fun _ => ?_⟩
    intro z2
    have ez : z2 = upd (d 1) 7 (nI h) := by simp only [z2]; rw [e1, upd_upd]
    clear_value z2
    subst ez
    have ha : -1 ≤ nI h ∧ nI h ≤ 11 := ⟨Int32.le_trans (by decide) (nI_pos' (n := h) (by omega)), nI_le (b := 11) (by omega) (by decide)⟩
    refine zAHC (d := zCalD d (nI h)) (s := zCw d l h) (zI0_cal hN.2.1 ha) (zI1_cal hN.2.2 _) (zFr_same hF _) (zAsks_u hA _ (by decide)) ⟨by rw [ab_u_ne _ _ (by decide)]; exact hb.1, hb.2⟩ (fun M2 N2 f1 f2 f3 => ?_)
    refine zv_X11_callWhen_73 _ _ _ _ _ ?_
    have ex : zAll (zCalD d (nI h)) + l.toInt64 * 1000000000 = zCwX d l h := by unfold zCwX; rw [zAll_cal, Int64.mul_comm]
    rw [ex]
    refine zOfC f3 (fun M3 N3 f4 f5 => zv_X11_callWhen_83 _ _ _ ?_)
    rw [nI_1]
    refine ih (h + 1) M3 N3 (nI h) (by omega) (zFr_tr (zFr_tr (zFr_u hF (by decide) _) (zFr_mono f1 (by decide))) (zFr_mono f4 (by decide))) (zAsks_11 f2 f4) (by rw [f4 1 (by decide), f1 1 (by decide), ab_u_eq]) ?_
    rw [zCw_s]
    exact f5
theorem zE_X11_callWhen (as : List Value) (M : ab_M) (N : ab_N) (k : ab_R) (hT : zt_X11_callWhen as M N k) : ab_cs as ≤ 4 ∧ zr_X11_callWhen k 0 (ab_en as) [] M N := by
  obtain ⟨l, rfl, hN, hk⟩ := ab_m1_e hT
  have hk := fun M2 N2 (hF : zFr zQc M M2) (hA : zAsks M2) => hk _ M2 N2 ⟨hF, hA, rfl⟩
  refine ⟨Nat.le_of_ble_eq_true rfl, zv_X11_callWhen_0 _ ⟨fun c => ?_, fun c => ?_⟩⟩
  · have hk := hk M N (zFr_rf _ _) hN.1
    rw [if_neg (ab_b_0.mp c)] at hk
    exact hk
  · have c := zIx0 c
    rw [if_pos c] at hk
    intro z1
    have hF : zFr (1 :: zQc) M M := zFr_rf _ _
    refine zAHC0 (d := zCalD M (-1)) (zI0_cal hN.2.1 (by decide)) (zI1_cal hN.2.2 _) (zFr_same hF _) (zAsks_u hN.1 _ (by decide)) (fun M2 N2 f1 f2 => ?_)
    rw [zAll_cal]
    refine zv_X11_callWhen_38 _ _ _ (zBgC (fun M3 N3 f3 f4 => zv_X11_callWhen_41 _ _ ?_))
    exact zL_X11_callWhen hN hk (zHrs M) 0 M3 N3 (-1) (by omega) (zFr_tr (zFr_tr (zFr_u hF (by decide) _) (zFr_mono f1 (by decide))) (zFr_mono f3 (by decide))) (zAsks_11 f2 f3) (by rw [f3 1 (by decide), f1 1 (by decide), ab_u_eq]) f4
abbrev zR_X11_callWhen : Room := { frames := 7, cells := 0, slots := 0, locals := 178 }
set_option maxRecDepth 20000 in
theorem zM_X11_callWhen (l : Launch) : ab_Met l zw_C vwCl zZ_C yX11_callWhen cX11_callWhen 4 (some .int) zR_X11_callWhen zt_X11_callWhen := ab_ofRun (G := zg_X11_callWhen) (P := zp_X11_callWhen) rfl zo_X11_callWhen (by decide +kernel) zl_cl zl_lamC zf_X11_ok zs_tabOK zc_X11_ok zs_X11_ok (List.forall_mem_cons.mpr ⟨ab_callV zZ_C_ok (zM_X0_begin l) (ab_in 783 (by decide +kernel) rfl) (ab_in 780 (by decide +kernel) rfl) (ab_in 781 (by decide +kernel) rfl) (ab_in 782 (by decide +kernel) rfl) (ab_in 12 (by decide +kernel) rfl) (by unfold ab_yok; decide +kernel) ⟨rfl, rfl⟩ (by decide) zV_X0_begin, List.forall_mem_cons.mpr ⟨ab_callV zZ_C_ok (zM_X0_offer l) (ab_in 787 (by decide +kernel) rfl) (ab_in 784 (by decide +kernel) rfl) (ab_in 785 (by decide +kernel) rfl) (ab_in 786 (by decide +kernel) rfl) (ab_in 12 (by decide +kernel) rfl) (by unfold ab_yok; decide +kernel) ⟨rfl, rfl⟩ (by decide) zV_X0_offer, List.forall_mem_cons.mpr ⟨ab_callV zZ_C_ok (zM_X11_allHarm l) (ab_in 795 (by decide +kernel) rfl) (ab_in 792 (by decide +kernel) rfl) (ab_in 794 (by decide +kernel) rfl) (ab_inS (List.mem_of_getElem? (i := 21) (by decide +kernel)) rfl) (ab_in 1 (by decide +kernel) rfl) (by unfold ab_yok; decide +kernel) ⟨rfl, rfl⟩ (by decide) zV_X11_allHarm, List.forall_mem_nil _⟩⟩⟩) (List.forall_mem_cons.mpr ⟨ab_callS zZ_C_ok (zM_X11_within l) (ab_in 538 (by decide +kernel) rfl) (ab_in 536 (by decide +kernel) rfl) (ab_in 537 (by decide +kernel) rfl) (ab_in 1 (by decide +kernel) rfl) (by unfold ab_yok; decide +kernel) ⟨rfl, rfl⟩ (by decide), List.forall_mem_nil _⟩) zE_X11_callWhen
