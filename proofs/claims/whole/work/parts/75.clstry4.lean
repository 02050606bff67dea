/-! the class: ready, rounds *)
-/
def zLaD (d : ab_M) (p : Nat) (v : Int32) : ab_M := ab_u d 16 (upd (d 16) p v)
def zSaD (d : ab_M) (p : Nat) (v : Int32) : ab_M := ab_u d 15 (upd (d 15) p v)
def zRdL (d : ab_M) (n : Nat) : Int32 × Int64 := zFo (fun p => zAll (zLaD d p (d 16 p + 1))) nI (fun p => decide (¬ 1 ≤ d 16 p)) (-1, zAll d) n
def zRdK (d : ab_M) (n : Nat) : Int32 × Int64 := zFo (fun p => zAll (zSaD d p (d 15 p + 1))) nI (fun p => decide (¬ 3 ≤ d 15 p)) (-1, zAll d) n
def zRdA (d : ab_M) (w : Int32) : Int32 := if 0 ≤ w ∧ w ≤ 1 then (if w = 0 then (zRdL d (zPcs d)).1 else (zRdK d (zPcs d)).1) else -2
theorem zAsks_15 {M : ab_M} (h : zAsks M) {f : Nat → Int32} (hf : ∀ p, p < 8 → ∃ s : Nat, s ≤ 3 ∧ f p = nI s) : zAsks (ab_u M 15 f) := by
  have e : ∀ c, c ≠ 15 → ab_u M 15 f c = M c := fun c hc => ab_u_ne _ _ hc
  exact zAsks_k h (e 3 (by decide)) (by rw [e 5 (by decide)]) (e 13 (by decide)) (e 14 (by decide)) (by rw [ab_u_eq]; exact hf) (by rw [e 17 (by decide)]) (e 18 (by decide)) (e 31 (by decide)) (e 32 (by decide)) (e 36 (by decide))
theorem zSk_1 {d : ab_M} (h : ∀ p, p < 8 → ∃ s : Nat, s ≤ 3 ∧ d 15 p = nI s) {p : Nat} (hp : p < 8) (c : ¬ 3 ≤ d 15 p) : ∀ q, q < 8 → ∃ s : Nat, s ≤ 3 ∧ upd (d 15) p (d 15 p + 1) q = nI s := by
  intro q hq
  by_cases e : q = p
  · obtain ⟨s, s1, s2⟩ := h p hp
    rw [s2] at c
    have : ¬ 3 ≤ s := fun z => c (nI_le (a := 3) z (by omega))
    exact ⟨s + 1, by omega, by rw [e, upd_eq, s2, nI_1]⟩
  · rw [upd_ne _ _ e]
    exact h q hq
def zt_X11_ready : ab_T := ab_m1 0 (fun _ M _ => zNight M) (fun x M N o M2 N2 => zFr zQc M M2 ∧ zAsks M2 ∧ o = some (.int (zRdA M x)))
theorem zt_X11_ready_mono : ab_mono zt_X11_ready := ab_m1_mono _ _ _
theorem zV_X11_ready : ab_recv zw_C vwCl RX11 zt_X11_ready := ab_m1_v rfl rfl
def zp_X11_ready : ab_P := [(0, .iload_n 1, 1, [1], []),
  (1, .iconst 0, 2, [], [0]),
  (2, .iconst 1, 3, [], [1]),
  (3, .invokestatic 117, 6, [], []),
  (6, .ifCond .ne 6, 9, [12], []),
  (9, .bipush (-2), 11, [], [(-2)]),
  (11, .ireturn, 12, [], []),
  (12, .iload_n 1, 13, [1], []),
  (13, .ifCond .ne 13, 16, [26], []),
  (16, .aload_n 0, 17, [0], []),
  (17, .getfield 10, 20, [], []),
  (20, .getfield 256, 23, [], []),
  (23, .goto 10, 26, [33], []),
  (26, .aload_n 0, 27, [0], []),
  (27, .getfield 10, 30, [], []),
  (30, .getfield 141, 33, [], []),
  (33, .astore_n 2, 34, [2], []),
  (34, .iload_n 1, 35, [1], []),
  (35, .ifCond .ne 7, 38, [42], []),
  (38, .iconst 1, 39, [], [1]),
  (39, .goto 4, 42, [43], []),
  (42, .iconst 3, 43, [], [3]),
  (43, .istore_n 3, 44, [3], []),
  (44, .aload_n 0, 45, [0], []),
  (45, .getfield 90, 48, [], []),
  (48, .aload_n 0, 49, [0], []),
  (49, .invokevirtual 242, 52, [], []),
  (52, .invokevirtual 231, 55, [], []),
  (55, .iconst 0, 56, [], [0]),
  (56, .istore 4, 58, [], []),
  (58, .iload 4, 60, [], []),
  (60, .aload_n 0, 61, [0], []),
  (61, .getfield 10, 64, [], []),
  (64, .getfield 121, 67, [], []),
  (67, .if_icmp .ge 46, 70, [113], []),
  (70, .aload_n 2, 71, [2], []),
  (71, .iload 4, 73, [], []),
  (73, .iaload, 74, [], []),
  (74, .iload_n 3, 75, [3], []),
  (75, .if_icmp .ge 32, 78, [107], []),
  (78, .aload_n 2, 79, [2], []),
  (79, .iload 4, 81, [], []),
  (81, .dup2, 82, [], []),
  (82, .iaload, 83, [], []),
  (83, .iconst 1, 84, [], [1]),
  (84, .iadd, 85, [], []),
  (85, .iastore, 86, [], []),
  (86, .aload_n 0, 87, [0], []),
  (87, .getfield 90, 90, [], []),
  (90, .iload 4, 92, [], []),
  (92, .aload_n 0, 93, [0], []),
  (93, .invokevirtual 242, 96, [], []),
  (96, .invokevirtual 235, 99, [], []),
  (99, .aload_n 2, 100, [2], []),
  (100, .iload 4, 102, [], []),
  (102, .dup2, 103, [], []),
  (103, .iaload, 104, [], []),
  (104, .iconst 1, 105, [], [1]),
  (105, .isub, 106, [], []),
  (106, .iastore, 107, [], []),
  (107, .iinc 4 1, 110, [], [1]),
  (110, .goto (-52), 113, [58], []),
  (113, .aload_n 0, 114, [0], []),
  (114, .getfield 90, 117, [], []),
  (117, .getfield 239, 120, [], []),
  (120, .ireturn, 121, [], [])]
theorem zo_X11_ready : ab_ok cX11_ready zp_X11_ready = true := by decide +kernel
def zg_X11_ready : ab_G := (zw_C, zs_tab, zf_X11, zc_X11, [(144, 50), (147, 51)], [(231, 2, zt_X0_begin), (235, 3, zt_X0_offer), (242, 1, zt_X11_allHarm)], [(117, 3, zt_X11_within)])
theorem zm_X11_ready : ab_MG zg_X11_ready := ab_MGof (List.forall_mem_cons.mpr ⟨zt_X0_begin_mono, List.forall_mem_cons.mpr ⟨zt_X0_offer_mono, List.forall_mem_cons.mpr ⟨zt_X11_allHarm_mono, List.forall_mem_nil _⟩⟩⟩) (List.forall_mem_cons.mpr ⟨ab_pure_mono _, List.forall_mem_nil _⟩)
abbrev zr_X11_ready (Q : ab_R) : ab_K := ab_Run zg_X11_ready zp_X11_ready (some .int) 5 Q
set_option maxRecDepth 20000 in
theorem zv_X11_ready_0 {Q : ab_R} {M : ab_M} {N : ab_N} (l1 : Int32) (h : ((ab_b ((0 : Int32) ≤ l1 ∧ l1 ≤ (1 : Int32))) = 0 → Q (some (.int (-2 : Int32))) M N) ∧ (¬ ((ab_b ((0 : Int32) ≤ l1 ∧ l1 ≤ (1 : Int32))) = 0) → (l1 = 0 → (l1 = 0 → zt_X11_allHarm [.ref 0] M N (fun r M2 N2 => zr_X11_ready Q 52 [some (.ref 0), none, some (.ref 16), some (.int (1 : Int32)), none] (ab_ol r [.ref 11]) M2 N2)) ∧ (¬ (l1 = 0) → zt_X11_allHarm [.ref 0] M N (fun r M2 N2 => zr_X11_ready Q 52 [some (.ref 0), none, some (.ref 16), some (.int (3 : Int32)), none] (ab_ol r [.ref 11]) M2 N2))) ∧ (¬ (l1 = 0) → (l1 = 0 → zt_X11_allHarm [.ref 0] M N (fun r M2 N2 => zr_X11_ready Q 52 [some (.ref 0), none, some (.ref 15), some (.int (1 : Int32)), none] (ab_ol r [.ref 11]) M2 N2)) ∧ (¬ (l1 = 0) → zt_X11_allHarm [.ref 0] M N (fun r M2 N2 => zr_X11_ready Q 52 [some (.ref 0), none, some (.ref 15), some (.int (3 : Int32)), none] (ab_ol r [.ref 11]) M2 N2))))) : zr_X11_ready Q 0 [some (.ref 0), some (.int l1)] [] M N := ab_Run_s zm_X11_ready (sp := [(52, [true, false, true, true, false]), (55, [true, false, true, true, false]), (58, [true, false, true, true, true]), (96, [true, false, true, true, true]), (99, [true, false, true, true, true])]) 68 h
set_option maxRecDepth 20000 in
theorem zv_X11_ready_52 {Q : ab_R} {M : ab_M} {N : ab_N} (l3 : Int32) (s1 : Int64) (h : zt_X0_begin [.ref 11, .long s1] M N (fun r M2 N2 => zr_X11_ready Q 55 [some (.ref 0), none, some (.ref 15), some (.int l3), none] (ab_ol r []) M2 N2)) : zr_X11_ready Q 52 [some (.ref 0), none, some (.ref 15), some (.int l3), none] [.long s1, .ref 11] M N := ab_Run_s zm_X11_ready (sp := [(52, [true, false, true, true, false]), (55, [true, false, true, true, false]), (58, [true, false, true, true, true]), (96, [true, false, true, true, true]), (99, [true, false, true, true, true])]) 68 h
set_option maxRecDepth 20000 in
theorem zv_X11_ready_55 {Q : ab_R} {M : ab_M} {N : ab_N} (l3 : Int32) (h : zr_X11_ready Q 58 [some (.ref 0), none, some (.ref 15), some (.int l3), some (.int (0 : Int32))] [] M N) : zr_X11_ready Q 55 [some (.ref 0), none, some (.ref 15), some (.int l3), none] [] M N := ab_Run_s zm_X11_ready (sp := [(52, [true, false, true, true, false]), (55, [true, false, true, true, false]), (58, [true, false, true, true, true]), (96, [true, false, true, true, true]), (99, [true, false, true, true, true])]) 68 h
set_option maxRecDepth 20000 in
theorem zv_X11_ready_58 {Q : ab_R} {M : ab_M} {N : ab_N} (l3 : Int32) (l4 : Int32) (h : ((M 1 4) ≤ l4 → Q (some (.int (M 11 0))) M N) ∧ (¬ ((M 1 4) ≤ l4) → vp_in l4 8 ∧ ((l3 ≤ (M 15 l4.toNatClampNeg) → zr_X11_ready Q 58 [some (.ref 0), none, some (.ref 15), some (.int l3), some (.int (l4 + (1 : Int32)))] [] M N) ∧ (¬ (l3 ≤ (M 15 l4.toNatClampNeg)) → vp_in l4 8 ∧ (vp_in l4 8 ∧ (let z1 : Nat → Int32 := upd (M 15) l4.toNatClampNeg ((M 15 l4.toNatClampNeg) + (1 : Int32)); zt_X11_allHarm [.ref 0] (ab_u M 15 z1) N (fun r M2 N2 => zr_X11_ready Q 96 [some (.ref 0), none, some (.ref 15), some (.int l3), some (.int l4)] (ab_ol r [.int l4, .ref 11]) M2 N2))))))) : zr_X11_ready Q 58 [some (.ref 0), none, some (.ref 15), some (.int l3), some (.int l4)] [] M N := ab_Run_s zm_X11_ready (sp := [(52, [true, false, true, true, false]), (55, [true, false, true, true, false]), (58, [true, false, true, true, true]), (96, [true, false, true, true, true]), (99, [true, false, true, true, true])]) 68 h
set_option maxRecDepth 20000 in
theorem zv_X11_ready_96 {Q : ab_R} {M : ab_M} {N : ab_N} (l3 : Int32) (l4 : Int32) (s1 : Int32) (s2 : Int64) (h : zt_X0_offer [.ref 11, .int s1, .long s2] M N (fun r M2 N2 => zr_X11_ready Q 99 [some (.ref 0), none, some (.ref 15), some (.int l3), some (.int l4)] (ab_ol r []) M2 N2)) : zr_X11_ready Q 96 [some (.ref 0), none, some (.ref 15), some (.int l3), some (.int l4)] [.long s2, .int s1, .ref 11] M N := ab_Run_s zm_X11_ready (sp := [(52, [true, false, true, true, false]), (55, [true, false, true, true, false]), (58, [true, false, true, true, true]), (96, [true, false, true, true, true]), (99, [true, false, true, true, true])]) 68 h
set_option maxRecDepth 20000 in
theorem zv_X11_ready_99 {Q : ab_R} {M : ab_M} {N : ab_N} (l3 : Int32) (l4 : Int32) (h : vp_in l4 8 ∧ (vp_in l4 8 ∧ (let z1 : Nat → Int32 := upd (M 15) l4.toNatClampNeg ((M 15 l4.toNatClampNeg) - (1 : Int32)); zr_X11_ready Q 58 [some (.ref 0), none, some (.ref 15), some (.int l3), some (.int (l4 + (1 : Int32)))] [] (ab_u M 15 z1) N))) : zr_X11_ready Q 99 [some (.ref 0), none, some (.ref 15), some (.int l3), some (.int l4)] [] M N := ab_Run_s zm_X11_ready (sp := [(52, [true, false, true, true, false]), (55, [true, false, true, true, false]), (58, [true, false, true, true, true]), (96, [true, false, true, true, true]), (99, [true, false, true, true, true])]) 68 h
abbrev zr_X11_readyL (Q : ab_R) : ab_K := zr_X11_ready Q
set_option maxRecDepth 20000 in
theorem zv_X11_readyL_0 {Q : ab_R} {M : ab_M} {N : ab_N} (l1 : Int32) (h : ((ab_b ((0 : Int32) ≤ l1 ∧ l1 ≤ (1 : Int32))) = 0 → Q (some (.int (-2 : Int32))) M N) ∧ (¬ ((ab_b ((0 : Int32) ≤ l1 ∧ l1 ≤ (1 : Int32))) = 0) → (l1 = 0 → (l1 = 0 → zt_X11_allHarm [.ref 0] M N (fun r M2 N2 => zr_X11_readyL Q 52 [some (.ref 0), none, some (.ref 16), some (.int (1 : Int32)), none] (ab_ol r [.ref 11]) M2 N2)) ∧ (¬ (l1 = 0) → zt_X11_allHarm [.ref 0] M N (fun r M2 N2 => zr_X11_readyL Q 52 [some (.ref 0), none, some (.ref 16), some (.int (3 : Int32)), none] (ab_ol r [.ref 11]) M2 N2))) ∧ (¬ (l1 = 0) → (l1 = 0 → zt_X11_allHarm [.ref 0] M N (fun r M2 N2 => zr_X11_readyL Q 52 [some (.ref 0), none, some (.ref 15), some (.int (1 : Int32)), none] (ab_ol r [.ref 11]) M2 N2)) ∧ (¬ (l1 = 0) → zt_X11_allHarm [.ref 0] M N (fun r M2 N2 => zr_X11_readyL Q 52 [some (.ref 0), none, some (.ref 15), some (.int (3 : Int32)), none] (ab_ol r [.ref 11]) M2 N2))))) : zr_X11_readyL Q 0 [some (.ref 0), some (.int l1)] [] M N := ab_Run_s zm_X11_ready (sp := [(52, [true, false, true, true, false]), (55, [true, false, true, true, false]), (58, [true, false, true, true, true]), (96, [true, false, true, true, true]), (99, [true, false, true, true, true])]) 68 h
set_option maxRecDepth 20000 in
theorem zv_X11_readyL_52 {Q : ab_R} {M : ab_M} {N : ab_N} (l3 : Int32) (s1 : Int64) (h : zt_X0_begin [.ref 11, .long s1] M N (fun r M2 N2 => zr_X11_readyL Q 55 [some (.ref 0), none, some (.ref 16), some (.int l3), none] (ab_ol r []) M2 N2)) : zr_X11_readyL Q 52 [some (.ref 0), none, some (.ref 16), some (.int l3), none] [.long s1, .ref 11] M N := ab_Run_s zm_X11_ready (sp := [(52, [true, false, true, true, false]), (55, [true, false, true, true, false]), (58, [true, false, true, true, true]), (96, [true, false, true, true, true]), (99, [true, false, true, true, true])]) 68 h
set_option maxRecDepth 20000 in
theorem zv_X11_readyL_55 {Q : ab_R} {M : ab_M} {N : ab_N} (l3 : Int32) (h : zr_X11_readyL Q 58 [some (.ref 0), none, some (.ref 16), some (.int l3), some (.int (0 : Int32))] [] M N) : zr_X11_readyL Q 55 [some (.ref 0), none, some (.ref 16), some (.int l3), none] [] M N := ab_Run_s zm_X11_ready (sp := [(52, [true, false, true, true, false]), (55, [true, false, true, true, false]), (58, [true, false, true, true, true]), (96, [true, false, true, true, true]), (99, [true, false, true, true, true])]) 68 h
set_option maxRecDepth 20000 in
theorem zv_X11_readyL_58 {Q : ab_R} {M : ab_M} {N : ab_N} (l3 : Int32) (l4 : Int32) (h : ((M 1 4) ≤ l4 → Q (some (.int (M 11 0))) M N) ∧ (¬ ((M 1 4) ≤ l4) → vp_in l4 8 ∧ ((l3 ≤ (M 16 l4.toNatClampNeg) → zr_X11_readyL Q 58 [some (.ref 0), none, some (.ref 16), some (.int l3), some (.int (l4 + (1 : Int32)))] [] M N) ∧ (¬ (l3 ≤ (M 16 l4.toNatClampNeg)) → vp_in l4 8 ∧ (vp_in l4 8 ∧ (let z1 : Nat → Int32 := upd (M 16) l4.toNatClampNeg ((M 16 l4.toNatClampNeg) + (1 : Int32)); zt_X11_allHarm [.ref 0] (ab_u M 16 z1) N (fun r M2 N2 => zr_X11_readyL Q 96 [some (.ref 0), none, some (.ref 16), some (.int l3), some (.int l4)] (ab_ol r [.int l4, .ref 11]) M2 N2))))))) : zr_X11_readyL Q 58 [some (.ref 0), none, some (.ref 16), some (.int l3), some (.int l4)] [] M N := ab_Run_s zm_X11_ready (sp := [(52, [true, false, true, true, false]), (55, [true, false, true, true, false]), (58, [true, false, true, true, true]), (96, [true, false, true, true, true]), (99, [true, false, true, true, true])]) 68 h
set_option maxRecDepth 20000 in
theorem zv_X11_readyL_96 {Q : ab_R} {M : ab_M} {N : ab_N} (l3 : Int32) (l4 : Int32) (s1 : Int32) (s2 : Int64) (h : zt_X0_offer [.ref 11, .int s1, .long s2] M N (fun r M2 N2 => zr_X11_readyL Q 99 [some (.ref 0), none, some (.ref 16), some (.int l3), some (.int l4)] (ab_ol r []) M2 N2)) : zr_X11_readyL Q 96 [some (.ref 0), none, some (.ref 16), some (.int l3), some (.int l4)] [.long s2, .int s1, .ref 11] M N := ab_Run_s zm_X11_ready (sp := [(52, [true, false, true, true, false]), (55, [true, false, true, true, false]), (58, [true, false, true, true, true]), (96, [true, false, true, true, true]), (99, [true, false, true, true, true])]) 68 h
set_option maxRecDepth 20000 in
theorem zv_X11_readyL_99 {Q : ab_R} {M : ab_M} {N : ab_N} (l3 : Int32) (l4 : Int32) (h : vp_in l4 8 ∧ (vp_in l4 8 ∧ (let z1 : Nat → Int32 := upd (M 16) l4.toNatClampNeg ((M 16 l4.toNatClampNeg) - (1 : Int32)); zr_X11_readyL Q 58 [some (.ref 0), none, some (.ref 16), some (.int l3), some (.int (l4 + (1 : Int32)))] [] (ab_u M 16 z1) N))) : zr_X11_readyL Q 99 [some (.ref 0), none, some (.ref 16), some (.int l3), some (.int l4)] [] M N := ab_Run_s zm_X11_ready (sp := [(52, [true, false, true, true, false]), (55, [true, false, true, true, false]), (58, [true, false, true, true, true]), (96, [true, false, true, true, true]), (99, [true, false, true, true, true])]) 68 h
theorem zL_X11_readyL {Q : ab_R} {d : ab_M} (hN : zNight d) (hk : ∀ M N, zFr zQc d M → zAsks M → Q (some (.int (zRdL d (zPcs d)).1)) M N) : ∀ (r p : Nat) (M : ab_M) (N : ab_N), p + r = zPcs d → zFr zQc d M → zAsks M → zBst M N (zRdL d p) → zr_X11_readyL Q 58 [some (.ref 0), none, some (.ref 16), some (.int 1), some (.int (nI p))] [] M N := by
  obtain ⟨n7, p8, n12, m5, n0, h12, -⟩ := zCn hN
  intro r
  induction r with
  | zero =>
    intro p M N hr hF hA hb
    have e : p = zPcs d := by omega
    subst e
    have n7 : M 1 4 = nI (zPcs d) := by rw [hF 1 (by decide)]; exact n7
    refine zv_X11_readyL_58 _ _ ⟨fun _ => ?_, fun c => absurd (by rw [n7]; exact nI_le (Nat.le_refl _) (by omega)) c⟩
    rw [hb.1]
    exact hk M N hF hA
  | succ r ih =>
    intro p M N hr hF hA hb
    have n7 : M 1 4 = nI (zPcs d) := by rw [hF 1 (by decide)]; exact n7
    have hin : vp_in (nI p) 8 := nI_in_ (by omega)
    have cp : (nI p).toNatClampNeg = p := nI_clamp (by omega)
    have ef : zRdL d (p + 1) = if decide (¬ 1 ≤ d 16 p) = true then zOf (zRdL d p) (nI p) (zAll (zLaD d p (d 16 p + 1))) else zRdL d p := rfl
    have hF2 : zFr (16 :: zQc) d M := zFr_mono hF (by decide)
    refine zv_X11_readyL_58 _ _ ?_
    rw [n7, cp, hF 16 (by decide)]
    refine ⟨fun c => absurd c (nI_ge (by omega) (by omega)), fun _ => ⟨hin, fun c => ?_, fun c => ⟨hin, hin, ?_⟩⟩⟩
    · rw [nI_1]
      refine ih (p + 1) M N (by omega) hF hA ?_
      rw [ef, if_neg (fun z => (of_decide_eq_true z) c)]
      exact hb
    · intro z1
      rw [if_pos (decide_eq_true c)] at ef
      have hA1 : zAsks (ab_u M 16 z1) := zAsks_u hA _ (by decide)
      refine zAHC (d := zLaD d p (d 16 p + 1)) (s := zRdL d p) (zI0_6 hN.2.1 _ (by decide)) (zI1_k hN.2.2 _ (by decide)) (zFr_same hF2 _) hA1 ⟨by rw [ab_u_ne _ _ (by decide)]; exact hb.1, hb.2⟩ (fun M2 N2 f1 f2 f3 => ?_)
      refine zv_X11_readyL_96 _ _ _ _ (zOfC f3 (fun M3 N3 f4 f5 => zv_X11_readyL_99 _ _ ?_))
      rw [cp]
      refine ⟨hin, hin, ?_⟩
      intro z2
      have e3 : M3 16 = upd (d 16) p (d 16 p + 1) := by rw [f4 16 (by decide), f1 16 (by decide), ab_u_eq]
      have ez : z2 = d 16 := by
        simp only [z2]
        rw [e3, upd_upd, upd_eq, Int32.add_sub_cancel, upd_same]
      rw [nI_1]
      refine ih (p + 1) _ N3 (by omega) (zFr_back (zFr_tr (zFr_tr (zFr_u hF2 (by decide) _) (zFr_mono f1 (by decide))) (zFr_mono f4 (by decide))) ez) ?_ ?_
      · have := zAsks_11 f2 f4
        exact zAsks_u this _ (by decide)
      · rw [ef]
        exact ⟨by rw [ab_u_ne _ _ (by decide)]; exact f5.1, f5.2⟩
theorem zL_X11_ready {Q : ab_R} {d : ab_M} (hN : zNight d) (hk : ∀ M N, zFr zQc d M → zAsks M → Q (some (.int (zRdK d (zPcs d)).1)) M N) : ∀ (r p : Nat) (M : ab_M) (N : ab_N), p + r = zPcs d → zFr zQc d M → zAsks M → zBst M N (zRdK d p) → zr_X11_ready Q 58 [some (.ref 0), none, some (.ref 15), some (.int 3), some (.int (nI p))] [] M N := by
  obtain ⟨n7, p8, n12, m5, n0, h12, -⟩ := zCn hN
  intro r
  induction r with
  | zero =>
    intro p M N hr hF hA hb
    have e : p = zPcs d := by omega
    subst e
    have n7 : M 1 4 = nI (zPcs d) := by rw [hF 1 (by decide)]; exact n7
    refine zv_X11_ready_58 _ _ ⟨fun _ => ?_, fun c => absurd (by rw [n7]; exact nI_le (Nat.le_refl _) (by omega)) c⟩
    rw [hb.1]
    exact hk M N hF hA
  | succ r ih =>
    intro p M N hr hF hA hb
    have n7 : M 1 4 = nI (zPcs d) := by rw [hF 1 (by decide)]; exact n7
    have hin : vp_in (nI p) 8 := nI_in_ (by omega)
    have cp : (nI p).toNatClampNeg = p := nI_clamp (by omega)
    have ef : zRdK d (p + 1) = if decide (¬ 3 ≤ d 15 p) = true then zOf (zRdK d p) (nI p) (zAll (zSaD d p (d 15 p + 1))) else zRdK d p := rfl
    have hF2 : zFr (15 :: zQc) d M := zFr_mono hF (by decide)
    refine zv_X11_ready_58 _ _ ?_
    rw [n7, cp, hF 15 (by decide)]
    refine ⟨fun c => absurd c (nI_ge (by omega) (by omega)), fun _ => ⟨hin, fun c => ?_, fun c => ⟨hin, hin, ?_⟩⟩⟩
    · rw [nI_1]
      refine ih (p + 1) M N (by omega) hF hA ?_
      rw [ef, if_neg (fun z => (of_decide_eq_true z) c)]
      exact hb
    · intro z1
      rw [if_pos (decide_eq_true c)] at ef
      have hA1 : zAsks (ab_u M 15 z1) := zAsks_15 hA (zSk_1 hN.1.2.2 (by omega) c)
      refine zAHC (d := zSaD d p (d 15 p + 1)) (s := zRdK d p) (zI0_6 hN.2.1 _ (by decide)) (zI1_k hN.2.2 _ (by decide)) (zFr_same hF2 _) hA1 ⟨by rw [ab_u_ne _ _ (by decide)]; exact hb.1, hb.2⟩ (fun M2 N2 f1 f2 f3 => ?_)
      refine zv_X11_ready_96 _ _ _ _ (zOfC f3 (fun M3 N3 f4 f5 => zv_X11_ready_99 _ _ ?_))
      rw [cp]
      refine ⟨hin, hin, ?_⟩
      intro z2
      have e3 : M3 15 = upd (d 15) p (d 15 p + 1) := by rw [f4 15 (by decide), f1 15 (by decide), ab_u_eq]
      have ez : z2 = d 15 := by
        simp only [z2]
        rw [e3, upd_upd, upd_eq, Int32.add_sub_cancel, upd_same]
      rw [nI_1]
      refine ih (p + 1) _ N3 (by omega) (zFr_back (zFr_tr (zFr_tr (zFr_u hF2 (by decide) _) (zFr_mono f1 (by decide))) (zFr_mono f4 (by decide))) ez) ?_ ?_
      · have := zAsks_11 f2 f4
        exact zAsks_15 this (by rw [ez]; exact hN.1.2.2)
      · rw [ef]
        exact ⟨by rw [ab_u_ne _ _ (by decide)]; exact f5.1, f5.2⟩
theorem zE_X11_ready (as : List Value) (M : ab_M) (N : ab_N) (k : ab_R) (hT : zt_X11_ready as M N k) : ab_cs as ≤ 5 ∧ zr_X11_ready k 0 (ab_en as) [] M N := by
  obtain ⟨w, rfl, hN, hk⟩ := ab_m1_e hT
  have hk := fun M2 N2 (hF : zFr zQc M M2) (hA : zAsks M2) => hk _ M2 N2 ⟨hF, hA, rfl⟩
  unfold zRdA at hk
  refine ⟨Nat.le_of_ble_eq_true rfl, zv_X11_ready_0 _ ⟨fun c => ?_, fun c => ⟨fun c2 => ⟨fun _ => ?_, fun z => absurd c2 z⟩, fun c2 => ⟨fun z => absurd z c2, fun _ => ?_⟩⟩⟩⟩
  · have hk := hk M N (zFr_rf _ _) hN.1
    rw [if_neg (ab_b_0.mp c)] at hk
    exact hk
  · rw [if_pos (zIx0 c), if_pos c2] at hk
    refine zAHC0 hN.2.1 hN.2.2 (zFr_rf _ _) hN.1 (fun M2 N2 f1 f2 => zv_X11_readyL_52 _ _ (zBgC (fun M3 N3 f3 f4 => zv_X11_readyL_55 _ ?_)))
    exact zL_X11_readyL hN hk (zPcs M) 0 M3 N3 (by omega) (zFr_tr (zFr_mono f1 (by decide)) (zFr_mono f3 (by decide))) (zAsks_11 f2 f3) f4
  · rw [if_pos (zIx0 c), if_neg c2] at hk
    refine zAHC0 hN.2.1 hN.2.2 (zFr_rf _ _) hN.1 (fun M2 N2 f1 f2 => zv_X11_ready_52 _ _ (zBgC (fun M3 N3 f3 f4 => zv_X11_ready_55 _ ?_)))
    exact zL_X11_ready hN hk (zPcs M) 0 M3 N3 (by omega) (zFr_tr (zFr_mono f1 (by decide)) (zFr_mono f3 (by decide))) (zAsks_11 f2 f3) f4
abbrev zR_X11_ready : Room := { frames := 7, cells := 0, slots := 0, locals := 178 }
set_option maxRecDepth 20000 in
theorem zM_X11_ready (l : Launch) : ab_Met l zw_C vwCl zZ_C yX11_ready cX11_ready 5 (some .int) zR_X11_ready zt_X11_ready := ab_ofRun (G := zg_X11_ready) (P := zp_X11_ready) rfl zo_X11_ready (by decide +kernel) zl_cl zl_lamC zf_X11_ok zs_tabOK zc_X11_ok zs_X11_ok (List.forall_mem_cons.mpr ⟨ab_callV zZ_C_ok (zM_X0_begin l) (ab_in 783 (by decide +kernel) rfl) (ab_in 780 (by decide +kernel) rfl) (ab_in 781 (by decide +kernel) rfl) (ab_in 782 (by decide +kernel) rfl) (ab_in 12 (by decide +kernel) rfl) (by unfold ab_yok; decide +kernel) ⟨rfl, rfl⟩ (by decide) zV_X0_begin, List.forall_mem_cons.mpr ⟨ab_callV zZ_C_ok (zM_X0_offer l) (ab_in 787 (by decide +kernel) rfl) (ab_in 784 (by decide +kernel) rfl) (ab_in 785 (by decide +kernel) rfl) (ab_in 786 (by decide +kernel) rfl) (ab_in 12 (by decide +kernel) rfl) (by unfold ab_yok; decide +kernel) ⟨rfl, rfl⟩ (by decide) zV_X0_offer, List.forall_mem_cons.mpr ⟨ab_callV zZ_C_ok (zM_X11_allHarm l) (ab_in 795 (by decide +kernel) rfl) (ab_in 792 (by decide +kernel) rfl) (ab_in 794 (by decide +kernel) rfl) (ab_inS (List.mem_of_getElem? (i := 21) (by decide +kernel)) rfl) (ab_in 1 (by decide +kernel) rfl) (by unfold ab_yok; decide +kernel) ⟨rfl, rfl⟩ (by decide) zV_X11_allHarm, List.forall_mem_nil _⟩⟩⟩) (List.forall_mem_cons.mpr ⟨ab_callS zZ_C_ok (zM_X11_within l) (ab_in 538 (by decide +kernel) rfl) (ab_in 536 (by decide +kernel) rfl) (ab_in 537 (by decide +kernel) rfl) (ab_in 1 (by decide +kernel) rfl) (by unfold ab_yok; decide +kernel) ⟨rfl, rfl⟩ (by decide), List.forall_mem_nil _⟩) zE_X11_ready
def zRoD (d : ab_M) (m : Nat) (a b : Int32) : ab_M := ab_u (ab_u (ab_u d 25 (upd (d 25) m 1)) 26 (upd (d 26) m a)) 27 (upd (d 27) m b)
def zRoI (d : ab_M) (m a : Nat) (s : Int32 × Int64) (n : Nat) : Int32 × Int64 := zFo (fun k => zAll (zRoD d m (nI a) (nI (a + k)))) (fun k => nI (10 * a + (a + k))) (fun _ => true) s n
def zRoO (d : ab_M) (m : Nat) : Nat → Int32 × Int64
  | 0 => (-1, 1000000000000000000)
  | a + 1 => zRoI d m a (zRoO d m a) (zPcs d - a)
def zRoA (d : ab_M) (l w : Int32) : Int64 := if zHasN l (zMen d) then (if 0 ≤ w ∧ w ≤ 1 then (if w = 0 then (zRoO d l.toNatClampNeg (zPcs d)).1.toInt64 else (zRoO d l.toNatClampNeg (zPcs d)).2) else zNO) else zNO
theorem zI1_ro {d : ab_M} (h0 : zI0 d) (h : zI1 d) {m a b : Nat} (ha : a < zPcs d) (hb : b < zPcs d) : zI1 (zRoD d m (nI a) (nI b)) := by
  obtain ⟨hP, hP8⟩ := zP_eq h0
  have e : ∀ c, c ≠ 25 → c ≠ 26 → c ≠ 27 → zRoD d m (nI a) (nI b) c = d c := fun c x y z => by unfold zRoD; rw [ab_u_ne _ _ z, ab_u_ne _ _ y, ab_u_ne _ _ x]
  have e25 : zRoD d m (nI a) (nI b) 25 = upd (d 25) m 1 := by unfold zRoD; rw [ab_u_ne _ _ (by decide), ab_u_ne _ _ (by decide), ab_u_eq]
  have e26 : zRoD d m (nI a) (nI b) 26 = upd (d 26) m (nI a) := by unfold zRoD; rw [ab_u_ne _ _ (by decide), ab_u_eq]
  have e27 : zRoD d m (nI a) (nI b) 27 = upd (d 27) m (nI b) := by unfold zRoD; rw [ab_u_eq]
  unfold zI1 zMen at h ⊢
  rw [e 1 (by decide) (by decide) (by decide), e 2 (by decide) (by decide) (by decide), e 6 (by decide) (by decide) (by decide), e 28 (by decide) (by decide) (by decide), e 29 (by decide) (by decide) (by decide), e25, e26, e27]
  intro q hq
  obtain ⟨a1, a2, a3, a4, a5, a6⟩ := h q hq
  by_cases c : q = m
  · subst c
    rw [upd_eq, upd_eq, upd_eq, hP]
    rw [hP] at a6
    exact ⟨by decide, ⟨nI_pos' (by omega), nI_lt ha (by omega)⟩, ⟨nI_pos' (by omega), nI_lt hb (by omega)⟩, a4, a5, a6⟩
  · rw [upd_ne _ _ c, upd_ne _ _ c, upd_ne _ _ c]
    exact ⟨a1, a2, a3, a4, a5, a6⟩
def zt_X11_rounds : ab_T := ab_m2 0 (fun _ _ M _ => zNight M) (fun x y M N o M2 N2 => zFr zQc M M2 ∧ zAsks M2 ∧ o = some (.long (zRoA M x y)))
theorem zt_X11_rounds_mono : ab_mono zt_X11_rounds := ab_m2_mono _ _ _
theorem zV_X11_rounds : ab_recv zw_C vwCl RX11 zt_X11_rounds := ab_m2_v rfl rfl
def zp_X11_rounds : ab_P := [(0, .aload_n 0, 1, [0], []),
  (1, .getfield 19, 4, [], []),
  (4, .iload_n 1, 5, [1], []),
  (5, .invokevirtual 179, 8, [], []),
  (8, .ifCond .eq 12, 11, [20], []),
  (11, .iload_n 2, 12, [2], []),
  (12, .iconst 0, 13, [], [0]),
  (13, .iconst 1, 14, [], [1]),
  (14, .invokestatic 117, 17, [], []),
  (17, .ifCond .ne 7, 20, [24], []),
  (20, .ldc2_w 218, 23, [], []),
  (23, .lreturn, 24, [], []),
  (24, .aload_n 0, 25, [0], []),
  (25, .getfield 19, 28, [], []),
  (28, .getfield 183, 31, [], []),
  (31, .iload_n 1, 32, [1], []),
  (32, .iaload, 33, [], []),
  (33, .istore_n 3, 34, [3], []),
  (34, .aload_n 0, 35, [0], []),
  (35, .getfield 19, 38, [], []),
  (38, .getfield 186, 41, [], []),
  (41, .iload_n 1, 42, [1], []),
  (42, .iaload, 43, [], []),
  (43, .istore 4, 45, [], []),
  (45, .aload_n 0, 46, [0], []),
  (46, .getfield 19, 49, [], []),
  (49, .getfield 189, 52, [], []),
  (52, .iload_n 1, 53, [1], []),
  (53, .iaload, 54, [], []),
  (54, .istore 5, 56, [], []),
  (56, .aload_n 0, 57, [0], []),
  (57, .getfield 19, 60, [], []),
  (60, .getfield 183, 63, [], []),
  (63, .iload_n 1, 64, [1], []),
  (64, .iconst 1, 65, [], [1]),
  (65, .iastore, 66, [], []),
  (66, .aload_n 0, 67, [0], []),
  (67, .getfield 90, 70, [], []),
  (70, .ldc2_w 259, 73, [], []),
  (73, .invokevirtual 231, 76, [], []),
  (76, .iconst 0, 77, [], [0]),
  (77, .istore 6, 79, [], []),
  (79, .iload 6, 81, [], []),
  (81, .aload_n 0, 82, [0], []),
  (82, .getfield 10, 85, [], []),
  (85, .getfield 121, 88, [], []),
  (88, .if_icmp .ge 72, 91, [160], []),
  (91, .iload 6, 93, [], []),
  (93, .istore 7, 95, [], []),
  (95, .iload 7, 97, [], []),
  (97, .aload_n 0, 98, [0], []),
  (98, .getfield 10, 101, [], []),
  (101, .getfield 121, 104, [], []),
  (104, .if_icmp .ge 50, 107, [154], []),
  (107, .aload_n 0, 108, [0], []),
  (108, .getfield 19, 111, [], []),
  (111, .getfield 186, 114, [], []),
  (114, .iload_n 1, 115, [1], []),
  (115, .iload 6, 117, [], []),
  (117, .iastore, 118, [], []),
  (118, .aload_n 0, 119, [0], []),
  (119, .getfield 19, 122, [], []),
  (122, .getfield 189, 125, [], []),
  (125, .iload_n 1, 126, [1], []),
  (126, .iload 7, 128, [], []),
  (128, .iastore, 129, [], []),
  (129, .aload_n 0, 130, [0], []),
  (130, .getfield 90, 133, [], []),
  (133, .bipush 10, 135, [], [10]),
  (135, .iload 6, 137, [], []),
  (137, .imul, 138, [], []),
  (138, .iload 7, 140, [], []),
  (140, .iadd, 141, [], []),
  (141, .aload_n 0, 142, [0], []),
  (142, .invokevirtual 242, 145, [], []),
  (145, .invokevirtual 235, 148, [], []),
  (148, .iinc 7 1, 151, [], [1]),
  (151, .goto (-56), 154, [95], []),
  (154, .iinc 6 1, 157, [], [1]),
  (157, .goto (-78), 160, [79], []),
  (160, .aload_n 0, 161, [0], []),
  (161, .getfield 19, 164, [], []),
  (164, .getfield 183, 167, [], []),
  (167, .iload_n 1, 168, [1], []),
  (168, .iload_n 3, 169, [3], []),
  (169, .iastore, 170, [], []),
  (170, .aload_n 0, 171, [0], []),
  (171, .getfield 19, 174, [], []),
  (174, .getfield 186, 177, [], []),
  (177, .iload_n 1, 178, [1], []),
  (178, .iload 4, 180, [], []),
  (180, .iastore, 181, [], []),
  (181, .aload_n 0, 182, [0], []),
  (182, .getfield 19, 185, [], []),
  (185, .getfield 189, 188, [], []),
  (188, .iload_n 1, 189, [1], []),
  (189, .iload 5, 191, [], []),
  (191, .iastore, 192, [], []),
  (192, .iload_n 2, 193, [2], []),
  (193, .ifCond .ne 14, 196, [207], []),
  (196, .aload_n 0, 197, [0], []),
  (197, .getfield 90, 200, [], []),
  (200, .getfield 239, 203, [], []),
  (203, .i2l, 204, [], []),
  (204, .goto 10, 207, [214], []),
  (207, .aload_n 0, 208, [0], []),
  (208, .getfield 90, 211, [], []),
  (211, .getfield 252, 214, [], []),
  (214, .lreturn, 215, [], [])]
theorem zo_X11_rounds : ab_ok cX11_rounds zp_X11_rounds = true := by decide +kernel
def zg_X11_rounds : ab_G := (zw_C, zs_tab, zf_X11, zc_X11, [(144, 50), (147, 51)], [(179, 2, zt_X5_has), (231, 2, zt_X0_begin), (235, 3, zt_X0_offer), (242, 1, zt_X11_allHarm)], [(117, 3, zt_X11_within)])
theorem zm_X11_rounds : ab_MG zg_X11_rounds := ab_MGof (List.forall_mem_cons.mpr ⟨ab_pure_mono _, List.forall_mem_cons.mpr ⟨zt_X0_begin_mono, List.forall_mem_cons.mpr ⟨zt_X0_offer_mono, List.forall_mem_cons.mpr ⟨zt_X11_allHarm_mono, List.forall_mem_nil _⟩⟩⟩⟩) (List.forall_mem_cons.mpr ⟨ab_pure_mono _, List.forall_mem_nil _⟩)
abbrev zr_X11_rounds (Q : ab_R) : ab_K := ab_Run zg_X11_rounds zp_X11_rounds (some .long) 8 Q
set_option maxRecDepth 20000 in
theorem zv_X11_rounds_0 {Q : ab_R} {M : ab_M} {N : ab_N} (l1 : Int32) (l2 : Int32) (h : ((ab_b (0 ≤ l1 ∧ l1 < (M 2) 6 ∧ l1 < 5)) = 0 → Q (some (.long (-4611686018427387904 : Int64))) M N) ∧ (¬ ((ab_b (0 ≤ l1 ∧ l1 < (M 2) 6 ∧ l1 < 5)) = 0) → ((ab_b ((0 : Int32) ≤ l2 ∧ l2 ≤ (1 : Int32))) = 0 → Q (some (.long (-4611686018427387904 : Int64))) M N) ∧ (¬ ((ab_b ((0 : Int32) ≤ l2 ∧ l2 ≤ (1 : Int32))) = 0) → vp_in l1 5 ∧ (vp_in l1 5 ∧ (vp_in l1 5 ∧ (vp_in l1 5 ∧ (let z1 : Nat → Int32 := upd (M 25) l1.toNatClampNeg (1 : Int32); zt_X0_begin [.ref 11, .long (1000000000000000000 : Int64)] (ab_u M 25 z1) N (fun r M2 N2 => zr_X11_rounds Q 76 [some (.ref 0), some (.int l1), some (.int l2), some (.int (M 25 l1.toNatClampNeg)), some (.int (M 26 l1.toNatClampNeg)), some (.int (M 27 l1.toNatClampNeg)), none, none] (ab_ol r []) M2 N2)))))))) : zr_X11_rounds Q 0 [some (.ref 0), some (.int l1), some (.int l2)] [] M N := ab_Run_s zm_X11_rounds (sp := [(76, [true, true, true, true, true, true, false, false]), (79, [true, true, true, true, true, true, true, false]), (95, [true, true, true, true, true, true, true, true]), (145, [true, true, true, true, true, true, true, true]), (148, [true, true, true, true, true, true, true, true])]) 111 h
set_option maxRecDepth 20000 in
theorem zv_X11_rounds_76 {Q : ab_R} {M : ab_M} {N : ab_N} (l1 : Int32) (l2 : Int32) (l3 : Int32) (l4 : Int32) (l5 : Int32) (h : zr_X11_rounds Q 79 [some (.ref 0), some (.int l1), some (.int l2), some (.int l3), some (.int l4), some (.int l5), some (.int (0 : Int32)), none] [] M N) : zr_X11_rounds Q 76 [some (.ref 0), some (.int l1), some (.int l2), some (.int l3), some (.int l4), some (.int l5), none, none] [] M N := ab_Run_s zm_X11_rounds (sp := [(76, [true, true, true, true, true, true, false, false]), (79, [true, true, true, true, true, true, true, false]), (95, [true, true, true, true, true, true, true, true]), (145, [true, true, true, true, true, true, true, true]), (148, [true, true, true, true, true, true, true, true])]) 111 h
set_option maxRecDepth 20000 in
theorem zv_X11_rounds_79 {Q : ab_R} {M : ab_M} {N : ab_N} (l1 : Int32) (l2 : Int32) (l3 : Int32) (l4 : Int32) (l5 : Int32) (l6 : Int32) (h : ((M 1 4) ≤ l6 → vp_in l1 5 ∧ (let z1 : Nat → Int32 := upd (M 25) l1.toNatClampNeg l3; vp_in l1 5 ∧ (let z2 : Nat → Int32 := upd (M 26) l1.toNatClampNeg l4; vp_in l1 5 ∧ (let z3 : Nat → Int32 := upd (M 27) l1.toNatClampNeg l5; (l2 = 0 → Q (some (.long ((M 11 0).toInt64))) (ab_u (ab_u (ab_u M 25 z1) 26 z2) 27 z3) N) ∧ (¬ (l2 = 0) → Q (some (.long (N 11 1))) (ab_u (ab_u (ab_u M 25 z1) 26 z2) 27 z3) N))))) ∧ (¬ ((M 1 4) ≤ l6) → zr_X11_rounds Q 95 [some (.ref 0), some (.int l1), some (.int l2), some (.int l3), some (.int l4), some (.int l5), some (.int l6), some (.int l6)] [] M N)) : zr_X11_rounds Q 79 [some (.ref 0), some (.int l1), some (.int l2), some (.int l3), some (.int l4), some (.int l5), some (.int l6), none] [] M N := ab_Run_s zm_X11_rounds (sp := [(76, [true, true, true, true, true, true, false, false]), (79, [true, true, true, true, true, true, true, false]), (95, [true, true, true, true, true, true, true, true]), (145, [true, true, true, true, true, true, true, true]), (148, [true, true, true, true, true, true, true, true])]) 111 h
set_option maxRecDepth 20000 in
theorem zv_X11_rounds_95 {Q : ab_R} {M : ab_M} {N : ab_N} (l1 : Int32) (l2 : Int32) (l3 : Int32) (l4 : Int32) (l5 : Int32) (l6 : Int32) (l7 : Int32) (h : ((M 1 4) ≤ l7 → zr_X11_rounds Q 79 [some (.ref 0), some (.int l1), some (.int l2), some (.int l3), some (.int l4), some (.int l5), some (.int (l6 + (1 : Int32))), none] [] M N) ∧ (¬ ((M 1 4) ≤ l7) → vp_in l1 5 ∧ (let z1 : Nat → Int32 := upd (M 26) l1.toNatClampNeg l6; vp_in l1 5 ∧ (let z2 : Nat → Int32 := upd (M 27) l1.toNatClampNeg l7; zt_X11_allHarm [.ref 0] (ab_u (ab_u M 26 z1) 27 z2) N (fun r M2 N2 => zr_X11_rounds Q 145 [some (.ref 0), some (.int l1), some (.int l2), some (.int l3), some (.int l4), some (.int l5), some (.int l6), some (.int l7)] (ab_ol r [.int (((10 : Int32) * l6) + l7), .ref 11]) M2 N2))))) : zr_X11_rounds Q 95 [some (.ref 0), some (.int l1), some (.int l2), some (.int l3), some (.int l4), some (.int l5), some (.int l6), some (.int l7)] [] M N := ab_Run_s zm_X11_rounds (sp := [(76, [true, true, true, true, true, true, false, false]), (79, [true, true, true, true, true, true, true, false]), (95, [true, true, true, true, true, true, true, true]), (145, [true, true, true, true, true, true, true, true]), (148, [true, true, true, true, true, true, true, true])]) 111 h
set_option maxRecDepth 20000 in
theorem zv_X11_rounds_145 {Q : ab_R} {M : ab_M} {N : ab_N} (l1 : Int32) (l2 : Int32) (l3 : Int32) (l4 : Int32) (l5 : Int32) (l6 : Int32) (l7 : Int32) (s1 : Int32) (s2 : Int64) (h : zt_X0_offer [.ref 11, .int s1, .long s2] M N (fun r M2 N2 => zr_X11_rounds Q 148 [some (.ref 0), some (.int l1), some (.int l2), some (.int l3), some (.int l4), some (.int l5), some (.int l6), some (.int l7)] (ab_ol r []) M2 N2)) : zr_X11_rounds Q 145 [some (.ref 0), some (.int l1), some (.int l2), some (.int l3), some (.int l4), some (.int l5), some (.int l6), some (.int l7)] [.long s2, .int s1, .ref 11] M N := ab_Run_s zm_X11_rounds (sp := [(76, [true, true, true, true, true, true, false, false]), (79, [true, true, true, true, true, true, true, false]), (95, [true, true, true, true, true, true, true, true]), (145, [true, true, true, true, true, true, true, true]), (148, [true, true, true, true, true, true, true, true])]) 111 h
set_option maxRecDepth 20000 in
theorem zv_X11_rounds_148 {Q : ab_R} {M : ab_M} {N : ab_N} (l1 : Int32) (l2 : Int32) (l3 : Int32) (l4 : Int32) (l5 : Int32) (l6 : Int32) (l7 : Int32) (h : zr_X11_rounds Q 95 [some (.ref 0), some (.int l1), some (.int l2), some (.int l3), some (.int l4), some (.int l5), some (.int l6), some (.int (l7 + (1 : Int32)))] [] M N) : zr_X11_rounds Q 148 [some (.ref 0), some (.int l1), some (.int l2), some (.int l3), some (.int l4), some (.int l5), some (.int l6), some (.int l7)] [] M N := ab_Run_s zm_X11_rounds (sp := [(76, [true, true, true, true, true, true, false, false]), (79, [true, true, true, true, true, true, true, false]), (95, [true, true, true, true, true, true, true, true]), (145, [true, true, true, true, true, true, true, true]), (148, [true, true, true, true, true, true, true, true])]) 111 h
/-- what stands between the tries -/
def zRoM (d : ab_M) (m : Nat) (M : ab_M) : Prop := zFr (26 :: 27 :: zQc) (ab_u d 25 (upd (d 25) m 1)) M ∧ zAsks M ∧ (∃ x, M 26 = upd (d 26) m x) ∧ ∃ y, M 27 = upd (d 27) m y
theorem zL_X11_roundsI {Q : ab_R} {d : ab_M} {w : Int32} {m a : Nat} {s : Int32 × Int64} (hN : zNight d) (hm : m < zMen d) (ha : a < zPcs d) (hk : ∀ M N, zRoM d m M → zBst M N (zRoI d m a s (zPcs d - a)) → zr_X11_rounds Q 79 [some (.ref 0), some (.int (nI m)), some (.int w), some (.int (d 25 m)), some (.int (d 26 m)), some (.int (d 27 m)), some (.int (nI (a + 1))), none] [] M N) : ∀ (r k : Nat) (M : ab_M) (N : ab_N), a + k + r = zPcs d → zRoM d m M → zBst M N (zRoI d m a s k) → zr_X11_rounds Q 95 [some (.ref 0), some (.int (nI m)), some (.int w), some (.int (d 25 m)), some (.int (d 26 m)), some (.int (d 27 m)), some (.int (nI a)), some (.int (nI (a + k)))] [] M N := by
  obtain ⟨n7, p8, n12, m5, n0, h12, -⟩ := zCn hN
  have hin : vp_in (nI m) 5 := nI_in_ (by omega)
  have cm : (nI m).toNatClampNeg = m := nI_clamp (by omega)
  intro r
  induction r with
  | zero =>
    intro k M N hr hM hb
    have e : k = zPcs d - a := by omega
    subst e
    have n7 : M 1 4 = nI (zPcs d) := by rw [hM.1 1 (by decide), ab_u_ne _ _ (by decide)]; exact n7
    refine zv_X11_rounds_95 _ _ _ _ _ _ _ ?_
    rw [nI_1]
    exact ⟨fun _ => hk M N hM hb, fun c => absurd (by rw [n7]; exact nI_le (by omega) (by omega)) c⟩
  | succ r ih =>
    intro k M N hr hM hb
    have n7 : M 1 4 = nI (zPcs d) := by rw [hM.1 1 (by decide), ab_u_ne _ _ (by decide)]; exact n7
    obtain ⟨hF, hA, ⟨x, e26⟩, y, e27⟩ := hM
    refine zv_X11_rounds_95 _ _ _ _ _ _ _ ?_
    rw [cm]
    refine ⟨fun c => absurd (by rw [← n7]; exact c) (nI_ge (a := a + k) (b := zPcs d) (by omega) (by omega)), fun _ => ⟨hin, ?_⟩⟩
    intro z1
    refine ⟨hin, ?_⟩
    intro z2
    have ez1 : z1 = upd (d 26) m (nI a) := by simp only [z1]; rw [e26, upd_upd]
    have ez2 : z2 = upd (d 27) m (nI (a + k)) := by simp only [z2]; rw [e27, upd_upd]
    clear_value z1 z2
    subst ez1 ez2
    refine zAHC (d := zRoD d m (nI a) (nI (a + k))) (s := zRoI d m a s k) (zI0_6 (zI0_6 (zI0_6 hN.2.1 _ (by decide)) _ (by decide)) _ (by decide)) (zI1_ro hN.2.1 hN.2.2 ha (by omega)) (zFr_same (zFr_same hF _) _) (zAsks_u (zAsks_u hA _ (by decide)) _ (by decide)) ⟨by rw [ab_u_ne _ _ (by decide), ab_u_ne _ _ (by decide)]; exact hb.1, hb.2⟩ (fun M2 N2 f1 f2 f3 => ?_)
    refine zv_X11_rounds_145 _ _ _ _ _ _ _ _ _ ?_
    rw [show (10 : Int32) * nI a + nI (a + k) = nI (10 * a + (a + k)) by rw [show (10 : Int32) = nI 10 from rfl, pk_mul, nI_add]]
    refine zOfC f3 (fun M3 N3 f4 f5 => zv_X11_rounds_148 _ _ _ _ _ _ _ ?_)
    rw [nI_1, Nat.add_assoc]
    refine ih (k + 1) M3 N3 (by omega) ⟨zFr_tr (zFr_tr (zFr_u (zFr_u hF (by decide) _) (by decide) _) (zFr_mono f1 (by decide))) (zFr_mono f4 (by decide)), zAsks_11 f2 f4, ⟨nI a, ?_⟩, ⟨nI (a + k), ?_⟩⟩ ?_
    · rw [f4 26 (by decide), f1 26 (by decide), ab_u_ne _ _ (by decide), ab_u_eq]
    · rw [f4 27 (by decide), f1 27 (by decide), ab_u_eq]
    · unfold zRoI
      rw [zFo_t]
      exact f5
theorem zL_X11_rounds {Q : ab_R} {d : ab_M} {w : Int32} {m : Nat} (hN : zNight d) (hm : m < zMen d) (hk : ∀ M N, zFr zQc d M → zAsks M → Q (some (.long (if w = 0 then (zRoO d m (zPcs d)).1.toInt64 else (zRoO d m (zPcs d)).2))) M N) : ∀ (r a : Nat) (M : ab_M) (N : ab_N), a + r = zPcs d → zRoM d m M → zBst M N (zRoO d m a) → zr_X11_rounds Q 79 [some (.ref 0), some (.int (nI m)), some (.int w), some (.int (d 25 m)), some (.int (d 26 m)), some (.int (d 27 m)), some (.int (nI a)), none] [] M N := by
  obtain ⟨n7, p8, n12, m5, n0, h12, -⟩ := zCn hN
  have hin : vp_in (nI m) 5 := nI_in_ (by omega)
  have cm : (nI m).toNatClampNeg = m := nI_clamp (by omega)
  intro r
  induction r with
  | zero =>
    intro a M N hr hM hb
    have e : a = zPcs d := by omega
    subst e
    have n7 : M 1 4 = nI (zPcs d) := by rw [hM.1 1 (by decide), ab_u_ne _ _ (by decide)]; exact n7
    obtain ⟨hF, hA, ⟨x, e26⟩, y, e27⟩ := hM
    refine zv_X11_rounds_79 _ _ _ _ _ _ ?_
    rw [cm]
    refine ⟨fun _ => ⟨hin, ?_⟩, fun c => absurd (by rw [n7]; exact nI_le (by omega) (by omega)) c⟩
    intro z1
    refine ⟨hin, ?_⟩
    intro z2
    refine ⟨hin, ?_⟩
    intro z3
    have ez1 : z1 = d 25 := by simp only [z1]; rw [hF 25 (by decide), ab_u_eq, upd_upd, upd_same]
    have ez2 : z2 = d 26 := by simp only [z2]; rw [e26, upd_upd, upd_same]
    have ez3 : z3 = d 27 := by simp only [z3]; rw [e27, upd_upd, upd_same]
    rw [hb.1, hb.2]
    have hk := hk (ab_u (ab_u (ab_u M 25 z1) 26 z2) 27 z3) N (fun c hc => by
      by_cases c27 : c = 27
      · rw [c27, ab_u_eq, ez3]
      · rw [ab_u_ne _ _ c27]
        by_cases c26 : c = 26
        · rw [c26, ab_u_eq, ez2]
        · rw [ab_u_ne _ _ c26]
          by_cases c25 : c = 25
          · rw [c25, ab_u_eq, ez1]
          · rw [ab_u_ne _ _ c25, hF c (by simp only [List.mem_cons, not_or]; exact ⟨c26, c27, by simpa using hc⟩), ab_u_ne _ _ c25]) (zAsks_u (zAsks_u (zAsks_u hA _ (by decide)) _ (by decide)) _ (by decide))
    refine ⟨fun c => ?_, fun c => ?_⟩
    · rw [if_pos c] at hk; exact hk
    · rw [if_neg c] at hk; exact hk
  | succ r ih =>
    intro a M N hr hM hb
    have n7 : M 1 4 = nI (zPcs d) := by rw [hM.1 1 (by decide), ab_u_ne _ _ (by decide)]; exact n7
    refine zv_X11_rounds_79 _ _ _ _ _ _ ⟨fun c => absurd (by rw [← n7]; exact c) (nI_ge (a := a) (b := zPcs d) (by omega) (by omega)), fun _ => ?_⟩
    exact zL_X11_roundsI (s := zRoO d m a) hN hm (by omega) (fun M2 N2 q1 q2 => ih (a + 1) M2 N2 (by omega) q1 q2) (zPcs d - a) 0 M N (by omega) hM hb
theorem zE_X11_rounds (as : List Value) (M : ab_M) (N : ab_N) (k : ab_R) (hT : zt_X11_rounds as M N k) : ab_cs as ≤ 8 ∧ zr_X11_rounds k 0 (ab_en as) [] M N := by
  obtain ⟨l, w, rfl, hN, hk⟩ := ab_m2_e hT
  obtain ⟨n7, p8, n12, m5, n0, h12, -⟩ := zCn hN
  have hk := fun M2 N2 (hF : zFr zQc M M2) (hA : zAsks M2) => hk _ M2 N2 ⟨hF, hA, rfl⟩
  unfold zRoA at hk
  refine ⟨Nat.le_of_ble_eq_true rfl, zv_X11_rounds_0 _ _ ?_⟩
  rw [n12]
  refine ⟨fun c => ?_, fun c => ⟨fun c2 => ?_, fun c2 => ?_⟩⟩
  · have hk := hk M N (zFr_rf _ _) hN.1
    rw [if_neg (zIcn m5 rfl (by decide) c)] at hk
    exact hk
  · have hk := hk M N (zFr_rf _ _) hN.1
    rw [if_pos (zIcp m5 rfl (by decide) c), if_neg (ab_b_0.mp c2)] at hk
    exact hk
  · have a1 := zIcp m5 rfl (by decide) c
    rw [if_pos a1, if_pos (zIx0 c2)] at hk
    obtain ⟨km, y1, rfl⟩ := zIxN (by omega) a1
    have cm : (nI km).toNatClampNeg = km := nI_clamp (by omega)
    have hin : vp_in (nI km) 5 := nI_in_ (by omega)
    rw [cm] at hk ⊢
    refine ⟨hin, hin, hin, hin, ?_⟩
    intro z1
    refine zBgC (fun M2 N2 f1 f2 => zv_X11_rounds_76 _ _ _ _ _ (zL_X11_rounds hN y1 hk (zPcs M) 0 M2 N2 (by omega) ⟨zFr_mono f1 (by decide), zAsks_11 (zAsks_u hN.1 _ (by decide)) f1, ⟨M 26 km, ?_⟩, ⟨M 27 km, ?_⟩⟩ f2))
    · rw [f1 26 (by decide), ab_u_ne _ _ (by decide), upd_same]
    · rw [f1 27 (by decide), ab_u_ne _ _ (by decide), upd_same]
abbrev zR_X11_rounds : Room := { frames := 7, cells := 0, slots := 0, locals := 178 }
set_option maxRecDepth 20000 in
theorem zM_X11_rounds (l : Launch) : ab_Met l zw_C vwCl zZ_C yX11_rounds cX11_rounds 8 (some .long) zR_X11_rounds zt_X11_rounds := ab_ofRun (G := zg_X11_rounds) (P := zp_X11_rounds) rfl zo_X11_rounds (by decide +kernel) zl_cl zl_lamC zf_X11_ok zs_tabOK zc_X11_ok zs_X11_ok (List.forall_mem_cons.mpr ⟨ab_callV zZ_C_ok (zM_X5_has l) (ab_in 642 (by decide +kernel) rfl) (ab_in 639 (by decide +kernel) rfl) (ab_in 640 (by decide +kernel) rfl) (ab_in 641 (by decide +kernel) rfl) (ab_in 3 (by decide +kernel) rfl) (by unfold ab_yok; decide +kernel) ⟨rfl, rfl⟩ (by decide) zV_X5_has, List.forall_mem_cons.mpr ⟨ab_callV zZ_C_ok (zM_X0_begin l) (ab_in 783 (by decide +kernel) rfl) (ab_in 780 (by decide +kernel) rfl) (ab_in 781 (by decide +kernel) rfl) (ab_in 782 (by decide +kernel) rfl) (ab_in 12 (by decide +kernel) rfl) (by unfold ab_yok; decide +kernel) ⟨rfl, rfl⟩ (by decide) zV_X0_begin, List.forall_mem_cons.mpr ⟨ab_callV zZ_C_ok (zM_X0_offer l) (ab_in 787 (by decide +kernel) rfl) (ab_in 784 (by decide +kernel) rfl) (ab_in 785 (by decide +kernel) rfl) (ab_in 786 (by decide +kernel) rfl) (ab_in 12 (by decide +kernel) rfl) (by unfold ab_yok; decide +kernel) ⟨rfl, rfl⟩ (by decide) zV_X0_offer, List.forall_mem_cons.mpr ⟨ab_callV zZ_C_ok (zM_X11_allHarm l) (ab_in 795 (by decide +kernel) rfl) (ab_in 792 (by decide +kernel) rfl) (ab_in 794 (by decide +kernel) rfl) (ab_inS (List.mem_of_getElem? (i := 21) (by decide +kernel)) rfl) (ab_in 1 (by decide +kernel) rfl) (by unfold ab_yok; decide +kernel) ⟨rfl, rfl⟩ (by decide) zV_X11_allHarm, List.forall_mem_nil _⟩⟩⟩⟩) (List.forall_mem_cons.mpr ⟨ab_callS zZ_C_ok (zM_X11_within l) (ab_in 538 (by decide +kernel) rfl) (ab_in 536 (by decide +kernel) rfl) (ab_in 537 (by decide +kernel) rfl) (ab_in 1 (by decide +kernel) rfl) (by unfold ab_yok; decide +kernel) ⟨rfl, rfl⟩ (by decide), List.forall_mem_nil _⟩) zE_X11_rounds
