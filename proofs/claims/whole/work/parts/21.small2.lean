/-! small methods that change a little *)
-/
def zt_X0_begin : ab_T := fun as M N k => match as with
  | [.ref a, .long x] => a = 11 ∧ k none (ab_u M 11 (upd (M 11) 0 (-1))) (ab_u N 11 (vp_updL (N 11) 1 x))
  | _ => False
theorem zt_X0_begin_mono : ab_mono zt_X0_begin := fun as M N k k2 hk h => by
  unfold zt_X0_begin at h ⊢
  split at h
  · exact ⟨h.1, hk _ _ _ h.2⟩
  · exact h
theorem zV_X0_begin : ab_recv zw_C vwCl RX0 zt_X0_begin := fun as M N k h => by
  unfold zt_X0_begin at h
  split at h
  · obtain ⟨rfl, -⟩ := h
    exact ⟨_, _, _, _, _, _, rfl, rfl, rfl⟩
  · exact h.elim
def zt_X0_offer : ab_T := fun as M N k => match as with
  | [.ref a, .int i, .long x] => a = 11 ∧ k none (if x < N 11 1 then ab_u M 11 (upd (M 11) 0 i) else M) (if x < N 11 1 then ab_u N 11 (vp_updL (N 11) 1 x) else N)
  | _ => False
theorem zt_X0_offer_mono : ab_mono zt_X0_offer := fun as M N k k2 hk h => by
  unfold zt_X0_offer at h ⊢
  split at h
  · exact ⟨h.1, hk _ _ _ h.2⟩
  · exact h
theorem zV_X0_offer : ab_recv zw_C vwCl RX0 zt_X0_offer := fun as M N k h => by
  unfold zt_X0_offer at h
  split at h
  · obtain ⟨rfl, -⟩ := h
    exact ⟨_, _, _, _, _, _, rfl, rfl, rfl⟩
  · exact h.elim
def zt_X1_forget : ab_T := ab_m0 5 (fun _ _ => True) (fun M N o M2 N2 => o = none ∧ M2 = ab_u M 5 (upd (M 5) 4 (M 5 4 + 1)) ∧ N2 = N)
theorem zt_X1_forget_mono : ab_mono zt_X1_forget := ab_m0_mono _ _ _
theorem zV_X1_forget : ab_recv zw_C vwCl RX1 zt_X1_forget := ab_m0_v rfl rfl
def zt_X2_add : ab_T := ab_m2 1 (fun _ _ M _ => vp_in (M 1 4) 8) (fun i v M N o M2 N2 => o = some (.int (M 1 4)) ∧ M2 = ab_u (ab_u (ab_u M 13 (upd (M 13) (M 1 4).toNatClampNeg i)) 14 (upd (M 14) (M 1 4).toNatClampNeg v)) 1 (upd (M 1) 4 (M 1 4 + 1)) ∧ N2 = N)
theorem zt_X2_add_mono : ab_mono zt_X2_add := ab_m2_mono _ _ _
theorem zV_X2_add : ab_recv zw_C vwCl RX2 zt_X2_add := ab_m2_v rfl rfl
def zt_X5_add : ab_T := ab_m3 2 (fun _ _ _ M _ => vp_in (M 2 6) 5) (fun i e r M N o M2 N2 => o = some (.int (M 2 6)) ∧ M2 = ab_u (ab_u (ab_u (ab_u (ab_u (ab_u M 25 (upd (M 25) (M 2 6).toNatClampNeg i)) 26 (upd (M 26) (M 2 6).toNatClampNeg (e / 10))) 27 (upd (M 27) (M 2 6).toNatClampNeg (e - e / 10 * 10))) 28 (upd (M 28) (M 2 6).toNatClampNeg (r / 10))) 29 (upd (M 29) (M 2 6).toNatClampNeg (r - r / 10 * 10))) 2 (upd (M 2) 6 (M 2 6 + 1)) ∧ N2 = N)
theorem zt_X5_add_mono : ab_mono zt_X5_add := ab_m3_mono _ _ _
theorem zV_X5_add : ab_recv zw_C vwCl RX5 zt_X5_add := ab_m3_v rfl rfl
def zt_X3_nextLot : ab_T := ab_m0 8 (fun _ _ => True) (fun M N o M2 N2 => o = some (.long (N2 8 4)) ∧ M2 = M ∧ N2 = ab_u N 8 (vp_updL (N 8) 4 (N 8 4 * 48271 - N 8 4 * 48271 / 2147483647 * 2147483647)))
theorem zt_X3_nextLot_mono : ab_mono zt_X3_nextLot := ab_m0_mono _ _ _
theorem zV_X3_nextLot : ab_recv zw_C vwCl RX3 zt_X3_nextLot := ab_m0_v rfl rfl
def zt_X7_renew : ab_T := ab_m3 9 (fun s _ _ _ _ => ∃ q : Nat, q < 4 ∧ s = nI q) (fun s t n M N o M2 N2 => o = none ∧ N2 = N ∧ M2 = ab_u (ab_u (ab_u M 43 (upd (M 43) s.toNatClampNeg t)) 44 (upd (M 44) s.toNatClampNeg n)) 45 (fun j => if s.toNatClampNeg * 40 ≤ j ∧ j < s.toNatClampNeg * 40 + 40 then 0 else M 45 j))
theorem zt_X7_renew_mono : ab_mono zt_X7_renew := ab_m3_mono _ _ _
theorem zV_X7_renew : ab_recv zw_C vwCl RX7 zt_X7_renew := ab_m3_v rfl rfl
def zCp (x y n : Nat) (M : ab_M) : ab_M := ab_u M x (va_cpy (M y) (M x) 0 0 n)
def zBec (x y p q n : Nat) (M : ab_M) : ab_M :=
  let M6 := zCp (x + 5) (y + 5) 12 (zCp (x + 4) (y + 4) 5 (zCp (x + 3) (y + 3) n (zCp (x + 2) (y + 2) n (zCp (x + 1) (y + 1) n (zCp x y n M)))))
  ab_u M6 p (upd (M6 p) 7 (M6 q 7))
def zt_X2_become : ab_T := fun as M N k => match as with
  | [.ref a, .ref b, .int n] => (¬ n < 0 ∧ n.toNatClampNeg ≤ 8) ∧ ((a = 1 ∧ b = 12 ∧ k none (zBec 13 19 1 12 n.toNatClampNeg M) N) ∨ (a = 12 ∧ b = 1 ∧ k none (zBec 19 13 12 1 n.toNatClampNeg M) N))
  | _ => False
theorem zt_X2_become_mono : ab_mono zt_X2_become := fun as M N k k2 hk h => by
  unfold zt_X2_become at h ⊢
  split at h
  · obtain ⟨h1, ⟨a, b, h2⟩ | ⟨a, b, h2⟩⟩ := h
    · exact ⟨h1, Or.inl ⟨a, b, hk _ _ _ h2⟩⟩
    · exact ⟨h1, Or.inr ⟨a, b, hk _ _ _ h2⟩⟩
  · exact h
theorem zV_X2_become : ab_recv zw_C vwCl RX2 zt_X2_become := fun as M N k h => by
  unfold zt_X2_become at h
  split at h
  · obtain ⟨-, ⟨rfl, -, -⟩ | ⟨rfl, -, -⟩⟩ := h
    · exact ⟨_, _, _, _, _, _, rfl, rfl, rfl⟩
    · exact ⟨_, _, _, _, _, _, rfl, rfl, rfl⟩
  · exact h.elim
def zp_X0_begin : ab_P := [(0, .aload_n 0, 1, [0], []),
  (1, .iconst (-1), 2, [], [(-1)]),
  (2, .putfield 7, 5, [], []),
  (5, .aload_n 0, 6, [0], []),
  (6, .lload_n 1, 7, [1], []),
  (7, .putfield 13, 10, [], []),
  (10, .return_, 11, [], [])]
theorem zo_X0_begin : ab_ok cX0_begin zp_X0_begin = true := by decide +kernel
def zg_X0_begin : ab_G := (zw_C, zs_tab, zf_X0, [], [], [], [])
theorem zm_X0_begin : ab_MG zg_X0_begin := ab_MGof (List.forall_mem_nil _) (List.forall_mem_nil _)
abbrev zr_X0_begin (Q : ab_R) : ab_K := ab_Run zg_X0_begin zp_X0_begin none 3 Q
set_option maxRecDepth 20000 in
theorem zv_X0_begin_0 {Q : ab_R} {M : ab_M} {N : ab_N} (l1 : Int64) (h : let z1 : Nat → Int32 := upd (M 11) 0 (-1 : Int32); let y2 : Nat → Int64 := vp_updL (N 11) 1 l1; Q none (ab_u M 11 z1) (ab_u N 11 y2)) : zr_X0_begin Q 0 [some (.ref 11), some (.long l1), none] [] M N := ab_Run_s zm_X0_begin (sp := []) 9 h
theorem zE_X0_begin (as : List Value) (M : ab_M) (N : ab_N) (k : ab_R) (hT : zt_X0_begin as M N k) : ab_cs as ≤ 3 ∧ zr_X0_begin k 0 (ab_en as) [] M N := by
  unfold zt_X0_begin at hT
  split at hT
  · obtain ⟨rfl, hk⟩ := hT
    exact ⟨Nat.le_of_ble_eq_true rfl, zv_X0_begin_0 _ hk⟩
  · exact hT.elim
abbrev zR_X0_begin : Room := { frames := 0, cells := 0, slots := 0, locals := 0 }
set_option maxRecDepth 20000 in
theorem zM_X0_begin (l : Launch) : ab_Met l zw_C vwCl zZ_C yX0_begin cX0_begin 3 none zR_X0_begin zt_X0_begin := ab_ofRun (G := zg_X0_begin) (P := zp_X0_begin) rfl zo_X0_begin (by decide +kernel) zl_cl zl_lamC zf_X0_ok zs_tabOK ab_Cst_nil ab_Sta_nil (List.forall_mem_nil _) (List.forall_mem_nil _) zE_X0_begin
def zp_X0_offer : ab_P := [(0, .lload_n 2, 1, [2], []),
  (1, .aload_n 0, 2, [0], []),
  (2, .getfield 13, 5, [], []),
  (5, .lcmp, 6, [], []),
  (6, .ifCond .ge 13, 9, [19], []),
  (9, .aload_n 0, 10, [0], []),
  (10, .lload_n 2, 11, [2], []),
  (11, .putfield 13, 14, [], []),
  (14, .aload_n 0, 15, [0], []),
  (15, .iload_n 1, 16, [1], []),
  (16, .putfield 7, 19, [], []),
  (19, .return_, 20, [], [])]
theorem zo_X0_offer : ab_ok cX0_offer zp_X0_offer = true := by decide +kernel
def zg_X0_offer : ab_G := (zw_C, zs_tab, zf_X0, [], [], [], [])
theorem zm_X0_offer : ab_MG zg_X0_offer := ab_MGof (List.forall_mem_nil _) (List.forall_mem_nil _)
abbrev zr_X0_offer (Q : ab_R) : ab_K := ab_Run zg_X0_offer zp_X0_offer none 4 Q
set_option maxRecDepth 20000 in
theorem zv_X0_offer_0 {Q : ab_R} {M : ab_M} {N : ab_N} (l1 : Int32) (l2 : Int64) (h : (0 ≤ (lg_cmp l2 (N 11 1)) → Q none M N) ∧ (¬ (0 ≤ (lg_cmp l2 (N 11 1))) → let y1 : Nat → Int64 := vp_updL (N 11) 1 l2; let z2 : Nat → Int32 := upd (M 11) 0 l1; Q none (ab_u M 11 z2) (ab_u N 11 y1))) : zr_X0_offer Q 0 [some (.ref 11), some (.int l1), some (.long l2), none] [] M N := ab_Run_s zm_X0_offer (sp := []) 14 h
theorem zE_X0_offer (as : List Value) (M : ab_M) (N : ab_N) (k : ab_R) (hT : zt_X0_offer as M N k) : ab_cs as ≤ 4 ∧ zr_X0_offer k 0 (ab_en as) [] M N := by
  unfold zt_X0_offer at hT
  split at hT
  · obtain ⟨rfl, hk⟩ := hT
    refine ⟨Nat.le_of_ble_eq_true rfl, zv_X0_offer_0 _ _ ⟨fun c => ?_, fun c => ?_⟩⟩
    · have c2 := (lg_cmp_ge _ _).mp c
      rw [if_neg (Int64.not_lt.mpr c2), if_neg (Int64.not_lt.mpr c2)] at hk
      exact hk
    · have c2 := Int64.not_le.mp (fun z => c ((lg_cmp_ge _ _).mpr z))
      rw [if_pos c2, if_pos c2] at hk
      exact hk
  · exact hT.elim
abbrev zR_X0_offer : Room := { frames := 0, cells := 0, slots := 0, locals := 0 }
set_option maxRecDepth 20000 in
theorem zM_X0_offer (l : Launch) : ab_Met l zw_C vwCl zZ_C yX0_offer cX0_offer 4 none zR_X0_offer zt_X0_offer := ab_ofRun (G := zg_X0_offer) (P := zp_X0_offer) rfl zo_X0_offer (by decide +kernel) zl_cl zl_lamC zf_X0_ok zs_tabOK ab_Cst_nil ab_Sta_nil (List.forall_mem_nil _) (List.forall_mem_nil _) zE_X0_offer
def zp_X1_forget : ab_P := [(0, .aload_n 0, 1, [0], []),
  (1, .dup, 2, [], []),
  (2, .getfield 18, 5, [], []),
  (5, .iconst 1, 6, [], [1]),
  (6, .iadd, 7, [], []),
  (7, .putfield 18, 10, [], []),
  (10, .return_, 11, [], [])]
theorem zo_X1_forget : ab_ok cX1_forget zp_X1_forget = true := by decide +kernel
def zg_X1_forget : ab_G := (zw_C, zs_tab, zf_X1, [], [(63, 52)], [], [])
theorem zm_X1_forget : ab_MG zg_X1_forget := ab_MGof (List.forall_mem_nil _) (List.forall_mem_nil _)
abbrev zr_X1_forget (Q : ab_R) : ab_K := ab_Run zg_X1_forget zp_X1_forget none 1 Q
set_option maxRecDepth 20000 in
theorem zv_X1_forget_0 {Q : ab_R} {M : ab_M} {N : ab_N}  (h : let z1 : Nat → Int32 := upd (M 5) 4 ((M 5 4) + (1 : Int32)); Q none (ab_u M 5 z1) N) : zr_X1_forget Q 0 [some (.ref 5)] [] M N := ab_Run_s zm_X1_forget (sp := []) 9 h
theorem zE_X1_forget (as : List Value) (M : ab_M) (N : ab_N) (k : ab_R) (hT : zt_X1_forget as M N k) : ab_cs as ≤ 1 ∧ zr_X1_forget k 0 (ab_en as) [] M N := by
  obtain ⟨rfl, -, hk⟩ := ab_m0_e hT
  exact ⟨Nat.le_of_ble_eq_true rfl, zv_X1_forget_0 (hk _ _ _ ⟨rfl, rfl, rfl⟩)⟩
abbrev zR_X1_forget : Room := { frames := 0, cells := 0, slots := 0, locals := 0 }
set_option maxRecDepth 20000 in
theorem zM_X1_forget (l : Launch) : ab_Met l zw_C vwCl zZ_C yX1_forget cX1_forget 1 none zR_X1_forget zt_X1_forget := ab_ofRun (G := zg_X1_forget) (P := zp_X1_forget) rfl zo_X1_forget (by decide +kernel) zl_cl zl_lamC zf_X1_ok zs_tabOK ab_Cst_nil zs_X1_ok (List.forall_mem_nil _) (List.forall_mem_nil _) zE_X1_forget
def zp_X2_add : ab_P := [(0, .aload_n 0, 1, [0], []),
  (1, .getfield 24, 4, [], []),
  (4, .istore_n 3, 5, [3], []),
  (5, .aload_n 0, 6, [0], []),
  (6, .getfield 9, 9, [], []),
  (9, .iload_n 3, 10, [3], []),
  (10, .iload_n 1, 11, [1], []),
  (11, .iastore, 12, [], []),
  (12, .aload_n 0, 13, [0], []),
  (13, .getfield 15, 16, [], []),
  (16, .iload_n 3, 17, [3], []),
  (17, .iload_n 2, 18, [2], []),
  (18, .iastore, 19, [], []),
  (19, .aload_n 0, 20, [0], []),
  (20, .dup, 21, [], []),
  (21, .getfield 24, 24, [], []),
  (24, .iconst 1, 25, [], [1]),
  (25, .iadd, 26, [], []),
  (26, .putfield 24, 29, [], []),
  (29, .iload_n 3, 30, [3], []),
  (30, .ireturn, 31, [], [])]
theorem zo_X2_add : ab_ok cX2_add zp_X2_add = true := by decide +kernel
def zg_X2_add : ab_G := (zw_C, zs_tab, zf_X2, [], [], [], [])
theorem zm_X2_add : ab_MG zg_X2_add := ab_MGof (List.forall_mem_nil _) (List.forall_mem_nil _)
abbrev zr_X2_add (Q : ab_R) : ab_K := ab_Run zg_X2_add zp_X2_add (some .int) 4 Q
set_option maxRecDepth 20000 in
theorem zv_X2_add_0 {Q : ab_R} {M : ab_M} {N : ab_N} (l1 : Int32) (l2 : Int32) (h : vp_in (M 1 4) 8 ∧ (let z1 : Nat → Int32 := upd (M 13) (M 1 4).toNatClampNeg l1; vp_in (M 1 4) 8 ∧ (let z2 : Nat → Int32 := upd (M 14) (M 1 4).toNatClampNeg l2; let z3 : Nat → Int32 := upd (M 1) 4 ((M 1 4) + (1 : Int32)); Q (some (.int (M 1 4))) (ab_u (ab_u (ab_u M 13 z1) 14 z2) 1 z3) N))) : zr_X2_add Q 0 [some (.ref 1), some (.int l1), some (.int l2)] [] M N := ab_Run_s zm_X2_add (sp := []) 23 h
theorem zE_X2_add (as : List Value) (M : ab_M) (N : ab_N) (k : ab_R) (hT : zt_X2_add as M N k) : ab_cs as ≤ 4 ∧ zr_X2_add k 0 (ab_en as) [] M N := by
  obtain ⟨i, v, rfl, hp, hk⟩ := ab_m2_e hT
  exact ⟨Nat.le_of_ble_eq_true rfl, zv_X2_add_0 _ _ ⟨hp, hp, hk _ _ _ ⟨rfl, rfl, rfl⟩⟩⟩
abbrev zR_X2_add : Room := { frames := 0, cells := 0, slots := 0, locals := 0 }
set_option maxRecDepth 20000 in
theorem zM_X2_add (l : Launch) : ab_Met l zw_C vwCl zZ_C yX2_add cX2_add 4 (some .int) zR_X2_add zt_X2_add := ab_ofRun (G := zg_X2_add) (P := zp_X2_add) rfl zo_X2_add (by decide +kernel) zl_cl zl_lamC zf_X2_ok zs_tabOK ab_Cst_nil ab_Sta_nil (List.forall_mem_nil _) (List.forall_mem_nil _) zE_X2_add
def zp_X5_add : ab_P := [(0, .aload_n 0, 1, [0], []),
  (1, .getfield 30, 4, [], []),
  (4, .istore 4, 6, [], []),
  (6, .aload_n 0, 7, [0], []),
  (7, .getfield 9, 10, [], []),
  (10, .iload 4, 12, [], []),
  (12, .iload_n 1, 13, [1], []),
  (13, .iastore, 14, [], []),
  (14, .aload_n 0, 15, [0], []),
  (15, .getfield 15, 18, [], []),
  (18, .iload 4, 20, [], []),
  (20, .iload_n 2, 21, [2], []),
  (21, .bipush 10, 23, [], [10]),
  (23, .idiv, 24, [], []),
  (24, .iastore, 25, [], []),
  (25, .aload_n 0, 26, [0], []),
  (26, .getfield 18, 29, [], []),
  (29, .iload 4, 31, [], []),
  (31, .iload_n 2, 32, [2], []),
  (32, .bipush 10, 34, [], [10]),
  (34, .irem, 35, [], []),
  (35, .iastore, 36, [], []),
  (36, .aload_n 0, 37, [0], []),
  (37, .getfield 21, 40, [], []),
  (40, .iload 4, 42, [], []),
  (42, .iload_n 3, 43, [3], []),
  (43, .bipush 10, 45, [], [10]),
  (45, .idiv, 46, [], []),
  (46, .iastore, 47, [], []),
  (47, .aload_n 0, 48, [0], []),
  (48, .getfield 24, 51, [], []),
  (51, .iload 4, 53, [], []),
  (53, .iload_n 3, 54, [3], []),
  (54, .bipush 10, 56, [], [10]),
  (56, .irem, 57, [], []),
  (57, .iastore, 58, [], []),
  (58, .aload_n 0, 59, [0], []),
  (59, .dup, 60, [], []),
  (60, .getfield 30, 63, [], []),
  (63, .iconst 1, 64, [], [1]),
  (64, .iadd, 65, [], []),
  (65, .putfield 30, 68, [], []),
  (68, .iload 4, 70, [], []),
  (70, .ireturn, 71, [], [])]
theorem zo_X5_add : ab_ok cX5_add zp_X5_add = true := by decide +kernel
def zg_X5_add : ab_G := (zw_C, zs_tab, zf_X5, [], [], [], [])
theorem zm_X5_add : ab_MG zg_X5_add := ab_MGof (List.forall_mem_nil _) (List.forall_mem_nil _)
abbrev zr_X5_add (Q : ab_R) : ab_K := ab_Run zg_X5_add zp_X5_add (some .int) 5 Q
set_option maxRecDepth 20000 in
theorem zv_X5_add_0 {Q : ab_R} {M : ab_M} {N : ab_N} (l1 : Int32) (l2 : Int32) (l3 : Int32) (h : vp_in (M 2 6) 5 ∧ (let z1 : Nat → Int32 := upd (M 25) (M 2 6).toNatClampNeg l1; ¬ (10 : Int32) = 0 ∧ (vp_in (M 2 6) 5 ∧ (let z2 : Nat → Int32 := upd (M 26) (M 2 6).toNatClampNeg (l2 / (10 : Int32)); ¬ (10 : Int32) = 0 ∧ (vp_in (M 2 6) 5 ∧ (let z3 : Nat → Int32 := upd (M 27) (M 2 6).toNatClampNeg (l2 - l2 / (10 : Int32) * (10 : Int32)); ¬ (10 : Int32) = 0 ∧ (vp_in (M 2 6) 5 ∧ (let z4 : Nat → Int32 := upd (M 28) (M 2 6).toNatClampNeg (l3 / (10 : Int32)); ¬ (10 : Int32) = 0 ∧ (vp_in (M 2 6) 5 ∧ (let z5 : Nat → Int32 := upd (M 29) (M 2 6).toNatClampNeg (l3 - l3 / (10 : Int32) * (10 : Int32)); let z6 : Nat → Int32 := upd (M 2) 6 ((M 2 6) + (1 : Int32)); Q (some (.int (M 2 6))) (ab_u (ab_u (ab_u (ab_u (ab_u (ab_u M 25 z1) 26 z2) 27 z3) 28 z4) 29 z5) 2 z6) N)))))))))) : zr_X5_add Q 0 [some (.ref 2), some (.int l1), some (.int l2), some (.int l3)] [] M N := ab_Run_s zm_X5_add (sp := []) 46 h
theorem zE_X5_add (as : List Value) (M : ab_M) (N : ab_N) (k : ab_R) (hT : zt_X5_add as M N k) : ab_cs as ≤ 5 ∧ zr_X5_add k 0 (ab_en as) [] M N := by
  obtain ⟨i, e, r, rfl, hp, hk⟩ := ab_m3_e hT
  exact ⟨Nat.le_of_ble_eq_true rfl, zv_X5_add_0 _ _ _ ⟨hp, by decide, hp, by decide, hp, by decide, hp, by decide, hp, hk _ _ _ ⟨rfl, rfl, rfl⟩⟩⟩
abbrev zR_X5_add : Room := { frames := 0, cells := 0, slots := 0, locals := 0 }
set_option maxRecDepth 20000 in
theorem zM_X5_add (l : Launch) : ab_Met l zw_C vwCl zZ_C yX5_add cX5_add 5 (some .int) zR_X5_add zt_X5_add := ab_ofRun (G := zg_X5_add) (P := zp_X5_add) rfl zo_X5_add (by decide +kernel) zl_cl zl_lamC zf_X5_ok zs_tabOK ab_Cst_nil ab_Sta_nil (List.forall_mem_nil _) (List.forall_mem_nil _) zE_X5_add
def zp_X3_nextLot : ab_P := [(0, .aload_n 0, 1, [0], []),
  (1, .aload_n 0, 2, [0], []),
  (2, .getfield 33, 5, [], []),
  (5, .ldc2_w 91, 8, [], []),
  (8, .lmul, 9, [], []),
  (9, .ldc2_w 93, 12, [], []),
  (12, .lrem, 13, [], []),
  (13, .putfield 33, 16, [], []),
  (16, .aload_n 0, 17, [0], []),
  (17, .getfield 33, 20, [], []),
  (20, .lreturn, 21, [], [])]
theorem zo_X3_nextLot : ab_ok cX3_nextLot zp_X3_nextLot = true := by decide +kernel
def zg_X3_nextLot : ab_G := (zw_C, zs_tab, zf_X3, zc_X3, [], [], [])
theorem zm_X3_nextLot : ab_MG zg_X3_nextLot := ab_MGof (List.forall_mem_nil _) (List.forall_mem_nil _)
abbrev zr_X3_nextLot (Q : ab_R) : ab_K := ab_Run zg_X3_nextLot zp_X3_nextLot (some .long) 1 Q
set_option maxRecDepth 20000 in
theorem zv_X3_nextLot_0 {Q : ab_R} {M : ab_M} {N : ab_N}  (h : ¬ (2147483647 : Int64) = 0 ∧ (let y1 : Nat → Int64 := vp_updL (N 8) 4 (((N 8 4) * (48271 : Int64)) - ((N 8 4) * (48271 : Int64)) / (2147483647 : Int64) * (2147483647 : Int64)); Q (some (.long (y1 4))) M (ab_u N 8 y1))) : zr_X3_nextLot Q 0 [some (.ref 8)] [] M N := ab_Run_s zm_X3_nextLot (sp := []) 13 h
theorem zE_X3_nextLot (as : List Value) (M : ab_M) (N : ab_N) (k : ab_R) (hT : zt_X3_nextLot as M N k) : ab_cs as ≤ 1 ∧ zr_X3_nextLot k 0 (ab_en as) [] M N := by
  obtain ⟨rfl, -, hk⟩ := ab_m0_e hT
  exact ⟨Nat.le_of_ble_eq_true rfl, zv_X3_nextLot_0 ⟨by decide, hk _ _ _ ⟨rfl, rfl, rfl⟩⟩⟩
abbrev zR_X3_nextLot : Room := { frames := 0, cells := 0, slots := 0, locals := 0 }
set_option maxRecDepth 20000 in
theorem zM_X3_nextLot (l : Launch) : ab_Met l zw_C vwCl zZ_C yX3_nextLot cX3_nextLot 1 (some .long) zR_X3_nextLot zt_X3_nextLot := ab_ofRun (G := zg_X3_nextLot) (P := zp_X3_nextLot) rfl zo_X3_nextLot (by decide +kernel) zl_cl zl_lamC zf_X3_ok zs_tabOK zc_X3_ok ab_Sta_nil (List.forall_mem_nil _) (List.forall_mem_nil _) zE_X3_nextLot
def zt_X6_told : ab_T := ab_pp (fun as M N => match as with
  | [.ref r1, .int w] => (match Nat.beq r1 7 with | true => some ((vp_in ((M 17) 1) 7), (.long (if w = 0 then N 7 4 else if w = 1 then N 41 ((M 17) 1).toNatClampNeg else N 7 5))) | false => none)
  | _ => none)
theorem zI_X6_told {as : List Value} {M : ab_M} {N : ab_N} {k : ab_R} (hk : zt_X6_told as M N k) : ∃ (w : Int32), as = [.ref 7, .int w] ∧ (vp_in ((M 17) 1) 7) ∧ k (some (.long (if w = 0 then N 7 4 else if w = 1 then N 41 ((M 17) 1).toNatClampNeg else N 7 5))) M N := by
  unfold zt_X6_told ab_pp at hk
  dsimp only at hk
  split at hk
  · rename_i v hv
    split at hv
    · split at hv
      · rename_i hb0
        cases hv
        rw [Nat.eq_of_beq_eq_true hb0]
        exact ⟨_, rfl, hk⟩
      · cases hv
    · cases hv
  · exact hk.elim
def zp_X6_told : ab_P := [(0, .iload_n 1, 1, [1], []),
  (1, .ifCond .ne 10, 4, [11], []),
  (4, .aload_n 0, 5, [0], []),
  (5, .getfield 27, 8, [], []),
  (8, .goto 29, 11, [37], []),
  (11, .iload_n 1, 12, [1], []),
  (12, .iconst 1, 13, [], [1]),
  (13, .if_icmp .ne 20, 16, [33], []),
  (16, .aload_n 0, 17, [0], []),
  (17, .getfield 9, 20, [], []),
  (20, .aload_n 0, 21, [0], []),
  (21, .getfield 15, 24, [], []),
  (24, .getfield 31, 27, [], []),
  (27, .iconst 1, 28, [], [1]),
  (28, .iaload, 29, [], []),
  (29, .laload, 30, [], []),
  (30, .goto 7, 33, [37], []),
  (33, .aload_n 0, 34, [0], []),
  (34, .getfield 37, 37, [], []),
  (37, .lreturn, 38, [], [])]
theorem zo_X6_told : ab_ok cX6_told zp_X6_told = true := by decide +kernel
def zg_X6_told : ab_G := (zw_C, zs_tab, zf_X6, zc_X6, [], [], [])
theorem zm_X6_told : ab_MG zg_X6_told := ab_MGof (List.forall_mem_nil _) (List.forall_mem_nil _)
abbrev zr_X6_told (Q : ab_R) : ab_K := ab_Run zg_X6_told zp_X6_told (some .long) 2 Q
set_option maxRecDepth 20000 in
theorem zv_X6_told_0 {Q : ab_R} {M : ab_M} {N : ab_N} (l1 : Int32) (h : (l1 = 0 → Q (some (.long (N 7 4))) M N) ∧ (¬ (l1 = 0) → (l1 = (1 : Int32) → vp_in (1 : Int32) 5 ∧ (vp_in (M 17 1) 7 ∧ (Q (some (.long (N 41 (M 17 1).toNatClampNeg))) M N))) ∧ (¬ (l1 = (1 : Int32)) → Q (some (.long (N 7 5))) M N))) : zr_X6_told Q 0 [some (.ref 7), some (.int l1)] [] M N := ab_Run_s zm_X6_told (sp := []) 22 h
theorem zH_X6_told (w : Int32) {M : ab_M} {N : ab_N} {k : ab_R} (hp : vp_in ((M 17) 1) 7) (hk : k (some (.long (if w = 0 then N 7 4 else if w = 1 then N 41 ((M 17) 1).toNatClampNeg else N 7 5))) M N) : zr_X6_told k 0 [some (.ref 7), some (.int w)] [] M N := by
  refine zv_X6_told_0 _ ⟨fun c => ?_, fun c => ⟨fun c2 => ⟨ab_vpk (by decide), hp, ?_⟩, fun c2 => ?_⟩⟩
  · rw [if_pos c] at hk; exact hk
  · rw [if_neg c, if_pos c2] at hk; exact hk
  · rw [if_neg c, if_neg c2] at hk; exact hk
abbrev zR_X6_told : Room := { frames := 0, cells := 0, slots := 0, locals := 0 }
theorem zV_X6_told : ab_recv zw_C vwCl RX6 zt_X6_told := fun as M N k h => by
  obtain ⟨_, rfl, -⟩ := zI_X6_told h
  exact ⟨_, _, _, _, _, _, rfl, rfl, rfl⟩
theorem zE_X6_told (as : List Value) (M : ab_M) (N : ab_N) (k : ab_R) (hk : zt_X6_told as M N k) : ab_cs as ≤ 2 ∧ zr_X6_told k 0 (ab_en as) [] M N := by
  obtain ⟨w, rfl, hp, hk2⟩ := zI_X6_told hk
  exact ⟨Nat.le_of_ble_eq_true rfl, zH_X6_told w hp hk2⟩
set_option maxRecDepth 20000 in
theorem zM_X6_told (l : Launch) : ab_Met l zw_C vwCl zZ_C yX6_told cX6_told 2 (some .long) zR_X6_told zt_X6_told := ab_ofRun (G := zg_X6_told) (P := zp_X6_told) rfl zo_X6_told (by decide +kernel) zl_cl zl_lamC zf_X6_ok zs_tabOK zc_X6_ok ab_Sta_nil (List.forall_mem_nil _) (List.forall_mem_nil _) zE_X6_told
def zp_X7_renew : ab_P := [(0, .aload_n 0, 1, [0], []),
  (1, .getfield 9, 4, [], []),
  (4, .iload_n 1, 5, [1], []),
  (5, .iload_n 2, 6, [2], []),
  (6, .iastore, 7, [], []),
  (7, .aload_n 0, 8, [0], []),
  (8, .getfield 15, 11, [], []),
  (11, .iload_n 1, 12, [1], []),
  (12, .iload_n 3, 13, [3], []),
  (13, .iastore, 14, [], []),
  (14, .iconst 0, 15, [], [0]),
  (15, .istore 4, 17, [], []),
  (17, .iload 4, 19, [], []),
  (19, .bipush 40, 21, [], [40]),
  (21, .if_icmp .ge 22, 24, [43], []),
  (24, .aload_n 0, 25, [0], []),
  (25, .getfield 18, 28, [], []),
  (28, .iload_n 1, 29, [1], []),
  (29, .bipush 40, 31, [], [40]),
  (31, .imul, 32, [], []),
  (32, .iload 4, 34, [], []),
  (34, .iadd, 35, [], []),
  (35, .iconst 0, 36, [], [0]),
  (36, .iastore, 37, [], []),
  (37, .iinc 4 1, 40, [], [1]),
  (40, .goto (-23), 43, [17], []),
  (43, .return_, 44, [], [])]
theorem zo_X7_renew : ab_ok cX7_renew zp_X7_renew = true := by decide +kernel
def zg_X7_renew : ab_G := (zw_C, zs_tab, zf_X7, [], [], [], [])
theorem zm_X7_renew : ab_MG zg_X7_renew := ab_MGof (List.forall_mem_nil _) (List.forall_mem_nil _)
abbrev zr_X7_renew (Q : ab_R) : ab_K := ab_Run zg_X7_renew zp_X7_renew none 5 Q
set_option maxRecDepth 20000 in
theorem zv_X7_renew_0 {Q : ab_R} {M : ab_M} {N : ab_N} (l1 : Int32) (l2 : Int32) (l3 : Int32) (h : vp_in l1 4 ∧ (let z1 : Nat → Int32 := upd (M 43) l1.toNatClampNeg l2; vp_in l1 4 ∧ (let z2 : Nat → Int32 := upd (M 44) l1.toNatClampNeg l3; zr_X7_renew Q 17 [some (.ref 9), some (.int l1), none, none, some (.int (0 : Int32))] [] (ab_u (ab_u M 43 z1) 44 z2) N))) : zr_X7_renew Q 0 [some (.ref 9), some (.int l1), some (.int l2), some (.int l3)] [] M N := ab_Run_s zm_X7_renew (sp := [(17, [true, true, false, false, true])]) 29 h
set_option maxRecDepth 20000 in
theorem zv_X7_renew_17 {Q : ab_R} {M : ab_M} {N : ab_N} (l1 : Int32) (l4 : Int32) (h : ((40 : Int32) ≤ l4 → Q none M N) ∧ (¬ ((40 : Int32) ≤ l4) → vp_in ((l1 * (40 : Int32)) + l4) 160 ∧ (let z1 : Nat → Int32 := upd (M 45) ((l1 * (40 : Int32)) + l4).toNatClampNeg (0 : Int32); zr_X7_renew Q 17 [some (.ref 9), some (.int l1), none, none, some (.int (l4 + (1 : Int32)))] [] (ab_u M 45 z1) N))) : zr_X7_renew Q 17 [some (.ref 9), some (.int l1), none, none, some (.int l4)] [] M N := ab_Run_s zm_X7_renew (sp := [(17, [true, true, false, false, true])]) 29 h
theorem zL_X7_renew {Q : ab_R} {N : ab_N} (M0 : ab_M) (q : Nat) (hq : q < 4) (hk : Q none (ab_u M0 45 (fun j => if q * 40 ≤ j ∧ j < q * 40 + 40 then 0 else M0 45 j)) N) : ∀ (n i : Nat) (f : Nat → Int32), i + n = 40 → (∀ j, f j = if q * 40 ≤ j ∧ j < q * 40 + i then 0 else M0 45 j) → zr_X7_renew Q 17 [some (.ref 9), some (.int (nI q)), none, none, some (.int (nI i))] [] (ab_u M0 45 f) N := by
  intro n
  induction n with
  | zero =>
    intro i f hi hf
    have ei : i = 40 := by omega
    subst ei
    refine zv_X7_renew_17 _ _ ⟨fun _ => ?_, fun c => absurd (show nI 40 ≤ nI 40 from nI_le (by omega) (by omega)) c⟩
    rw [show f = fun j => if q * 40 ≤ j ∧ j < q * 40 + 40 then 0 else M0 45 j from funext hf]
    exact hk
  | succ n ih =>
    intro i f hi hf
    refine zv_X7_renew_17 _ _ ⟨fun c => absurd c (show ¬ nI 40 ≤ nI i from nI_ge (by omega) (by omega)), fun _ => ?_⟩
    have ei : nI q * 40 + nI i = nI (q * 40 + i) := by rw [zN_mul q 40 40, nI_add]
    rw [ei, nI_1]
    refine ⟨nI_in_ (by omega), ?_⟩
    intro z1
    have e1 : z1 = upd f (q * 40 + i) 0 := by
      show upd (ab_u M0 45 f 45) _ _ = _
      rw [ab_u_eq, nI_clamp (show q * 40 + i < 2 ^ 31 by omega)]
    clear_value z1
    subst e1
    rw [ab_u_u]
    refine ih (i + 1) _ (by omega) (fun j => ?_)
    by_cases e : j = q * 40 + i
    · rw [e, upd_eq, if_pos (by omega)]
    · rw [upd_ne _ _ e, hf j]
      by_cases c : q * 40 ≤ j ∧ j < q * 40 + i
      · rw [if_pos c, if_pos (by omega)]
      · rw [if_neg c, if_neg (by omega)]
theorem zE_X7_renew (as : List Value) (M : ab_M) (N : ab_N) (k : ab_R) (hT : zt_X7_renew as M N k) : ab_cs as ≤ 5 ∧ zr_X7_renew k 0 (ab_en as) [] M N := by
  obtain ⟨s, t, n, rfl, ⟨q, hq, rfl⟩, hk⟩ := ab_m3_e hT
  rw [nI_clamp (show q < 2 ^ 31 by omega)] at hk
  refine ⟨Nat.le_of_ble_eq_true rfl, zv_X7_renew_0 _ _ _ ⟨nI_in_ hq, ?_⟩⟩
  rw [nI_clamp (show q < 2 ^ 31 by omega)]
  refine ⟨nI_in_ hq, ?_⟩
  intro z2
  have := zL_X7_renew (Q := k) (N := N) (ab_u (ab_u M 43 (upd (M 43) q t)) 44 z2) q hq (hk _ _ _ ⟨rfl, rfl, rfl⟩) 40 0 (M 45) (by omega) (fun j => by rw [if_neg (by omega), ab_u_ne _ _ (by decide), ab_u_ne _ _ (by decide)])
  have e : ab_u (ab_u (ab_u M 43 (upd (M 43) q t)) 44 z2) 45 (M 45) = ab_u (ab_u M 43 (upd (M 43) q t)) 44 z2 := by
    funext c
    by_cases e : c = 45
    · rw [e, ab_u_eq, ab_u_ne _ _ (by decide), ab_u_ne _ _ (by decide)]
    · rw [ab_u_ne _ _ e]
  rw [e] at this
  exact this
abbrev zR_X7_renew : Room := { frames := 0, cells := 0, slots := 0, locals := 0 }
set_option maxRecDepth 20000 in
theorem zM_X7_renew (l : Launch) : ab_Met l zw_C vwCl zZ_C yX7_renew cX7_renew 5 none zR_X7_renew zt_X7_renew := ab_ofRun (G := zg_X7_renew) (P := zp_X7_renew) rfl zo_X7_renew (by decide +kernel) zl_cl zl_lamC zf_X7_ok zs_tabOK ab_Cst_nil ab_Sta_nil (List.forall_mem_nil _) (List.forall_mem_nil _) zE_X7_renew
def zp_X2_become : ab_P := [(0, .aload_n 1, 1, [1], []),
  (1, .getfield 9, 4, [], []),
  (4, .iconst 0, 5, [], [0]),
  (5, .aload_n 0, 6, [0], []),
  (6, .getfield 9, 9, [], []),
  (9, .iconst 0, 10, [], [0]),
  (10, .iload_n 2, 11, [2], []),
  (11, .invokestatic 37, 14, [], []),
  (14, .aload_n 1, 15, [1], []),
  (15, .getfield 15, 18, [], []),
  (18, .iconst 0, 19, [], [0]),
  (19, .aload_n 0, 20, [0], []),
  (20, .getfield 15, 23, [], []),
  (23, .iconst 0, 24, [], [0]),
  (24, .iload_n 2, 25, [2], []),
  (25, .invokestatic 37, 28, [], []),
  (28, .aload_n 1, 29, [1], []),
  (29, .getfield 18, 32, [], []),
  (32, .iconst 0, 33, [], [0]),
  (33, .aload_n 0, 34, [0], []),
  (34, .getfield 18, 37, [], []),
  (37, .iconst 0, 38, [], [0]),
  (38, .iload_n 2, 39, [2], []),
  (39, .invokestatic 37, 42, [], []),
  (42, .aload_n 1, 43, [1], []),
  (43, .getfield 21, 46, [], []),
  (46, .iconst 0, 47, [], [0]),
  (47, .aload_n 0, 48, [0], []),
  (48, .getfield 21, 51, [], []),
  (51, .iconst 0, 52, [], [0]),
  (52, .iload_n 2, 53, [2], []),
  (53, .invokestatic 37, 56, [], []),
  (56, .aload_n 1, 57, [1], []),
  (57, .getfield 28, 60, [], []),
  (60, .iconst 0, 61, [], [0]),
  (61, .aload_n 0, 62, [0], []),
  (62, .getfield 28, 65, [], []),
  (65, .iconst 0, 66, [], [0]),
  (66, .iconst 5, 67, [], [5]),
  (67, .invokestatic 37, 70, [], []),
  (70, .aload_n 1, 71, [1], []),
  (71, .getfield 31, 74, [], []),
  (74, .iconst 0, 75, [], [0]),
  (75, .aload_n 0, 76, [0], []),
  (76, .getfield 31, 79, [], []),
  (79, .iconst 0, 80, [], [0]),
  (80, .bipush 12, 82, [], [12]),
  (82, .invokestatic 37, 85, [], []),
  (85, .aload_n 0, 86, [0], []),
  (86, .aload_n 1, 87, [1], []),
  (87, .getfield 34, 90, [], []),
  (90, .putfield 34, 93, [], []),
  (93, .return_, 94, [], [])]
theorem zo_X2_become : ab_ok cX2_become zp_X2_become = true := by decide +kernel
def zg_X2_become : ab_G := (zw_C, zs_tab, zf_X2, [], [], [], [(37, 5, zt_acopy zw_C)])
theorem zm_X2_become : ab_MG zg_X2_become := ab_MGof (List.forall_mem_nil _) (List.forall_mem_cons.mpr ⟨zt_acopy_mono _, List.forall_mem_nil _⟩)
abbrev zr_X2_become (Q : ab_R) : ab_K := ab_Run zg_X2_become zp_X2_become none 3 Q
set_option maxRecDepth 20000 in
theorem zv_X2_become_0 {Q : ab_R} {M : ab_M} {N : ab_N} (l2 : Int32) (h : zt_acopy zw_C [.ref 19, .int (0 : Int32), .ref 13, .int (0 : Int32), .int l2] M N (fun r M2 N2 => zr_X2_become Q 14 [some (.ref 1), some (.ref 12), some (.int l2)] (ab_ol r []) M2 N2)) : zr_X2_become Q 0 [some (.ref 1), some (.ref 12), some (.int l2)] [] M N := ab_Run_s zm_X2_become (sp := [(14, [true, true, true]), (28, [true, true, true]), (42, [true, true, true]), (56, [true, true, false]), (70, [true, true, false]), (85, [true, true, false])]) 55 h
set_option maxRecDepth 20000 in
theorem zv_X2_become_14 {Q : ab_R} {M : ab_M} {N : ab_N} (l2 : Int32) (h : zt_acopy zw_C [.ref 20, .int (0 : Int32), .ref 14, .int (0 : Int32), .int l2] M N (fun r M2 N2 => zr_X2_become Q 28 [some (.ref 1), some (.ref 12), some (.int l2)] (ab_ol r []) M2 N2)) : zr_X2_become Q 14 [some (.ref 1), some (.ref 12), some (.int l2)] [] M N := ab_Run_s zm_X2_become (sp := [(14, [true, true, true]), (28, [true, true, true]), (42, [true, true, true]), (56, [true, true, false]), (70, [true, true, false]), (85, [true, true, false])]) 55 h
set_option maxRecDepth 20000 in
theorem zv_X2_become_28 {Q : ab_R} {M : ab_M} {N : ab_N} (l2 : Int32) (h : zt_acopy zw_C [.ref 21, .int (0 : Int32), .ref 15, .int (0 : Int32), .int l2] M N (fun r M2 N2 => zr_X2_become Q 42 [some (.ref 1), some (.ref 12), some (.int l2)] (ab_ol r []) M2 N2)) : zr_X2_become Q 28 [some (.ref 1), some (.ref 12), some (.int l2)] [] M N := ab_Run_s zm_X2_become (sp := [(14, [true, true, true]), (28, [true, true, true]), (42, [true, true, true]), (56, [true, true, false]), (70, [true, true, false]), (85, [true, true, false])]) 55 h
set_option maxRecDepth 20000 in
theorem zv_X2_become_42 {Q : ab_R} {M : ab_M} {N : ab_N} (l2 : Int32) (h : zt_acopy zw_C [.ref 22, .int (0 : Int32), .ref 16, .int (0 : Int32), .int l2] M N (fun r M2 N2 => zr_X2_become Q 56 [some (.ref 1), some (.ref 12), none] (ab_ol r []) M2 N2)) : zr_X2_become Q 42 [some (.ref 1), some (.ref 12), some (.int l2)] [] M N := ab_Run_s zm_X2_become (sp := [(14, [true, true, true]), (28, [true, true, true]), (42, [true, true, true]), (56, [true, true, false]), (70, [true, true, false]), (85, [true, true, false])]) 55 h
set_option maxRecDepth 20000 in
theorem zv_X2_become_56 {Q : ab_R} {M : ab_M} {N : ab_N}  (h : zt_acopy zw_C [.ref 23, .int (0 : Int32), .ref 17, .int (0 : Int32), .int (5 : Int32)] M N (fun r M2 N2 => zr_X2_become Q 70 [some (.ref 1), some (.ref 12), none] (ab_ol r []) M2 N2)) : zr_X2_become Q 56 [some (.ref 1), some (.ref 12), none] [] M N := ab_Run_s zm_X2_become (sp := [(14, [true, true, true]), (28, [true, true, true]), (42, [true, true, true]), (56, [true, true, false]), (70, [true, true, false]), (85, [true, true, false])]) 55 h
set_option maxRecDepth 20000 in
theorem zv_X2_become_70 {Q : ab_R} {M : ab_M} {N : ab_N}  (h : zt_acopy zw_C [.ref 24, .int (0 : Int32), .ref 18, .int (0 : Int32), .int (12 : Int32)] M N (fun r M2 N2 => zr_X2_become Q 85 [some (.ref 1), some (.ref 12), none] (ab_ol r []) M2 N2)) : zr_X2_become Q 70 [some (.ref 1), some (.ref 12), none] [] M N := ab_Run_s zm_X2_become (sp := [(14, [true, true, true]), (28, [true, true, true]), (42, [true, true, true]), (56, [true, true, false]), (70, [true, true, false]), (85, [true, true, false])]) 55 h
set_option maxRecDepth 20000 in
theorem zv_X2_become_85 {Q : ab_R} {M : ab_M} {N : ab_N}  (h : let z1 : Nat → Int32 := upd (M 1) 7 (M 12 7); Q none (ab_u M 1 z1) N) : zr_X2_become Q 85 [some (.ref 1), some (.ref 12), none] [] M N := ab_Run_s zm_X2_become (sp := [(14, [true, true, true]), (28, [true, true, true]), (42, [true, true, true]), (56, [true, true, false]), (70, [true, true, false]), (85, [true, true, false])]) 55 h
abbrev zr_X2_becomeI (Q : ab_R) : ab_K := zr_X2_become Q
set_option maxRecDepth 20000 in
theorem zv_X2_becomeI_0 {Q : ab_R} {M : ab_M} {N : ab_N} (l2 : Int32) (h : zt_acopy zw_C [.ref 13, .int (0 : Int32), .ref 19, .int (0 : Int32), .int l2] M N (fun r M2 N2 => zr_X2_becomeI Q 14 [some (.ref 12), some (.ref 1), some (.int l2)] (ab_ol r []) M2 N2)) : zr_X2_becomeI Q 0 [some (.ref 12), some (.ref 1), some (.int l2)] [] M N := ab_Run_s zm_X2_become (sp := [(14, [true, true, true]), (28, [true, true, true]), (42, [true, true, true]), (56, [true, true, false]), (70, [true, true, false]), (85, [true, true, false])]) 55 h
set_option maxRecDepth 20000 in
theorem zv_X2_becomeI_14 {Q : ab_R} {M : ab_M} {N : ab_N} (l2 : Int32) (h : zt_acopy zw_C [.ref 14, .int (0 : Int32), .ref 20, .int (0 : Int32), .int l2] M N (fun r M2 N2 => zr_X2_becomeI Q 28 [some (.ref 12), some (.ref 1), some (.int l2)] (ab_ol r []) M2 N2)) : zr_X2_becomeI Q 14 [some (.ref 12), some (.ref 1), some (.int l2)] [] M N := ab_Run_s zm_X2_become (sp := [(14, [true, true, true]), (28, [true, true, true]), (42, [true, true, true]), (56, [true, true, false]), (70, [true, true, false]), (85, [true, true, false])]) 55 h
set_option maxRecDepth 20000 in
theorem zv_X2_becomeI_28 {Q : ab_R} {M : ab_M} {N : ab_N} (l2 : Int32) (h : zt_acopy zw_C [.ref 15, .int (0 : Int32), .ref 21, .int (0 : Int32), .int l2] M N (fun r M2 N2 => zr_X2_becomeI Q 42 [some (.ref 12), some (.ref 1), some (.int l2)] (ab_ol r []) M2 N2)) : zr_X2_becomeI Q 28 [some (.ref 12), some (.ref 1), some (.int l2)] [] M N := ab_Run_s zm_X2_become (sp := [(14, [true, true, true]), (28, [true, true, true]), (42, [true, true, true]), (56, [true, true, false]), (70, [true, true, false]), (85, [true, true, false])]) 55 h
set_option maxRecDepth 20000 in
theorem zv_X2_becomeI_42 {Q : ab_R} {M : ab_M} {N : ab_N} (l2 : Int32) (h : zt_acopy zw_C [.ref 16, .int (0 : Int32), .ref 22, .int (0 : Int32), .int l2] M N (fun r M2 N2 => zr_X2_becomeI Q 56 [some (.ref 12), some (.ref 1), none] (ab_ol r []) M2 N2)) : zr_X2_becomeI Q 42 [some (.ref 12), some (.ref 1), some (.int l2)] [] M N := ab_Run_s zm_X2_become (sp := [(14, [true, true, true]), (28, [true, true, true]), (42, [true, true, true]), (56, [true, true, false]), (70, [true, true, false]), (85, [true, true, false])]) 55 h
set_option maxRecDepth 20000 in
theorem zv_X2_becomeI_56 {Q : ab_R} {M : ab_M} {N : ab_N}  (h : zt_acopy zw_C [.ref 17, .int (0 : Int32), .ref 23, .int (0 : Int32), .int (5 : Int32)] M N (fun r M2 N2 => zr_X2_becomeI Q 70 [some (.ref 12), some (.ref 1), none] (ab_ol r []) M2 N2)) : zr_X2_becomeI Q 56 [some (.ref 12), some (.ref 1), none] [] M N := ab_Run_s zm_X2_become (sp := [(14, [true, true, true]), (28, [true, true, true]), (42, [true, true, true]), (56, [true, true, false]), (70, [true, true, false]), (85, [true, true, false])]) 55 h
set_option maxRecDepth 20000 in
theorem zv_X2_becomeI_70 {Q : ab_R} {M : ab_M} {N : ab_N}  (h : zt_acopy zw_C [.ref 18, .int (0 : Int32), .ref 24, .int (0 : Int32), .int (12 : Int32)] M N (fun r M2 N2 => zr_X2_becomeI Q 85 [some (.ref 12), some (.ref 1), none] (ab_ol r []) M2 N2)) : zr_X2_becomeI Q 70 [some (.ref 12), some (.ref 1), none] [] M N := ab_Run_s zm_X2_become (sp := [(14, [true, true, true]), (28, [true, true, true]), (42, [true, true, true]), (56, [true, true, false]), (70, [true, true, false]), (85, [true, true, false])]) 55 h
set_option maxRecDepth 20000 in
theorem zv_X2_becomeI_85 {Q : ab_R} {M : ab_M} {N : ab_N}  (h : let z1 : Nat → Int32 := upd (M 12) 7 (M 1 7); Q none (ab_u M 12 z1) N) : zr_X2_becomeI Q 85 [some (.ref 12), some (.ref 1), none] [] M N := ab_Run_s zm_X2_become (sp := [(14, [true, true, true]), (28, [true, true, true]), (42, [true, true, true]), (56, [true, true, false]), (70, [true, true, false]), (85, [true, true, false])]) 55 h
theorem zE_X2_become (as : List Value) (M : ab_M) (N : ab_N) (k : ab_R) (hT : zt_X2_become as M N k) : ab_cs as ≤ 3 ∧ zr_X2_become k 0 (ab_en as) [] M N := by
  unfold zt_X2_become at hT
  split at hT
  · rename_i a b n
    obtain ⟨⟨h0, h8⟩, ⟨rfl, rfl, hk⟩ | ⟨rfl, rfl, hk⟩⟩ := hT
    · refine ⟨Nat.le_of_ble_eq_true rfl, zv_X2_become_0 _ ⟨⟨by decide, by decide, h0, by simpa using h8, by simpa using h8⟩, ?_⟩⟩
      refine zv_X2_become_14 _ ⟨⟨by decide, by decide, h0, by simpa using h8, by simpa using h8⟩, ?_⟩
      refine zv_X2_become_28 _ ⟨⟨by decide, by decide, h0, by simpa using h8, by simpa using h8⟩, ?_⟩
      refine zv_X2_become_42 _ ⟨⟨by decide, by decide, h0, by simpa using h8, by simpa using h8⟩, ?_⟩
      refine zv_X2_become_56 ⟨⟨by decide, by decide, by decide, by decide, by decide⟩, ?_⟩
      refine zv_X2_become_70 ⟨⟨by decide, by decide, by decide, by decide, by decide⟩, ?_⟩
      exact zv_X2_become_85 hk
    · refine ⟨Nat.le_of_ble_eq_true rfl, zv_X2_becomeI_0 _ ⟨⟨by decide, by decide, h0, by simpa using h8, by simpa using h8⟩, ?_⟩⟩
      refine zv_X2_becomeI_14 _ ⟨⟨by decide, by decide, h0, by simpa using h8, by simpa using h8⟩, ?_⟩
      refine zv_X2_becomeI_28 _ ⟨⟨by decide, by decide, h0, by simpa using h8, by simpa using h8⟩, ?_⟩
      refine zv_X2_becomeI_42 _ ⟨⟨by decide, by decide, h0, by simpa using h8, by simpa using h8⟩, ?_⟩
      refine zv_X2_becomeI_56 ⟨⟨by decide, by decide, by decide, by decide, by decide⟩, ?_⟩
      refine zv_X2_becomeI_70 ⟨⟨by decide, by decide, by decide, by decide, by decide⟩, ?_⟩
      exact zv_X2_becomeI_85 hk
  · exact hT.elim
abbrev zR_X2_become : Room := { frames := 1, cells := 0, slots := 0, locals := 26 }
set_option maxRecDepth 20000 in
theorem zM_X2_become (l : Launch) : ab_Met l zw_C vwCl zZ_C yX2_become cX2_become 3 none zR_X2_become zt_X2_become := ab_ofRun (G := zg_X2_become) (P := zp_X2_become) rfl zo_X2_become (by decide +kernel) zl_cl zl_lamC zf_X2_ok zs_tabOK ab_Cst_nil ab_Sta_nil (List.forall_mem_nil _) (List.forall_mem_cons.mpr ⟨ab_callCopy (ab_in 912 (by decide +kernel) rfl) (ab_in 914 (by decide +kernel) rfl) (ab_in 913 (by decide +kernel) rfl) (ab_in 20 (by decide +kernel) rfl) (by decide) (by decide), List.forall_mem_nil _⟩) zE_X2_become
