/-! image, back *)
-/
theorem zCpy_0 (f g : Nat → Int32) : va_cpy f g 0 0 0 = g := funext fun j => if_neg (by omega)
theorem zCpy_s (f g : Nat → Int32) (i : Nat) : upd (va_cpy f g 0 0 i) i (f i) = va_cpy f g 0 0 (i + 1) := funext fun j => by
  by_cases e : j = i
  · rw [e, upd_eq]
    unfold va_cpy
    rw [if_pos (by omega), show 0 + (i - 0) = i by omega]
  · rw [upd_ne _ _ e]
    unfold va_cpy
    by_cases q : 0 ≤ j ∧ j < 0 + i
    · rw [if_pos q, if_pos (by omega)]
    · rw [if_neg q, if_neg (by omega)]
theorem zCpy_lt {f g : Nat → Int32} {n j : Nat} (h : j < n) : va_cpy f g 0 0 n j = f j := by
  unfold va_cpy
  rw [if_pos (by omega), show 0 + (j - 0) = j by omega]
theorem zCpy_ge {f g : Nat → Int32} {n j : Nat} (h : ¬ j < n) : va_cpy f g 0 0 n j = g j := by
  unfold va_cpy
  rw [if_neg (by omega)]
theorem zCpy_eq {f f2 g : Nat → Int32} {n : Nat} (h : ∀ j, j < n → f j = f2 j) : va_cpy f g 0 0 n = va_cpy f2 g 0 0 n := funext fun j => by
  by_cases q : j < n
  · rw [zCpy_lt q, zCpy_lt q, h j q]
  · rw [zCpy_ge q, zCpy_ge q]
/-- what the class keeps -/
def zImC (M M2 : ab_M) : Prop := zFr [10, 12, 19, 20, 21, 22, 23, 24, 46] M M2 ∧ (M2 12 4 = M 1 4 ∧ M2 12 7 = M 1 7) ∧ (M2 10 2 = M 2 6 ∧ M2 10 3 = M 3 3 ∧ M2 10 4 = 1) ∧ (∀ j : Nat, j < zPcs M → M2 19 j = M 13 j ∧ M2 20 j = M 14 j ∧ M2 21 j = M 15 j ∧ M2 22 j = M 16 j) ∧ (∀ j : Nat, j < 5 → M2 23 j = M 17 j) ∧ (∀ j : Nat, j < 12 → M2 24 j = M 18 j) ∧ ∀ j : Nat, j < 5 → M2 46 j = M 28 j
def zt_X11_image : ab_T := ab_m0 0 (fun M _ => zI0 M) (fun M N o M2 N2 => N2 = N ∧ o = some (.int (M 1 4)) ∧ zImC M M2)
theorem zt_X11_image_mono : ab_mono zt_X11_image := ab_m0_mono _ _ _
theorem zV_X11_image : ab_recv zw_C vwCl RX11 zt_X11_image := ab_m0_v rfl rfl
def zp_X11_image : ab_P := [(0, .aload_n 0, 1, [0], []),
  (1, .getfield 83, 4, [], []),
  (4, .getfield 307, 7, [], []),
  (7, .aload_n 0, 8, [0], []),
  (8, .getfield 10, 11, [], []),
  (11, .getfield 121, 14, [], []),
  (14, .putfield 121, 17, [], []),
  (17, .aload_n 0, 18, [0], []),
  (18, .getfield 83, 21, [], []),
  (21, .getfield 307, 24, [], []),
  (24, .aload_n 0, 25, [0], []),
  (25, .getfield 10, 28, [], []),
  (28, .aload_n 0, 29, [0], []),
  (29, .getfield 10, 32, [], []),
  (32, .getfield 121, 35, [], []),
  (35, .invokevirtual 308, 38, [], []),
  (38, .aload_n 0, 39, [0], []),
  (39, .getfield 19, 42, [], []),
  (42, .getfield 180, 45, [], []),
  (45, .iconst 0, 46, [], [0]),
  (46, .aload_n 0, 47, [0], []),
  (47, .getfield 83, 50, [], []),
  (50, .getfield 312, 53, [], []),
  (53, .iconst 0, 54, [], [0]),
  (54, .iconst 5, 55, [], [5]),
  (55, .invokestatic 313, 58, [], []),
  (58, .aload_n 0, 59, [0], []),
  (59, .getfield 83, 62, [], []),
  (62, .aload_n 0, 63, [0], []),
  (63, .getfield 19, 66, [], []),
  (66, .getfield 156, 69, [], []),
  (69, .putfield 319, 72, [], []),
  (72, .aload_n 0, 73, [0], []),
  (73, .getfield 83, 76, [], []),
  (76, .aload_n 0, 77, [0], []),
  (77, .getfield 26, 80, [], []),
  (80, .getfield 160, 83, [], []),
  (83, .putfield 321, 86, [], []),
  (86, .aload_n 0, 87, [0], []),
  (87, .getfield 83, 90, [], []),
  (90, .iconst 1, 91, [], [1]),
  (91, .putfield 322, 94, [], []),
  (94, .aload_n 0, 95, [0], []),
  (95, .getfield 10, 98, [], []),
  (98, .getfield 121, 101, [], []),
  (101, .ireturn, 102, [], [])]
theorem zo_X11_image : ab_ok cX11_image zp_X11_image = true := by decide +kernel
def zg_X11_image : ab_G := (zw_C, zs_tab, zf_X11, zc_X11, [(144, 50), (147, 51)], [(308, 3, zt_X2_become)], [(313, 5, zt_acopy zw_C)])
theorem zm_X11_image : ab_MG zg_X11_image := ab_MGof (List.forall_mem_cons.mpr ⟨zt_X2_become_mono, List.forall_mem_nil _⟩) (List.forall_mem_cons.mpr ⟨zt_acopy_mono _, List.forall_mem_nil _⟩)
abbrev zr_X11_image (Q : ab_R) : ab_K := ab_Run zg_X11_image zp_X11_image (some .int) 1 Q
set_option maxRecDepth 20000 in
theorem zv_X11_image_0 {Q : ab_R} {M : ab_M} {N : ab_N}  (h : let z1 : Nat → Int32 := upd (M 12) 4 (M 1 4); zt_X2_become [.ref 12, .ref 1, .int (M 1 4)] (ab_u M 12 z1) N (fun r M2 N2 => zr_X11_image Q 38 [some (.ref 0)] (ab_ol r []) M2 N2)) : zr_X11_image Q 0 [some (.ref 0)] [] M N := ab_Run_s zm_X11_image (sp := [(38, [true]), (58, [true])]) 48 h
set_option maxRecDepth 20000 in
theorem zv_X11_image_38 {Q : ab_R} {M : ab_M} {N : ab_N}  (h : zt_acopy zw_C [.ref 28, .int (0 : Int32), .ref 46, .int (0 : Int32), .int (5 : Int32)] M N (fun r M2 N2 => zr_X11_image Q 58 [some (.ref 0)] (ab_ol r []) M2 N2)) : zr_X11_image Q 38 [some (.ref 0)] [] M N := ab_Run_s zm_X11_image (sp := [(38, [true]), (58, [true])]) 48 h
set_option maxRecDepth 20000 in
theorem zv_X11_image_58 {Q : ab_R} {M : ab_M} {N : ab_N}  (h : let z1 : Nat → Int32 := upd (M 10) 2 (M 2 6); let z2 : Nat → Int32 := upd (z1) 3 (M 3 3); (narrow .boolean (.int (1 : Int32)) = .int (1 : Int32) ∧ fits .boolean (.int (1 : Int32)) = true) ∧ (let z3 : Nat → Int32 := upd (z2) 4 (1 : Int32); Q (some (.int (M 1 4))) (ab_u (ab_u (ab_u M 10 z1) 10 z2) 10 z3) N)) : zr_X11_image Q 58 [some (.ref 0)] [] M N := ab_Run_s zm_X11_image (sp := [(38, [true]), (58, [true])]) 48 h
theorem zE_X11_image (as : List Value) (M : ab_M) (N : ab_N) (k : ab_R) (hT : zt_X11_image as M N k) : ab_cs as ≤ 1 ∧ zr_X11_image k 0 (ab_en as) [] M N := by
  obtain ⟨rfl, h0, hk⟩ := ab_m0_e hT
  obtain ⟨n7, p8⟩ := zP_eq h0
  refine ⟨Nat.le_of_ble_eq_true rfl, zv_X11_image_0 ?_⟩
  intro z1
  have c7 : (M 1 4).toNatClampNeg = zPcs M := rfl
  refine ⟨⟨Int32.not_lt.mpr h0.2.2.2.2.2.1.1, by rw [c7]; exact p8⟩, Or.inr ⟨rfl, rfl, ?_⟩⟩
  refine zv_X11_image_38 ⟨⟨by decide, by decide, by decide, by decide, by decide⟩, ?_⟩
  refine zv_X11_image_58 ?_
  intro y1 y2
  refine ⟨by decide, ?_⟩
  intro y3
  rw [c7]
  have go : ∀ M2 : ab_M, zImC M M2 → k (some (.int (M 1 4))) M2 N := fun M2 h => hk _ _ _ ⟨rfl, rfl, h⟩
  refine go _ ⟨fun c hc => ?_, ⟨?_, ?_⟩, ⟨?_, ?_, ?_⟩, fun j hj => ⟨?_, ?_, ?_, ?_⟩, fun j hj => ?_, fun j hj => ?_, fun j hj => ?_⟩
  · simp only [List.mem_cons, List.not_mem_nil, or_false, not_or] at hc
    obtain ⟨a1, a2, a3, a4, a5, a6, a7, a8, a9⟩ := hc
    simp only [zBec, zCp]
    rw [ab_u_ne _ _ a1, ab_u_ne _ _ a1, ab_u_ne _ _ a1, ab_u_ne _ _ a9, ab_u_ne _ _ a2, ab_u_ne _ _ a8, ab_u_ne _ _ a7, ab_u_ne _ _ a6, ab_u_ne _ _ a5, ab_u_ne _ _ a4, ab_u_ne _ _ a3, ab_u_ne _ _ a2]
  · simp [zBec, zCp, ab_u, z1, upd]
  · simp [zBec, zCp, ab_u, z1, upd]
  · simp [zBec, zCp, ab_u, y1, y2, y3, upd]
  · simp [zBec, zCp, ab_u, y1, y2, y3, upd]
  · simp [zBec, zCp, ab_u, y1, y2, y3, upd]
  · simp [zBec, zCp, ab_u, zCpy_lt hj]
  · simp [zBec, zCp, ab_u, zCpy_lt hj]
  · simp [zBec, zCp, ab_u, zCpy_lt hj]
  · simp [zBec, zCp, ab_u, zCpy_lt hj]
  · simp [zBec, zCp, ab_u, zCpy_lt hj]
  · simp [zBec, zCp, ab_u, zCpy_lt hj]
  · simp [zBec, zCp, ab_u, zCpy_lt hj]
abbrev zR_X11_image : Room := { frames := 2, cells := 0, slots := 0, locals := 48 }
set_option maxRecDepth 20000 in
theorem zM_X11_image (l : Launch) : ab_Met l zw_C vwCl zZ_C yX11_image cX11_image 1 (some .int) zR_X11_image zt_X11_image := ab_ofRun (G := zg_X11_image) (P := zp_X11_image) rfl zo_X11_image (by decide +kernel) zl_cl zl_lamC zf_X11_ok zs_tabOK zc_X11_ok zs_X11_ok (List.forall_mem_cons.mpr ⟨ab_callV zZ_C_ok (zM_X2_become l) (ab_in 911 (by decide +kernel) rfl) (ab_in 908 (by decide +kernel) rfl) (ab_in 909 (by decide +kernel) rfl) (ab_in 910 (by decide +kernel) rfl) (ab_in 2 (by decide +kernel) rfl) (by unfold ab_yok; decide +kernel) ⟨rfl, rfl⟩ (by decide) zV_X2_become, List.forall_mem_nil _⟩) (List.forall_mem_cons.mpr ⟨ab_callCopy (ab_in 915 (by decide +kernel) rfl) (ab_in 914 (by decide +kernel) rfl) (ab_in 913 (by decide +kernel) rfl) (ab_in 20 (by decide +kernel) rfl) (by decide) (by decide), List.forall_mem_nil _⟩) zE_X11_image
/-- what the class has back -/
def zBkC (M M2 : ab_M) (np nm : Nat) : Prop := zFr [1, 3, 5, 13, 14, 15, 16, 17, 18, 28] M M2 ∧ (M2 1 = upd (M 1) 7 (M 12 7) ∧ M2 3 = upd (M 3) 3 (M 10 3) ∧ M2 5 = upd (M 5) 4 (M 5 4 + 1)) ∧ (M2 13 = va_cpy (M 19) (M 13) 0 0 np ∧ M2 14 = va_cpy (M 20) (M 14) 0 0 np ∧ M2 15 = va_cpy (M 21) (M 15) 0 0 np ∧ M2 16 = va_cpy (M 22) (M 16) 0 0 np) ∧ M2 17 = va_cpy (M 23) (M 17) 0 0 5 ∧ M2 18 = va_cpy (M 24) (M 18) 0 0 12 ∧ M2 28 = va_cpy (M 46) (M 28) 0 0 nm
def zt_X11_back : ab_T := fun as M N k => match as with
  | [.ref q] => q = 0 ∧ (M 10 4 = 0 → k (some (.int (-3))) M N) ∧ (¬ M 10 4 = 0 → ∃ np nm : Nat, np ≤ 8 ∧ nm ≤ 5 ∧ M 12 4 = nI np ∧ M 10 2 = nI nm ∧ ∀ M2, zBkC M M2 np nm → k (some (.int (M 1 4))) M2 N)
  | _ => False
theorem zt_X11_back_mono : ab_mono zt_X11_back := fun as M N k k2 hk h => by
  unfold zt_X11_back at h ⊢
  split at h
  · obtain ⟨a, b, c⟩ := h
    refine ⟨a, fun z => hk _ _ _ (b z), fun z => ?_⟩
    obtain ⟨np, nm, c1, c2, c3, c4, c5⟩ := c z
    exact ⟨np, nm, c1, c2, c3, c4, fun M2 h => hk _ _ _ (c5 M2 h)⟩
  · exact h
theorem zV_X11_back : ab_recv zw_C vwCl RX11 zt_X11_back := fun as M N k h => by
  unfold zt_X11_back at h
  split at h
  · obtain ⟨rfl, -⟩ := h
    exact ⟨_, _, _, _, _, _, rfl, rfl, rfl⟩
  · exact h.elim
def zp_X11_back : ab_P := [(0, .aload_n 0, 1, [0], []),
  (1, .getfield 83, 4, [], []),
  (4, .getfield 322, 7, [], []),
  (7, .ifCond .ne 6, 10, [13], []),
  (10, .bipush (-3), 12, [], [(-3)]),
  (12, .ireturn, 13, [], []),
  (13, .aload_n 0, 14, [0], []),
  (14, .getfield 10, 17, [], []),
  (17, .aload_n 0, 18, [0], []),
  (18, .getfield 83, 21, [], []),
  (21, .getfield 307, 24, [], []),
  (24, .aload_n 0, 25, [0], []),
  (25, .getfield 83, 28, [], []),
  (28, .getfield 307, 31, [], []),
  (31, .getfield 121, 34, [], []),
  (34, .invokevirtual 308, 37, [], []),
  (37, .aload_n 0, 38, [0], []),
  (38, .getfield 83, 41, [], []),
  (41, .getfield 312, 44, [], []),
  (44, .iconst 0, 45, [], [0]),
  (45, .aload_n 0, 46, [0], []),
  (46, .getfield 19, 49, [], []),
  (49, .getfield 180, 52, [], []),
  (52, .iconst 0, 53, [], [0]),
  (53, .aload_n 0, 54, [0], []),
  (54, .getfield 83, 57, [], []),
  (57, .getfield 319, 60, [], []),
  (60, .invokestatic 313, 63, [], []),
  (63, .aload_n 0, 64, [0], []),
  (64, .getfield 26, 67, [], []),
  (67, .aload_n 0, 68, [0], []),
  (68, .getfield 83, 71, [], []),
  (71, .getfield 321, 74, [], []),
  (74, .putfield 160, 77, [], []),
  (77, .aload_n 0, 78, [0], []),
  (78, .getfield 44, 81, [], []),
  (81, .invokevirtual 124, 84, [], []),
  (84, .aload_n 0, 85, [0], []),
  (85, .getfield 10, 88, [], []),
  (88, .getfield 121, 91, [], []),
  (91, .ireturn, 92, [], [])]
theorem zo_X11_back : ab_ok cX11_back zp_X11_back = true := by decide +kernel
def zg_X11_back : ab_G := (zw_C, zs_tab, zf_X11, zc_X11, [(144, 50), (147, 51)], [(124, 1, zt_X1_forget), (308, 3, zt_X2_become)], [(313, 5, zt_acopy zw_C)])
theorem zm_X11_back : ab_MG zg_X11_back := ab_MGof (List.forall_mem_cons.mpr ⟨zt_X1_forget_mono, List.forall_mem_cons.mpr ⟨zt_X2_become_mono, List.forall_mem_nil _⟩⟩) (List.forall_mem_cons.mpr ⟨zt_acopy_mono _, List.forall_mem_nil _⟩)
abbrev zr_X11_back (Q : ab_R) : ab_K := ab_Run zg_X11_back zp_X11_back (some .int) 1 Q
set_option maxRecDepth 20000 in
theorem zv_X11_back_0 {Q : ab_R} {M : ab_M} {N : ab_N}  (h : ((M 10 4) = 0 → Q (some (.int (-3 : Int32))) M N) ∧ (¬ ((M 10 4) = 0) → zt_X2_become [.ref 1, .ref 12, .int (M 12 4)] M N (fun r M2 N2 => zr_X11_back Q 37 [some (.ref 0)] (ab_ol r []) M2 N2))) : zr_X11_back Q 0 [some (.ref 0)] [] M N := ab_Run_s zm_X11_back (sp := [(37, [true]), (63, [true]), (84, [true])]) 43 h
set_option maxRecDepth 20000 in
theorem zv_X11_back_37 {Q : ab_R} {M : ab_M} {N : ab_N}  (h : zt_acopy zw_C [.ref 46, .int (0 : Int32), .ref 28, .int (0 : Int32), .int (M 10 2)] M N (fun r M2 N2 => zr_X11_back Q 63 [some (.ref 0)] (ab_ol r []) M2 N2)) : zr_X11_back Q 37 [some (.ref 0)] [] M N := ab_Run_s zm_X11_back (sp := [(37, [true]), (63, [true]), (84, [true])]) 43 h
set_option maxRecDepth 20000 in
theorem zv_X11_back_63 {Q : ab_R} {M : ab_M} {N : ab_N}  (h : let z1 : Nat → Int32 := upd (M 3) 3 (M 10 3); zt_X1_forget [.ref 5] (ab_u M 3 z1) N (fun r M2 N2 => zr_X11_back Q 84 [some (.ref 0)] (ab_ol r []) M2 N2)) : zr_X11_back Q 63 [some (.ref 0)] [] M N := ab_Run_s zm_X11_back (sp := [(37, [true]), (63, [true]), (84, [true])]) 43 h
set_option maxRecDepth 20000 in
theorem zv_X11_back_84 {Q : ab_R} {M : ab_M} {N : ab_N}  (h : Q (some (.int (M 1 4))) M N) : zr_X11_back Q 84 [some (.ref 0)] [] M N := ab_Run_s zm_X11_back (sp := [(37, [true]), (63, [true]), (84, [true])]) 43 h
theorem zE_X11_back (as : List Value) (M : ab_M) (N : ab_N) (k : ab_R) (hT : zt_X11_back as M N k) : ab_cs as ≤ 1 ∧ zr_X11_back k 0 (ab_en as) [] M N := by
  unfold zt_X11_back at hT
  split at hT
  · obtain ⟨rfl, k0, kn⟩ := hT
    refine ⟨Nat.le_of_ble_eq_true rfl, zv_X11_back_0 ⟨k0, fun c => ?_⟩⟩
    obtain ⟨np, nm, p8, m5, ep, em, hk⟩ := kn c
    have cp : (nI np).toNatClampNeg = np := nI_clamp (by omega)
    have cm : (nI nm).toNatClampNeg = nm := nI_clamp (by omega)
    rw [ep]
    refine ⟨⟨Int32.not_lt.mpr (nI_pos' (by omega)), by rw [cp]; exact p8⟩, Or.inl ⟨rfl, rfl, ?_⟩⟩
    refine zv_X11_back_37 ?_
    rw [cp]
    have e10 : zBec 13 19 1 12 np M 10 2 = nI nm := by
      rw [← em]
      simp [zBec, zCp, ab_u]
    rw [e10]
    refine ⟨⟨by decide, by decide, Int32.not_lt.mpr (nI_pos' (by omega)), by rw [cm]; simpa using m5, by rw [cm]; simpa using m5⟩, ?_⟩
    rw [cm]
    refine zv_X11_back_63 ?_
    intro z1
    refine zFgC (zv_X11_back_84 ?_)
    have go : ∀ M2 : ab_M, zBkC M M2 np nm → k (some (.int (M2 1 4))) M2 N := fun M2 h => by
      have e : M2 1 4 = M 1 4 := by rw [h.2.1.1, upd_ne _ _ (by decide)]
      rw [e]
      exact hk M2 h
    refine go _ ⟨fun c hc => ?_, ⟨?_, ?_, ?_⟩, ⟨?_, ?_, ?_, ?_⟩, ?_, ?_, ?_⟩
    · simp only [List.mem_cons, List.not_mem_nil, or_false, not_or] at hc
      obtain ⟨a1, a2, a3, a4, a5, a6, a7, a8, a9, a10⟩ := hc
      simp only [zBec, zCp, zFg]
      rw [ab_u_ne _ _ a3, ab_u_ne _ _ a2, ab_u_ne _ _ a10, ab_u_ne _ _ a1, ab_u_ne _ _ a9, ab_u_ne _ _ a8, ab_u_ne _ _ a7, ab_u_ne _ _ a6, ab_u_ne _ _ a5, ab_u_ne _ _ a4]
    · simp [zBec, zCp, ab_u]
    · simp [zBec, zCp, ab_u, z1]
    · simp [zBec, zCp, ab_u]
    · simp [zBec, zCp, ab_u]
    · simp [zBec, zCp, ab_u]
    · simp [zBec, zCp, ab_u]
    · simp [zBec, zCp, ab_u]
    · simp [zBec, zCp, ab_u]
    · simp [zBec, zCp, ab_u]
    · simp [zBec, zCp, ab_u]
  · exact hT.elim
abbrev zR_X11_back : Room := { frames := 2, cells := 0, slots := 0, locals := 48 }
set_option maxRecDepth 20000 in
theorem zM_X11_back (l : Launch) : ab_Met l zw_C vwCl zZ_C yX11_back cX11_back 1 (some .int) zR_X11_back zt_X11_back := ab_ofRun (G := zg_X11_back) (P := zp_X11_back) rfl zo_X11_back (by decide +kernel) zl_cl zl_lamC zf_X11_ok zs_tabOK zc_X11_ok zs_X11_ok (List.forall_mem_cons.mpr ⟨ab_callV zZ_C_ok (zM_X1_forget l) (ab_in 542 (by decide +kernel) rfl) (ab_in 539 (by decide +kernel) rfl) (ab_in 540 (by decide +kernel) rfl) (ab_in 541 (by decide +kernel) rfl) (ab_in 6 (by decide +kernel) rfl) (by unfold ab_yok; decide +kernel) ⟨rfl, rfl⟩ (by decide) zV_X1_forget, List.forall_mem_cons.mpr ⟨ab_callV zZ_C_ok (zM_X2_become l) (ab_in 911 (by decide +kernel) rfl) (ab_in 908 (by decide +kernel) rfl) (ab_in 909 (by decide +kernel) rfl) (ab_in 910 (by decide +kernel) rfl) (ab_in 2 (by decide +kernel) rfl) (by unfold ab_yok; decide +kernel) ⟨rfl, rfl⟩ (by decide) zV_X2_become, List.forall_mem_nil _⟩⟩) (List.forall_mem_cons.mpr ⟨ab_callCopy (ab_in 915 (by decide +kernel) rfl) (ab_in 914 (by decide +kernel) rfl) (ab_in 913 (by decide +kernel) rfl) (ab_in 20 (by decide +kernel) rfl) (by decide) (by decide), List.forall_mem_nil _⟩) zE_X11_back
