/-! the constructor of the reference *)
-/
def zp_X12_init : ab_P := [(404, .aload_n 0, 405, [0], []),
  (405, .iconst 0, 406, [], [0]),
  (406, .iconst 0, 407, [], [0]),
  (407, .ldc 163, 409, [], []),
  (409, .bipush 18, 411, [], [18]),
  (411, .iconst 1, 412, [], [1]),
  (412, .invokevirtual 164, 415, [], []),
  (415, .aload_n 0, 416, [0], []),
  (416, .iconst 4, 417, [], [4]),
  (417, .ldc 168, 419, [], []),
  (419, .bipush 18, 421, [], [18]),
  (421, .bipush 16, 423, [], [16]),
  (423, .iconst 3, 424, [], [3]),
  (424, .invokevirtual 164, 427, [], []),
  (427, .aload_n 0, 428, [0], []),
  (428, .bipush 8, 430, [], [8]),
  (430, .bipush 16, 432, [], [16]),
  (432, .ldc 169, 434, [], []),
  (434, .iconst 3, 435, [], [3]),
  (435, .ldc 170, 437, [], []),
  (437, .invokevirtual 164, 440, [], []),
  (440, .aload_n 0, 441, [0], []),
  (441, .bipush 12, 443, [], [12]),
  (443, .bipush 18, 445, [], [18]),
  (445, .bipush 16, 447, [], [16]),
  (447, .iconst 5, 448, [], [5]),
  (448, .ldc 171, 450, [], []),
  (450, .invokevirtual 164, 453, [], []),
  (453, .aload_n 0, 454, [0], []),
  (454, .bipush 16, 456, [], [16]),
  (456, .bipush 18, 458, [], [18]),
  (458, .bipush 17, 460, [], [17]),
  (460, .iconst 3, 461, [], [3]),
  (461, .iconst 4, 462, [], [4]),
  (462, .invokevirtual 164, 465, [], []),
  (465, .aload_n 0, 466, [0], []),
  (466, .getfield 62, 469, [], []),
  (469, .bipush 20, 471, [], [20]),
  (471, .bipush 18, 473, [], [18]),
  (473, .iastore, 474, [], []),
  (474, .aload_n 0, 475, [0], []),
  (475, .getfield 65, 478, [], []),
  (478, .iconst 1, 479, [], [1]),
  (479, .bipush 9, 481, [], [9]),
  (481, .iastore, 482, [], []),
  (482, .aload_n 0, 483, [0], []),
  (483, .getfield 65, 486, [], []),
  (486, .iconst 2, 487, [], [2]),
  (487, .bipush 18, 489, [], [18]),
  (489, .iastore, 490, [], []),
  (490, .aload_n 0, 491, [0], []),
  (491, .getfield 65, 494, [], []),
  (494, .iconst 3, 495, [], [3]),
  (495, .bipush 21, 497, [], [21]),
  (497, .iastore, 498, [], []),
  (498, .return_, 499, [], [])]
theorem zo_X12_init : ab_ok cX12_init zp_X12_init = true := by decide +kernel
def zg_X12_init : ab_G := (zw_M, [], zf_X12, zc_X12, [], [(164, 6, zt_X12_first)], [])
theorem zm_X12_init : ab_MG zg_X12_init := ab_MGof (List.forall_mem_cons.mpr ⟨zt_X12_first_mono, List.forall_mem_nil _⟩) (List.forall_mem_nil _)
abbrev zr_X12_init (Q : ab_R) : ab_K := ab_Run zg_X12_init zp_X12_init none 1 Q
set_option maxRecDepth 20000 in
theorem zv_X12_init_404 {Q : ab_R} {M : ab_M} {N : ab_N}  (h : zt_X12_first [.ref 0, .int (0 : Int32), .int (0 : Int32), .int (100004 : Int32), .int (18 : Int32), .int (1 : Int32)] M N (fun r M2 N2 => zr_X12_init Q 415 [some (.ref 0)] (ab_ol r []) M2 N2)) : zr_X12_init Q 404 [some (.ref 0)] [] M N := ab_Run_s zm_X12_init (sp := [(404, [true]), (415, [true]), (427, [true]), (440, [true]), (453, [true]), (465, [true])]) 58 h
set_option maxRecDepth 20000 in
theorem zv_X12_init_415 {Q : ab_R} {M : ab_M} {N : ab_N}  (h : zt_X12_first [.ref 0, .int (4 : Int32), .int (100020 : Int32), .int (18 : Int32), .int (16 : Int32), .int (3 : Int32)] M N (fun r M2 N2 => zr_X12_init Q 427 [some (.ref 0)] (ab_ol r []) M2 N2)) : zr_X12_init Q 415 [some (.ref 0)] [] M N := ab_Run_s zm_X12_init (sp := [(404, [true]), (415, [true]), (427, [true]), (440, [true]), (453, [true]), (465, [true])]) 58 h
set_option maxRecDepth 20000 in
theorem zv_X12_init_427 {Q : ab_R} {M : ab_M} {N : ab_N}  (h : zt_X12_first [.ref 0, .int (8 : Int32), .int (16 : Int32), .int (100030 : Int32), .int (3 : Int32), .int (100015 : Int32)] M N (fun r M2 N2 => zr_X12_init Q 440 [some (.ref 0)] (ab_ol r []) M2 N2)) : zr_X12_init Q 427 [some (.ref 0)] [] M N := ab_Run_s zm_X12_init (sp := [(404, [true]), (415, [true]), (427, [true]), (440, [true]), (453, [true]), (465, [true])]) 58 h
set_option maxRecDepth 20000 in
theorem zv_X12_init_440 {Q : ab_R} {M : ab_M} {N : ab_N}  (h : zt_X12_first [.ref 0, .int (12 : Int32), .int (18 : Int32), .int (16 : Int32), .int (5 : Int32), .int (100010 : Int32)] M N (fun r M2 N2 => zr_X12_init Q 453 [some (.ref 0)] (ab_ol r []) M2 N2)) : zr_X12_init Q 440 [some (.ref 0)] [] M N := ab_Run_s zm_X12_init (sp := [(404, [true]), (415, [true]), (427, [true]), (440, [true]), (453, [true]), (465, [true])]) 58 h
set_option maxRecDepth 20000 in
theorem zv_X12_init_453 {Q : ab_R} {M : ab_M} {N : ab_N}  (h : zt_X12_first [.ref 0, .int (16 : Int32), .int (18 : Int32), .int (17 : Int32), .int (3 : Int32), .int (4 : Int32)] M N (fun r M2 N2 => zr_X12_init Q 465 [some (.ref 0)] (ab_ol r []) M2 N2)) : zr_X12_init Q 453 [some (.ref 0)] [] M N := ab_Run_s zm_X12_init (sp := [(404, [true]), (415, [true]), (427, [true]), (440, [true]), (453, [true]), (465, [true])]) 58 h
set_option maxRecDepth 20000 in
theorem zv_X12_init_465 {Q : ab_R} {M : ab_M} {N : ab_N}  (h : vp_in (20 : Int32) 1200 ∧ (let z1 : Nat → Int32 := upd (M 13) 20 (18 : Int32); vp_in (1 : Int32) 24 ∧ (let z2 : Nat → Int32 := upd (M 14) 1 (9 : Int32); vp_in (2 : Int32) 24 ∧ (let z3 : Nat → Int32 := upd (z2) 2 (18 : Int32); vp_in (3 : Int32) 24 ∧ (let z4 : Nat → Int32 := upd (z3) 3 (21 : Int32); Q none (ab_u (ab_u (ab_u (ab_u M 13 z1) 14 z2) 14 z3) 14 z4) N))))) : zr_X12_init Q 465 [some (.ref 0)] [] M N := ab_Run_s zm_X12_init (sp := [(404, [true]), (415, [true]), (427, [true]), (440, [true]), (453, [true]), (465, [true])]) 58 h
abbrev zR_X12_init : Room := { frames := 1, cells := 33, slots := 2336, locals := 25 }
theorem zY_X12_init (l : Launch) : ab_Calls l RX12 zR_X12_init zw_M vwCl zZ_M .invokevirtual zg_X12_init.2.2.2.2.2.1 := List.forall_mem_cons.mpr ⟨ab_callV zZ_M_ok (zM_X12_first l) (ab_in 972 (by decide +kernel) rfl) (ab_in 969 (by decide +kernel) rfl) (ab_in 971 (by decide +kernel) rfl) (ab_inS (List.mem_of_getElem? (i := 26) (by decide +kernel)) rfl) (ab_in 17 (by decide +kernel) rfl) (by unfold ab_yok; decide +kernel) ⟨rfl, rfl⟩ (by decide) zV_X12_first, List.forall_mem_nil _⟩
theorem zYs_X12_init (l : Launch) : ab_Calls l RX12 zR_X12_init zw_M vwCl zZ_M .invokestatic zg_X12_init.2.2.2.2.2.2 := List.forall_mem_nil _
def zB12 : ab_M := fun k => match k with
  | 0 => upd (upd (upd (upd (upd (upd (upd (upd (upd (fun _ => 0) 0 8) 1 4) 3 4) 4 2) 5 (-1)) 23 1) 25 (-1)) 27 (-1)) 30 (-1)
  | 21 => (upd (upd (upd (upd (fun _ => 0) 0 (-1)) 1 (-1)) 2 (-1)) 3 (-1))
  | _ => fun _ => 0
def zJ12 : ab_N := fun k => match k with
  | 24 => (vp_updL (vp_updL (vp_updL (vp_updL (vp_updL (vp_updL (vp_updL (vp_updL (vp_updL (vp_updL (vp_updL (vp_updL (fun _ => 0) 0 1919513451) 1 1936024942) 2 1751216749) 3 512736126322) 4 7302244) 5 2003398244) 6 1937007984) 7 512970880104) 8 1885430629) 9 28530) 10 6385252) 11 7237492)
  | _ => fun _ => 0
set_option maxHeartbeats 4000000 in
set_option maxRecDepth 100000 in
theorem zEw_X12 (ad0 : Nat → Nat) (cy : FieldType → ClassId) (h0 w1 w2 w3 w4 w5 w6 w7 w8 w9 w10 w11 w12 w13 w14 w15 w16 w17 w18 w19 w20 w21 w22 w23 w24 w25 w26 w27 w28 w29 w30 w31 w32 w33 : Nat) : ab_w zw_M (fun k => (([h0, w1, w2, w3, w4, w5, w6, w7, w8, w9, w10, w11, w12, w13, w14, w15, w16, w17, w18, w19, w20, w21, w22, w23, w24, w25, w26, w27, w28, w29, w30, w31, w32, w33] : List Nat)[k]?).getD (ad0 k)) cy zB12 zJ12 = [(h0, .inr (12, [.int 8, .int 4, .int 0, .int 4, .int 2, .int (-1), .ref w1, .int 0, .ref w2, .ref w3, .ref w4, .ref w5, .int 0, .ref w6, .ref w7, .ref w8, .ref w9, .ref w10, .ref w11, .ref w12, .int 0, .ref w13, .ref w14, .int 1, .int 0, .int (-1), .int 0, .int (-1), .int 0, .int 0, .int (-1), .int 0, .int 0, .int 0, .int 0, .int 0, .int 0, .int 0, .int 0, .int 0, .int 0, .ref w15, .ref w16, .ref w17, .ref w18, .ref w19, .ref w20, .ref w21, .ref w22, .ref w23, .int 0, .int 0, .int 0, .int 0, .ref w24, .ref w25, .int 0, .int 0, .int 0, .ref w26, .ref w27, .ref w28, .ref w29, .ref w30, .ref w31, .ref w32, .long 0, .long 0, .long 0, .ref w33, .long 0, .int 0])), (w1, .inl (cy .int, 12, .inl (fun _ => 0))), (w2, .inl (cy .int, 8, .inl (fun _ => 0))), (w3, .inl (cy .int, 8, .inl (fun _ => 0))), (w4, .inl (cy .int, 8, .inl (fun _ => 0))), (w5, .inl (cy .int, 8, .inl (fun _ => 0))), (w6, .inl (cy .int, 5, .inl (fun _ => 0))), (w7, .inl (cy .int, 5, .inl (fun _ => 0))), (w8, .inl (cy .int, 5, .inl (fun _ => 0))), (w9, .inl (cy .int, 5, .inl (fun _ => 0))), (w10, .inl (cy .int, 5, .inl (fun _ => 0))), (w11, .inl (cy .int, 60, .inl (fun _ => 0))), (w12, .inl (cy .int, 160, .inl (fun _ => 0))), (w13, .inl (cy .int, 1200, .inl (fun _ => 0))), (w14, .inl (cy .int, 24, .inl (fun _ => 0))), (w15, .inl (cy .int, 12, .inl (fun _ => 0))), (w16, .inl (cy .int, 8, .inl (fun _ => 0))), (w17, .inl (cy .int, 8, .inl (fun _ => 0))), (w18, .inl (cy .int, 8, .inl (fun _ => 0))), (w19, .inl (cy .int, 8, .inl (fun _ => 0))), (w20, .inl (cy .int, 5, .inl (fun _ => 0))), (w21, .inl (cy .int, 4, .inl (upd (upd (upd (upd (fun _ => 0) 0 (-1)) 1 (-1)) 2 (-1)) 3 (-1)))), (w22, .inl (cy .int, 4, .inl (fun _ => 0))), (w23, .inl (cy .int, 160, .inl (fun _ => 0))), (w24, .inl (cy .long, 12, .inr (.inl (vp_updL (vp_updL (vp_updL (vp_updL (vp_updL (vp_updL (vp_updL (vp_updL (vp_updL (vp_updL (vp_updL (vp_updL (fun _ => 0) 0 1919513451) 1 1936024942) 2 1751216749) 3 512736126322) 4 7302244) 5 2003398244) 6 1937007984) 7 512970880104) 8 1885430629) 9 28530) 10 6385252) 11 7237492)))), (w25, .inl (cy .int, 200, .inl (fun _ => 0))), (w26, .inl (cy .int, 200, .inl (fun _ => 0))), (w27, .inl (cy .int, 6, .inl (fun _ => 0))), (w28, .inl (cy .int, 60, .inl (fun _ => 0))), (w29, .inl (cy .int, 12, .inl (fun _ => 0))), (w30, .inl (cy .int, 96, .inl (fun _ => 0))), (w31, .inl (cy .boolean, 5, .inl (fun _ => 0))), (w32, .inl (cy .long, 7, .inr (.inl (fun _ => 0)))), (w33, .inl (cy .int, 8, .inl (fun _ => 0)))] := by
  rw [zWl_eq]
  rfl
