/-! the constructor of the class *)
-/
def zp_X11_init : ab_P := [(173, .iconst 0, 174, [], [0]),
  (174, .istore_n 1, 175, [1], []),
  (175, .iload_n 1, 176, [1], []),
  (176, .ldc 94, 178, [], []),
  (178, .invokevirtual 96, 181, [], []),
  (181, .if_icmp .ge 22, 184, [203], []),
  (184, .aload_n 0, 185, [0], []),
  (185, .getfield 35, 188, [], []),
  (188, .ldc 94, 190, [], []),
  (190, .iload_n 1, 191, [1], []),
  (191, .invokevirtual 102, 194, [], []),
  (194, .invokevirtual 106, 197, [], []),
  (197, .iinc 1 1, 200, [], [1]),
  (200, .goto (-25), 203, [175], []),
  (203, .aload_n 0, 204, [0], []),
  (204, .getfield 35, 207, [], []),
  (207, .invokevirtual 110, 210, [], []),
  (210, .pop, 211, [], []),
  (211, .aload_n 0, 212, [0], []),
  (212, .getfield 35, 215, [], []),
  (215, .iconst 0, 216, [], [0]),
  (216, .putfield 113, 219, [], []),
  (219, .return_, 220, [], [])]
theorem zo_X11_init : ab_ok cX11_init zp_X11_init = true := by decide +kernel
def zg_X11_init : ab_G := (zw_C, zs_tab, zf_X11, zc_X11i, [(144, 50), (147, 51)], [(96, 1, zt_J0_length_8abf5), (102, 2, zt_J0_charAt_5068e), (106, 2, zt_X8_add), (110, 1, zt_X8_read)], [])
theorem zm_X11_init : ab_MG zg_X11_init := ab_MGof (List.forall_mem_cons.mpr ⟨zt_J0_length_8abf5_mono, List.forall_mem_cons.mpr ⟨zt_J0_charAt_5068e_mono, List.forall_mem_cons.mpr ⟨zt_X8_add_mono, List.forall_mem_cons.mpr ⟨zt_X8_read_mono, List.forall_mem_nil _⟩⟩⟩⟩) (List.forall_mem_nil _)
abbrev zr_X11_init (Q : ab_R) : ab_K := ab_Run zg_X11_init zp_X11_init none 2 Q
set_option maxRecDepth 20000 in
theorem zv_X11_init_173 {Q : ab_R} {M : ab_M} {N : ab_N}  (h : zr_X11_init Q 175 [some (.ref 0), some (.int (0 : Int32))] [] M N) : zr_X11_init Q 173 [some (.ref 0), none] [] M N := ab_Run_s zm_X11_init (sp := [(173, [true, false]), (175, [true, true]), (197, [true, true]), (210, [true, false])]) 25 h
set_option maxRecDepth 20000 in
theorem zv_X11_init_175 {Q : ab_R} {M : ab_M} {N : ab_N} (l1 : Int32) (h : (True) ∧ (((Int32.ofNat 89) ≤ l1 → zt_X8_read [.ref 4] M N (fun r M2 N2 => zr_X11_init Q 210 [some (.ref 0), none] (ab_ol r []) M2 N2)) ∧ (¬ ((Int32.ofNat 89) ≤ l1) → (vp_in l1 89) ∧ (zt_X8_add [.ref 4, .int (zs_ch 0 l1.toNatClampNeg)] M N (fun r M2 N2 => zr_X11_init Q 197 [some (.ref 0), some (.int l1)] (ab_ol r []) M2 N2))))) : zr_X11_init Q 175 [some (.ref 0), some (.int l1)] [] M N := ab_Run_s zm_X11_init (sp := [(173, [true, false]), (175, [true, true]), (197, [true, true]), (210, [true, false])]) 25 h
set_option maxRecDepth 20000 in
theorem zv_X11_init_197 {Q : ab_R} {M : ab_M} {N : ab_N} (l1 : Int32) (h : zr_X11_init Q 175 [some (.ref 0), some (.int (l1 + (1 : Int32)))] [] M N) : zr_X11_init Q 197 [some (.ref 0), some (.int l1)] [] M N := ab_Run_s zm_X11_init (sp := [(173, [true, false]), (175, [true, true]), (197, [true, true]), (210, [true, false])]) 25 h
set_option maxRecDepth 20000 in
theorem zv_X11_init_210 {Q : ab_R} {M : ab_M} {N : ab_N} (s0 : Int32) (h : let z1 : Nat → Int32 := upd (M 4) 2 (0 : Int32); Q none (ab_u M 4 z1) N) : zr_X11_init Q 210 [some (.ref 0), none] [.int s0] M N := ab_Run_s zm_X11_init (sp := [(173, [true, false]), (175, [true, true]), (197, [true, true]), (210, [true, false])]) 25 h
abbrev zR_X11_init : Room := { frames := 60, cells := 46, slots := 10746, locals := 1784 }
theorem zY_X11_init (l : Launch) : ab_Calls l RX11 zR_X11_init zw_C vwCl zZ_C .invokevirtual zg_X11_init.2.2.2.2.2.1 := List.forall_mem_cons.mpr ⟨ab_callT (zM_J0_length_8abf5 l) rfl (ab_in 384 (by decide +kernel) rfl) (ab_in 381 (by decide +kernel) rfl) (ab_in 382 (by decide +kernel) rfl) (ab_in 383 (by decide +kernel) rfl) (ab_in 13 (by decide +kernel) rfl) (by unfold ab_yok; decide +kernel) ⟨rfl, rfl⟩ (by decide) zV_J0_length_8abf5, List.forall_mem_cons.mpr ⟨ab_callT (zM_J0_charAt_5068e l) rfl (ab_in 394 (by decide +kernel) rfl) (ab_in 391 (by decide +kernel) rfl) (ab_in 392 (by decide +kernel) rfl) (ab_in 393 (by decide +kernel) rfl) (ab_in 13 (by decide +kernel) rfl) (by unfold ab_yok; decide +kernel) ⟨rfl, rfl⟩ (by decide) zV_J0_charAt_5068e, List.forall_mem_cons.mpr ⟨ab_callV zZ_C_ok (zM_X8_add l) (ab_in 432 (by decide +kernel) rfl) (ab_in 429 (by decide +kernel) rfl) (ab_in 430 (by decide +kernel) rfl) (ab_in 431 (by decide +kernel) rfl) (ab_in 5 (by decide +kernel) rfl) (by unfold ab_yok; decide +kernel) ⟨rfl, rfl⟩ (by decide) zV_X8_add, List.forall_mem_cons.mpr ⟨ab_callV zZ_C_ok (zM_X8_read l) (ab_in 436 (by decide +kernel) rfl) (ab_in 433 (by decide +kernel) rfl) (ab_in 434 (by decide +kernel) rfl) (ab_in 435 (by decide +kernel) rfl) (ab_in 5 (by decide +kernel) rfl) (by unfold ab_yok; decide +kernel) ⟨rfl, rfl⟩ (by decide) zV_X8_read, List.forall_mem_nil _⟩⟩⟩⟩
theorem zYs_X11_init (l : Launch) : ab_Calls l RX11 zR_X11_init zw_C vwCl zZ_C .invokestatic zg_X11_init.2.2.2.2.2.2 := List.forall_mem_nil _
def zB11 : ab_M := fun k => match k with
  | 1 => upd (fun _ => 0) 7 (-1)
  | 5 => upd (fun _ => 0) 4 1
  | 6 => upd (upd (upd (upd (upd (upd (fun _ => 0) 7 (-1)) 8 (-1)) 9 (-1)) 10 (-1)) 11 (-1)) 12 (-1)
  | 11 => upd (fun _ => 0) 0 (-1)
  | 12 => upd (fun _ => 0) 7 (-1)
  | 17 => (upd (upd (upd (upd (upd (fun _ => 0) 0 8) 1 4) 2 0) 3 4) 4 2)
  | 23 => (upd (upd (upd (upd (upd (fun _ => 0) 0 8) 1 4) 2 0) 3 4) 4 2)
  | 43 => (upd (upd (upd (upd (fun _ => 0) 0 (-1)) 1 (-1)) 2 (-1)) 3 (-1))
  | _ => fun _ => 0
def zJ11 : ab_N := fun k => match k with
  | _ => fun _ => 0
set_option maxHeartbeats 4000000 in
set_option maxRecDepth 100000 in
theorem zEw_X11 (ad0 : Nat → Nat) (cy : FieldType → ClassId) (h0 w1 w2 w3 w4 w5 w6 w7 w8 w9 w10 w11 w12 w13 w14 w15 w16 w17 w18 w19 w20 w21 w22 w23 w24 w25 w26 w27 w28 w29 w30 w31 w32 w33 w34 w35 w36 w37 w38 w39 w40 w41 w42 w43 w44 w45 w46 : Nat) : ab_w zw_C (fun k => (([h0, w1, w2, w3, w4, w5, w6, w7, w8, w9, w10, w11, w12, w13, w14, w15, w16, w17, w18, w19, w20, w21, w22, w23, w24, w25, w26, w27, w28, w29, w30, w31, w32, w33, w34, w35, w36, w37, w38, w39, w40, w41, w42, w43, w44, w45, w46] : List Nat)[k]?).getD (ad0 k)) cy zB11 zJ11 = [(h0, .inr (11, [.ref w1, .ref w2, .ref w3, .ref w4, .ref w5, .ref w6, .ref w7, .ref w8, .ref w9, .ref w10, .ref w11])), (w1, .inr (2, [.ref w13, .ref w14, .ref w15, .ref w16, .int 0, .ref w17, .ref w18, .int (-1)])), (w2, .inr (5, [.ref w25, .ref w26, .ref w27, .ref w28, .ref w29, .ref w30, .int 0])), (w3, .inr (9, [.ref w31, .ref w32, .int 0, .int 0, .ref w33])), (w4, .inr (8, [.ref w3, .ref w34, .int 0, .int 0, .int 0, .int 0, .int 0, .int 0])), (w5, .inr (1, [.ref w1, .ref w3, .ref w35, .ref w36, .int 1])), (w6, .inr (10, [.ref w1, .ref w2, .ref w5, .ref w37, .ref w38, .ref w39, .ref w40, .int (-1), .int (-1), .int (-1), .int (-1), .int (-1), .int (-1)])), (w7, .inr (6, [.ref w1, .ref w6, .ref w5, .ref w41, .long 0, .long 0])), (w8, .inr (3, [.ref w1, .ref w6, .ref w5, .ref w42, .long 0, .long 0, .int 0, .int 0])), (w9, .inr (7, [.ref w43, .ref w44, .ref w45])), (w10, .inr (4, [.ref w12, .ref w46, .int 0, .int 0, .int 0])), (w11, .inr (0, [.int (-1), .long 0])), (w12, .inr (2, [.ref w19, .ref w20, .ref w21, .ref w22, .int 0, .ref w23, .ref w24, .int (-1)])), (w13, .inl (cy .int, 8, .inl (fun _ => 0))), (w14, .inl (cy .int, 8, .inl (fun _ => 0))), (w15, .inl (cy .int, 8, .inl (fun _ => 0))), (w16, .inl (cy .int, 8, .inl (fun _ => 0))), (w17, .inl (cy .int, 5, .inl (upd (upd (upd (upd (upd (fun _ => 0) 0 8) 1 4) 2 0) 3 4) 4 2))), (w18, .inl (cy .int, 12, .inl (fun _ => 0))), (w19, .inl (cy .int, 8, .inl (fun _ => 0))), (w20, .inl (cy .int, 8, .inl (fun _ => 0))), (w21, .inl (cy .int, 8, .inl (fun _ => 0))), (w22, .inl (cy .int, 8, .inl (fun _ => 0))), (w23, .inl (cy .int, 5, .inl (upd (upd (upd (upd (upd (fun _ => 0) 0 8) 1 4) 2 0) 3 4) 4 2))), (w24, .inl (cy .int, 12, .inl (fun _ => 0))), (w25, .inl (cy .int, 5, .inl (fun _ => 0))), (w26, .inl (cy .int, 5, .inl (fun _ => 0))), (w27, .inl (cy .int, 5, .inl (fun _ => 0))), (w28, .inl (cy .int, 5, .inl (fun _ => 0))), (w29, .inl (cy .int, 5, .inl (fun _ => 0))), (w30, .inl (cy .int, 60, .inl (fun _ => 0))), (w31, .inl (cy .int, 960, .inl (fun _ => 0))), (w32, .inl (cy .int, 18, .inl (fun _ => 0))), (w33, .inl (cy .int, 160, .inl (fun _ => 0))), (w34, .inl (cy .int, 160, .inl (fun _ => 0))), (w35, .inl (cy .int, 6, .inl (fun _ => 0))), (w36, .inl (cy .int, 8736, .inl (fun _ => 0))), (w37, .inl (cy .int, 60, .inl (fun _ => 0))), (w38, .inl (cy .int, 96, .inl (fun _ => 0))), (w39, .inl (cy .int, 96, .inl (fun _ => 0))), (w40, .inl (cy .boolean, 5, .inl (fun _ => 0))), (w41, .inl (cy .long, 7, .inr (.inl (fun _ => 0)))), (w42, .inl (cy .int, 8, .inl (fun _ => 0))), (w43, .inl (cy .int, 4, .inl (upd (upd (upd (upd (fun _ => 0) 0 (-1)) 1 (-1)) 2 (-1)) 3 (-1)))), (w44, .inl (cy .int, 4, .inl (fun _ => 0))), (w45, .inl (cy .int, 160, .inl (fun _ => 0))), (w46, .inl (cy .int, 5, .inl (fun _ => 0)))] := by
  rw [zWl_eq]
  rfl
