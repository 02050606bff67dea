/-! what the statics hold: three tables, two texts *)
-/
def zs_LEAST_OF_NIGHT : Nat → Int32 := fun j => ([1, 2, 0, 0, 0] : List Int32).getD j 0
def zs_MOST_OF_NIGHT : Nat → Int32 := fun j => ([12, 6, 9, 8, 12] : List Int32).getD j 0
def zs_MOST_OF_THING : Nat → Int32 := fun j => ([200, 100, 999] : List Int32).getD j 0
def zs_tab : List (Nat × Nat × (Nat → Int32)) := [(50, 5, zs_LEAST_OF_NIGHT), (51, 5, zs_MOST_OF_NIGHT), (52, 3, zs_MOST_OF_THING)]
def zs_len : List Nat := [89, 57]
def zs_byt : List (List Int32) := [[114, 105, 115, 107, 32, 119, 97, 116, 101, 114, 32, 42, 32, 52, 32, 43, 32, 111, 108, 100, 32, 42, 32, 50, 48, 32, 43, 32, 115, 116, 101, 112, 32, 59, 32, 115, 101, 101, 110, 32, 51, 48, 32, 43, 32, 115, 116, 101, 112, 32, 42, 32, 49, 53, 32, 45, 32, 112, 97, 99, 101, 32, 42, 32, 49, 48, 32, 59, 32, 104, 97, 114, 109, 32, 115, 116, 101, 112, 32, 42, 32, 119, 111, 114, 116, 104, 32, 59, 32], [119, 97, 116, 101, 114, 32, 111, 108, 100, 32, 119, 105, 110, 100, 32, 115, 116, 101, 112, 32, 119, 111, 114, 116, 104, 32, 112, 97, 99, 101, 32, 114, 105, 115, 107, 32, 115, 101, 101, 110, 32, 104, 97, 114, 109, 32, 111, 114, 32, 97, 110, 100, 32, 110, 111, 116, 32]]
def zs_tx0 : String := "risk water * 4 + old * 20 + step ; seen 30 + step * 15 - pace * 10 ; harm step * worth ; "
def zs_tx1 : String := "water old wind step worth pace risk seen harm or and not "
def zZ_T (n : String) (k N : Nat) (f : Nat → Int32) : ab_Zt := fun ad A U H => va_Z "WalkTheDike" n "[I" (.ref (ad k)) A U H ∧ va_T .int (ad k) N (fun j => .int (f j)) A U H
def zZ_S : ab_Zt := fun ad A U H => vk_S 2 zs_len zs_byt (fun i => ad (60 + i)) (fun i => ad (62 + i)) A U H ∧ vk_R "WalkTheDike" 94 zs_tx0 (ad 60) U ∧ vk_R "WalkTheDike$Tape" 98 zs_tx1 (ad 61) U ∧ va_Z "java/lang/String" "COMPACT_STRINGS" "Z" (.int 1) A U H ∧ va_Zq "jdk/internal/util/Preconditions" "SIOOBE_FORMATTER" "Ljava/util/function/BiFunction;" A U H ∧ va_Nw (.fieldLinkNest "WalkTheDike$Chances" 63 "WalkTheDike" "MOST_OF_THING" "[I" "WalkTheDike") U
def zZ_C : ab_Zt := fun ad A U H => zZ_T "LEAST_OF_NIGHT" 50 5 zs_LEAST_OF_NIGHT ad A U H ∧ zZ_T "MOST_OF_NIGHT" 51 5 zs_MOST_OF_NIGHT ad A U H ∧ zZ_T "MOST_OF_THING" 52 3 zs_MOST_OF_THING ad A U H ∧ zZ_S ad A U H
def zZ_M : ab_Zt := fun _ _ _ _ => True
theorem zZ_M_ok : ab_ZOK zZ_M := ⟨fun _ _ _ _ _ _ _ => trivial, fun _ _ _ _ _ _ _ => trivial, fun _ _ _ _ _ _ _ => trivial, fun _ _ _ _ _ _ _ => trivial⟩
theorem zZ_T_mv {n : String} {k N : Nat} {f : Nat → Int32} {ad : Nat → Nat} {A : Nat → Prop} {u U : State} {H : Heap} (hv : u.vm.Alike U.vm) (h : zZ_T n k N f ad A u H) : zZ_T n k N f ad A U H := ⟨va_Z.moved hv h.1, va_T.moved hv h.2⟩
theorem zZ_T_kp {n : String} {k N : Nat} {f : Nat → Int32} {ad : Nat → Nat} {A : Nat → Prop} {U : State} {H H1 : Heap} (hq : ∀ a : Nat, a < H.size → ¬ A a → H1[a]? = H[a]?) (h : zZ_T n k N f ad A U H) : zZ_T n k N f ad A U H1 := ⟨h.1.kept hq, h.2.kept hq⟩
theorem zZ_T_nr {n : String} {k N : Nat} {f : Nat → Int32} {ad : Nat → Nat} {A B : Nat → Prop} {U : State} {H : Heap} (hq : ∀ q, B q → A q) (h : zZ_T n k N f ad A U H) : zZ_T n k N f ad B U H := ⟨h.1.narrow hq, h.2.narrow hq⟩
theorem zZ_al {U U2 : State} (h : U2.vm = U.vm) : U.vm.Alike U2.vm := by rw [h]; exact Vm.Alike.refl _
theorem zZ_Zq_kp {C n d : String} {A : Nat → Prop} {U : State} {H H1 : Heap} (hq : ∀ a : Nat, a < H.size → ¬ A a → H1[a]? = H[a]?) (h : va_Zq C n d A U H) : va_Zq C n d A U H1 := h.elim (fun z => Or.inl (z.kept hq)) (fun ⟨t, z⟩ => Or.inr ⟨t, z.kept hq⟩)
theorem zZ_Zq_nr {C n d : String} {A B : Nat → Prop} {U : State} {H : Heap} (hq : ∀ q, B q → A q) (h : va_Zq C n d A U H) : va_Zq C n d B U H := h.elim (fun z => Or.inl (z.narrow hq)) (fun ⟨t, z⟩ => Or.inr ⟨t, z.narrow hq⟩)
theorem zZ_C_ok : ab_ZOK zZ_C := by
  refine ⟨fun ad A s U H hW h => ?_, fun ad A U U2 H hv h => ?_, fun ad A U H H1 hq h => ?_, fun ad A B U H hq h => ?_⟩
  · obtain ⟨h1, h2, h3, h4, h5, h6, h7, h8, h9⟩ := h
    exact ⟨zZ_T_mv hW.alike h1, zZ_T_mv hW.alike h2, zZ_T_mv hW.alike h3, vk_S.moved hW.alike h4, vk_R.warm hW h5, vk_R.warm hW h6, va_Z.moved hW.alike h7, va_Zq.moved hW.alike h8, va_Nw.warmF hW h9⟩
  · obtain ⟨h1, h2, h3, h4, h5, h6, h7, h8, h9⟩ := h
    exact ⟨zZ_T_mv (zZ_al hv) h1, zZ_T_mv (zZ_al hv) h2, zZ_T_mv (zZ_al hv) h3, vk_S.moved (zZ_al hv) h4, vk_R.same hv h5, vk_R.same hv h6, va_Z.moved (zZ_al hv) h7, va_Zq.moved (zZ_al hv) h8, va_Nw.same rfl hv.symm h9⟩
  · obtain ⟨h1, h2, h3, h4, h5, h6, h7, h8, h9⟩ := h
    exact ⟨zZ_T_kp hq h1, zZ_T_kp hq h2, zZ_T_kp hq h3, h4.kept hq, h5, h6, h7.kept hq, zZ_Zq_kp hq h8, h9⟩
  · obtain ⟨h1, h2, h3, h4, h5, h6, h7, h8, h9⟩ := h
    exact ⟨zZ_T_nr hq h1, zZ_T_nr hq h2, zZ_T_nr hq h3, h4.narrow hq, h5, h6, h7.narrow hq, zZ_Zq_nr hq h8, h9⟩
theorem ab_Tab_nil {Z : ab_Zt} : ab_TabOK Z [] := fun _ _ _ _ _ _ _ _ _ _ _ _ _ _ _ _ _ _ _ _ _ _ h => by cases h
theorem ab_Sta_nil {Z : ab_Zt} {own : String} : ab_StaOK Z own [] := fun _ _ _ _ _ _ _ _ _ _ _ _ _ _ _ _ _ _ _ _ _ _ _ h => by cases h
theorem ab_Cst_nil {Z : ab_Zt} {own : String} : ab_CstOK Z own [] := fun _ _ _ _ _ _ _ _ _ _ _ _ _ _ _ _ _ _ _ _ _ _ _ h => by cases h
theorem zs_tabOK : ab_TabOK zZ_C zs_tab := by
  intro p l e R s m args below meth c cc ad A Qm ck sk hx hb hZ k n f hk pc H locs lsC rest i hS hin hdec kk
  obtain ⟨h1, h2, h3, -⟩ := hZ
  have hm := ab_a_in _ _ _ hk
  simp only [zs_tab, List.mem_cons, Prod.mk.injEq, List.not_mem_nil, or_false] at hm
  rcases hm with ⟨rfl, rfl, rfl⟩ | ⟨rfl, rfl, rfl⟩ | ⟨rfl, rfl, rfl⟩
  · exact va_ti hx hb h1.2 hS hin rfl hdec kk
  · exact va_ti hx hb h2.2 hS hin rfl hdec kk
  · exact va_ti hx hb h3.2 hS hin rfl hdec kk
/-- numbers among the constants -/
def ab_cstW (own : String) (q : Nat × Value) : Prop := match q.2 with
  | .int v => Cond.constant own q.1 v ∈ ab_B
  | .long v => Cond.constantLong own q.1 v ∈ ab_B
  | _ => False
theorem ab_CstOf {Z : ab_Zt} {own : String} {cst : List (Nat × Value)} (h : ∀ q ∈ cst, ab_cstW own q) : ab_CstOK Z own cst := by
  intro p l e R s m args below meth c cc ad A Qm ck sk hx hb hown hts hZ i v hi pc n H locs lsC rest hS hdec kk
  have h1 := h _ (ab_a_in _ _ _ hi)
  unfold ab_cstW at h1
  dsimp only at h1
  split at h1
  · rcases hdec with ⟨d1, rfl, d3⟩ | ⟨d1, rfl, d3⟩ | ⟨d1, rfl, d3⟩
    · exact lv_ldc hx hb hown (hts _ h1) d1 kk
    · exact lv_ldcw hx hb hown (hts _ h1) d1 kk
    · cases d3
  · rcases hdec with ⟨d1, rfl, d3⟩ | ⟨d1, rfl, d3⟩ | ⟨d1, rfl, d3⟩
    · cases d3
    · obtain ⟨x, hx2⟩ := d3
      cases hx2
    · exact lv_ldc2 hx hb hown (hts _ h1) d1 kk
  · exact h1.elim
theorem zc_X3_ok : ab_CstOK zZ_C RX3 zc_X3 := ab_CstOf (List.forall_mem_cons.mpr ⟨(show ab_cstW RX3 (67, .long 1000) from ab_in 894 (by decide +kernel) rfl), List.forall_mem_cons.mpr ⟨(show ab_cstW RX3 (85, .long 100) from ab_in 902 (by decide +kernel) rfl), List.forall_mem_cons.mpr ⟨(show ab_cstW RX3 (91, .long 48271) from ab_in 892 (by decide +kernel) rfl), List.forall_mem_cons.mpr ⟨(show ab_cstW RX3 (93, .long 2147483647) from ab_in 893 (by decide +kernel) rfl), List.forall_mem_nil _⟩⟩⟩⟩)
theorem zc_X6_ok : ab_CstOK zZ_C RX6 zc_X6 := ab_CstOf (List.forall_mem_cons.mpr ⟨(show ab_cstW RX6 (46, .long 1000000000) from ab_in 741 (by decide +kernel) rfl), List.forall_mem_cons.mpr ⟨(show ab_cstW RX6 (80, .long 1000) from ab_in 748 (by decide +kernel) rfl), List.forall_mem_cons.mpr ⟨(show ab_cstW RX6 (82, .long 100) from ab_in 763 (by decide +kernel) rfl), List.forall_mem_nil _⟩⟩⟩)
theorem zc_X11_ok : ab_CstOK zZ_C RX11 zc_X11 := ab_CstOf (List.forall_mem_cons.mpr ⟨(show ab_cstW RX11 (218, .long (-4611686018427387904)) from ab_in 733 (by decide +kernel) rfl), List.forall_mem_cons.mpr ⟨(show ab_cstW RX11 (259, .long 1000000000000000000) from ab_in 812 (by decide +kernel) rfl), List.forall_mem_cons.mpr ⟨(show ab_cstW RX11 (290, .long 1000000000) from ab_in 855 (by decide +kernel) rfl), List.forall_mem_cons.mpr ⟨(show ab_cstW RX11 (295, .int 99999) from ab_in 876 (by decide +kernel) rfl), List.forall_mem_nil _⟩⟩⟩⟩)
theorem zc_X12_ok : ab_CstOK zZ_M RX12 zc_X12 := ab_CstOf (List.forall_mem_cons.mpr ⟨(show ab_cstW RX12 (107, .long 1919513451) from ab_in 956 (by decide +kernel) rfl), List.forall_mem_cons.mpr ⟨(show ab_cstW RX12 (109, .long 1936024942) from ab_in 957 (by decide +kernel) rfl), List.forall_mem_cons.mpr ⟨(show ab_cstW RX12 (111, .long 1751216749) from ab_in 958 (by decide +kernel) rfl), List.forall_mem_cons.mpr ⟨(show ab_cstW RX12 (113, .long 512736126322) from ab_in 959 (by decide +kernel) rfl), List.forall_mem_cons.mpr ⟨(show ab_cstW RX12 (115, .long 7302244) from ab_in 960 (by decide +kernel) rfl), List.forall_mem_cons.mpr ⟨(show ab_cstW RX12 (117, .long 2003398244) from ab_in 961 (by decide +kernel) rfl), List.forall_mem_cons.mpr ⟨(show ab_cstW RX12 (119, .long 1937007984) from ab_in 962 (by decide +kernel) rfl), List.forall_mem_cons.mpr ⟨(show ab_cstW RX12 (121, .long 512970880104) from ab_in 963 (by decide +kernel) rfl), List.forall_mem_cons.mpr ⟨(show ab_cstW RX12 (123, .long 1885430629) from ab_in 964 (by decide +kernel) rfl), List.forall_mem_cons.mpr ⟨(show ab_cstW RX12 (125, .long 28530) from ab_in 965 (by decide +kernel) rfl), List.forall_mem_cons.mpr ⟨(show ab_cstW RX12 (127, .long 6385252) from ab_in 966 (by decide +kernel) rfl), List.forall_mem_cons.mpr ⟨(show ab_cstW RX12 (129, .long 7237492) from ab_in 967 (by decide +kernel) rfl), List.forall_mem_cons.mpr ⟨(show ab_cstW RX12 (163, .int 100004) from ab_in 968 (by decide +kernel) rfl), List.forall_mem_cons.mpr ⟨(show ab_cstW RX12 (168, .int 100020) from ab_in 973 (by decide +kernel) rfl), List.forall_mem_cons.mpr ⟨(show ab_cstW RX12 (169, .int 100030) from ab_in 974 (by decide +kernel) rfl), List.forall_mem_cons.mpr ⟨(show ab_cstW RX12 (170, .int 100015) from ab_in 975 (by decide +kernel) rfl), List.forall_mem_cons.mpr ⟨(show ab_cstW RX12 (171, .int 100010) from ab_in 976 (by decide +kernel) rfl), List.forall_mem_cons.mpr ⟨(show ab_cstW RX12 (199, .long 255) from ab_in 1226 (by decide +kernel) rfl), List.forall_mem_cons.mpr ⟨(show ab_cstW RX12 (242, .int 100000) from ab_in 1243 (by decide +kernel) rfl), List.forall_mem_cons.mpr ⟨(show ab_cstW RX12 (317, .long 100) from ab_in 1383 (by decide +kernel) rfl), List.forall_mem_cons.mpr ⟨(show ab_cstW RX12 (326, .long 1000000000) from ab_in 1377 (by decide +kernel) rfl), List.forall_mem_cons.mpr ⟨(show ab_cstW RX12 (328, .long 1000) from ab_in 1378 (by decide +kernel) rfl), List.forall_mem_cons.mpr ⟨(show ab_cstW RX12 (341, .long (-4611686018427387904)) from ab_in 1384 (by decide +kernel) rfl), List.forall_mem_cons.mpr ⟨(show ab_cstW RX12 (361, .long 48271) from ab_in 1502 (by decide +kernel) rfl), List.forall_mem_cons.mpr ⟨(show ab_cstW RX12 (363, .long 2147483647) from ab_in 1503 (by decide +kernel) rfl), List.forall_mem_cons.mpr ⟨(show ab_cstW RX12 (377, .int 99999) from ab_in 1493 (by decide +kernel) rfl), List.forall_mem_nil _⟩⟩⟩⟩⟩⟩⟩⟩⟩⟩⟩⟩⟩⟩⟩⟩⟩⟩⟩⟩⟩⟩⟩⟩⟩⟩)
/-- WORDS -/
def zc_X8 : List (Nat × Value) := [(98, .ref 61)]
theorem zc_X8_ok : ab_CstOK zZ_C RX8 zc_X8 := by
  intro p l e R s m args below meth c cc ad A Qm ck sk hx hb hown hts hZ i v hi pc n H locs lsC rest hS hdec kk
  obtain ⟨-, -, -, -, -, h6, -⟩ := hZ
  have hm := ab_a_in _ _ _ hi
  simp only [zc_X8, List.mem_cons, Prod.mk.injEq, List.not_mem_nil, or_false] at hm
  obtain ⟨rfl, rfl⟩ := hm
  rcases hdec with ⟨d1, rfl, d3⟩ | ⟨d1, rfl, d3⟩ | ⟨d1, rfl, d3⟩
  · exact va_ldcS hx hb hown h6 d1 kk
  · obtain ⟨x, hx2⟩ := d3
    cases hx2
  · cases d3
/-- FIRST_LAW -/
def zc_X11i : List (Nat × Value) := [(94, .ref 60)]
theorem zc_X11i_ok : ab_CstOK zZ_C RX11 zc_X11i := by
  intro p l e R s m args below meth c cc ad A Qm ck sk hx hb hown hts hZ i v hi pc n H locs lsC rest hS hdec kk
  obtain ⟨-, -, -, -, h5, -⟩ := hZ
  have hm := ab_a_in _ _ _ hi
  simp only [zc_X11i, List.mem_cons, Prod.mk.injEq, List.not_mem_nil, or_false] at hm
  obtain ⟨rfl, rfl⟩ := hm
  rcases hdec with ⟨d1, rfl, d3⟩ | ⟨d1, rfl, d3⟩ | ⟨d1, rfl, d3⟩
  · exact va_ldcS hx hb hown h5 d1 kk
  · obtain ⟨x, hx2⟩ := d3
    cases hx2
  · cases d3
theorem zs_X11_ok : ab_StaOK zZ_C RX11 [(144, 50), (147, 51)] := by
  intro p l e R s m args below meth c cc ad A Qm ck sk hx hb hown hts hZ i k hi pc H locs lsC rest hS hdec kk
  obtain ⟨h1, h2, -⟩ := hZ
  have hm := ab_a_in _ _ _ hi
  simp only [List.mem_cons, Prod.mk.injEq, List.not_mem_nil, or_false] at hm
  rcases hm with ⟨rfl, rfl⟩ | ⟨rfl, rfl⟩
  · exact va_gets hx hb h1.1 hS hown (hts _ (ab_in 559 (by decide +kernel) rfl)) (fun _ h => h) hdec kk
  · exact va_gets hx hb h2.1 hS hown (hts _ (ab_in 561 (by decide +kernel) rfl)) (fun _ h => h) hdec kk
theorem zs_X1_ok : ab_StaOK zZ_C RX1 [(63, 52)] := by
  intro p l e R s m args below meth c cc ad A Qm ck sk hx hb hown hts hZ i k hi pc H locs lsC rest hS hdec kk
  obtain ⟨-, -, h3, -, -, -, -, -, h9⟩ := hZ
  have hm := ab_a_in _ _ _ hi
  simp only [List.mem_cons, Prod.mk.injEq, List.not_mem_nil, or_false] at hm
  obtain ⟨rfl, rfl⟩ := hm
  exact va_getsN hx hb h3.1 hS hown (va_Nw.use rfl h9) (fun _ h => h) hdec kk
