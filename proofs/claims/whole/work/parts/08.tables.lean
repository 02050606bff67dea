/-! the two worlds; the words of classes, fields, constants; kinds of transformers -/
def zw_C : List ab_L := [.inl (11, [.inl 1, .inl 2, .inl 3, .inl 4, .inl 5, .inl 6, .inl 7, .inl 8, .inl 9, .inl 10, .inl 11]),
  .inl (2, [.inl 13, .inl 14, .inl 15, .inl 16, .inr .int, .inl 17, .inl 18, .inr .int]),
  .inl (5, [.inl 25, .inl 26, .inl 27, .inl 28, .inl 29, .inl 30, .inr .int]),
  .inl (9, [.inl 31, .inl 32, .inr .int, .inr .int, .inl 33]),
  .inl (8, [.inl 3, .inl 34, .inr .int, .inr .int, .inr .int, .inr .int, .inr .int, .inr .int]),
  .inl (1, [.inl 1, .inl 3, .inl 35, .inl 36, .inr .int]),
  .inl (10, [.inl 1, .inl 2, .inl 5, .inl 37, .inl 38, .inl 39, .inl 40, .inr .int, .inr .int, .inr .int, .inr .int, .inr .int, .inr .int]),
  .inl (6, [.inl 1, .inl 6, .inl 5, .inl 41, .inr .long, .inr .long]),
  .inl (3, [.inl 1, .inl 6, .inl 5, .inl 42, .inr .long, .inr .long, .inr .int, .inr .int]),
  .inl (7, [.inl 43, .inl 44, .inl 45]),
  .inl (4, [.inl 12, .inl 46, .inr .int, .inr .int, .inr .boolean]),
  .inl (0, [.inr .int, .inr .long]),
  .inl (2, [.inl 19, .inl 20, .inl 21, .inl 22, .inr .int, .inl 23, .inl 24, .inr .int]),
  .inr (.int, 8),
  .inr (.int, 8),
  .inr (.int, 8),
  .inr (.int, 8),
  .inr (.int, 5),
  .inr (.int, 12),
  .inr (.int, 8),
  .inr (.int, 8),
  .inr (.int, 8),
  .inr (.int, 8),
  .inr (.int, 5),
  .inr (.int, 12),
  .inr (.int, 5),
  .inr (.int, 5),
  .inr (.int, 5),
  .inr (.int, 5),
  .inr (.int, 5),
  .inr (.int, 60),
  .inr (.int, 960),
  .inr (.int, 18),
  .inr (.int, 160),
  .inr (.int, 160),
  .inr (.int, 6),
  .inr (.int, 8736),
  .inr (.int, 60),
  .inr (.int, 96),
  .inr (.int, 96),
  .inr (.boolean, 5),
  .inr (.long, 7),
  .inr (.int, 8),
  .inr (.int, 4),
  .inr (.int, 4),
  .inr (.int, 160),
  .inr (.int, 5)]
def zw_M : List ab_L := [.inl (12, [.inr .int, .inr .int, .inr .int, .inr .int, .inr .int, .inr .int, .inl 1, .inr .int, .inl 2, .inl 3, .inl 4, .inl 5, .inr .int, .inl 6, .inl 7, .inl 8, .inl 9, .inl 10, .inl 11, .inl 12, .inr .int, .inl 13, .inl 14, .inr .int, .inr .int, .inr .int, .inr .int, .inr .int, .inr .int, .inr .int, .inr .int, .inr .boolean, .inr .int, .inr .int, .inr .int, .inr .int, .inr .int, .inr .int, .inr .int, .inr .int, .inr .int, .inl 15, .inl 16, .inl 17, .inl 18, .inl 19, .inl 20, .inl 21, .inl 22, .inl 23, .inr .int, .inr .int, .inr .int, .inr .int, .inl 24, .inl 25, .inr .int, .inr .int, .inr .int, .inl 26, .inl 27, .inl 28, .inl 29, .inl 30, .inl 31, .inl 32, .inr .long, .inr .long, .inr .long, .inl 33, .inr .long, .inr .int]),
  .inr (.int, 12),
  .inr (.int, 8),
  .inr (.int, 8),
  .inr (.int, 8),
  .inr (.int, 8),
  .inr (.int, 5),
  .inr (.int, 5),
  .inr (.int, 5),
  .inr (.int, 5),
  .inr (.int, 5),
  .inr (.int, 60),
  .inr (.int, 160),
  .inr (.int, 1200),
  .inr (.int, 24),
  .inr (.int, 12),
  .inr (.int, 8),
  .inr (.int, 8),
  .inr (.int, 8),
  .inr (.int, 8),
  .inr (.int, 5),
  .inr (.int, 4),
  .inr (.int, 4),
  .inr (.int, 160),
  .inr (.long, 12),
  .inr (.int, 200),
  .inr (.int, 200),
  .inr (.int, 6),
  .inr (.int, 60),
  .inr (.int, 12),
  .inr (.int, 96),
  .inr (.boolean, 5),
  .inr (.long, 7),
  .inr (.int, 8)]
theorem zl_X0 : ∀ k, k < 2 → u_lay RX0 TX0 k ∈ ab_B
  | 0, _ => ab_in 375 (by decide +kernel) rfl
  | 1, _ => ab_in 377 (by decide +kernel) rfl
  | n + 2, h => absurd h (by omega)
theorem zl_X1 : ∀ k, k < 5 → u_lay RX1 TX1 k ∈ ab_B
  | 0, _ => ab_in 191 (by decide +kernel) rfl
  | 1, _ => ab_in 193 (by decide +kernel) rfl
  | 2, _ => ab_in 195 (by decide +kernel) rfl
  | 3, _ => ab_in 197 (by decide +kernel) rfl
  | 4, _ => ab_in 199 (by decide +kernel) rfl
  | n + 5, h => absurd h (by omega)
theorem zl_X2 : ∀ k, k < 8 → u_lay RX2 TX2 k ∈ ab_B
  | 0, _ => ab_in 62 (by decide +kernel) rfl
  | 1, _ => ab_in 64 (by decide +kernel) rfl
  | 2, _ => ab_in 66 (by decide +kernel) rfl
  | 3, _ => ab_in 68 (by decide +kernel) rfl
  | 4, _ => ab_in 70 (by decide +kernel) rfl
  | 5, _ => ab_in 72 (by decide +kernel) rfl
  | 6, _ => ab_in 74 (by decide +kernel) rfl
  | 7, _ => ab_in 76 (by decide +kernel) rfl
  | n + 8, h => absurd h (by omega)
theorem zl_X3 : ∀ k, k < 8 → u_lay RX3 TX3 k ∈ ab_B
  | 0, _ => ab_in 300 (by decide +kernel) rfl
  | 1, _ => ab_in 302 (by decide +kernel) rfl
  | 2, _ => ab_in 304 (by decide +kernel) rfl
  | 3, _ => ab_in 306 (by decide +kernel) rfl
  | 4, _ => ab_in 308 (by decide +kernel) rfl
  | 5, _ => ab_in 310 (by decide +kernel) rfl
  | 6, _ => ab_in 312 (by decide +kernel) rfl
  | 7, _ => ab_in 314 (by decide +kernel) rfl
  | n + 8, h => absurd h (by omega)
theorem zl_X4 : ∀ k, k < 5 → u_lay RX4 TX4 k ∈ ab_B
  | 0, _ => ab_in 354 (by decide +kernel) rfl
  | 1, _ => ab_in 356 (by decide +kernel) rfl
  | 2, _ => ab_in 358 (by decide +kernel) rfl
  | 3, _ => ab_in 360 (by decide +kernel) rfl
  | 4, _ => ab_in 362 (by decide +kernel) rfl
  | n + 5, h => absurd h (by omega)
theorem zl_X5 : ∀ k, k < 7 → u_lay RX5 TX5 k ∈ ab_B
  | 0, _ => ab_in 106 (by decide +kernel) rfl
  | 1, _ => ab_in 108 (by decide +kernel) rfl
  | 2, _ => ab_in 110 (by decide +kernel) rfl
  | 3, _ => ab_in 112 (by decide +kernel) rfl
  | 4, _ => ab_in 114 (by decide +kernel) rfl
  | 5, _ => ab_in 116 (by decide +kernel) rfl
  | 6, _ => ab_in 118 (by decide +kernel) rfl
  | n + 7, h => absurd h (by omega)
theorem zl_X6 : ∀ k, k < 6 → u_lay RX6 TX6 k ∈ ab_B
  | 0, _ => ab_in 269 (by decide +kernel) rfl
  | 1, _ => ab_in 271 (by decide +kernel) rfl
  | 2, _ => ab_in 273 (by decide +kernel) rfl
  | 3, _ => ab_in 275 (by decide +kernel) rfl
  | 4, _ => ab_in 277 (by decide +kernel) rfl
  | 5, _ => ab_in 279 (by decide +kernel) rfl
  | n + 6, h => absurd h (by omega)
theorem zl_X7 : ∀ k, k < 3 → u_lay RX7 TX7 k ∈ ab_B
  | 0, _ => ab_in 329 (by decide +kernel) rfl
  | 1, _ => ab_in 331 (by decide +kernel) rfl
  | 2, _ => ab_in 333 (by decide +kernel) rfl
  | n + 3, h => absurd h (by omega)
theorem zl_X8 : ∀ k, k < 8 → u_lay RX8 TX8 k ∈ ab_B
  | 0, _ => ab_in 163 (by decide +kernel) rfl
  | 1, _ => ab_in 165 (by decide +kernel) rfl
  | 2, _ => ab_in 167 (by decide +kernel) rfl
  | 3, _ => ab_in 169 (by decide +kernel) rfl
  | 4, _ => ab_in 171 (by decide +kernel) rfl
  | 5, _ => ab_in 173 (by decide +kernel) rfl
  | 6, _ => ab_in 175 (by decide +kernel) rfl
  | 7, _ => ab_in 177 (by decide +kernel) rfl
  | n + 8, h => absurd h (by omega)
theorem zl_X9 : ∀ k, k < 5 → u_lay RX9 TX9 k ∈ ab_B
  | 0, _ => ab_in 137 (by decide +kernel) rfl
  | 1, _ => ab_in 139 (by decide +kernel) rfl
  | 2, _ => ab_in 141 (by decide +kernel) rfl
  | 3, _ => ab_in 143 (by decide +kernel) rfl
  | 4, _ => ab_in 145 (by decide +kernel) rfl
  | n + 5, h => absurd h (by omega)
theorem zl_X10 : ∀ k, k < 13 → u_lay RX10 TX10 k ∈ ab_B
  | 0, _ => ab_in 227 (by decide +kernel) rfl
  | 1, _ => ab_in 229 (by decide +kernel) rfl
  | 2, _ => ab_in 231 (by decide +kernel) rfl
  | 3, _ => ab_in 233 (by decide +kernel) rfl
  | 4, _ => ab_in 235 (by decide +kernel) rfl
  | 5, _ => ab_in 237 (by decide +kernel) rfl
  | 6, _ => ab_in 239 (by decide +kernel) rfl
  | 7, _ => ab_in 241 (by decide +kernel) rfl
  | 8, _ => ab_in 243 (by decide +kernel) rfl
  | 9, _ => ab_in 245 (by decide +kernel) rfl
  | 10, _ => ab_in 247 (by decide +kernel) rfl
  | 11, _ => ab_in 249 (by decide +kernel) rfl
  | 12, _ => ab_in 251 (by decide +kernel) rfl
  | n + 13, h => absurd h (by omega)
theorem zl_X11 : ∀ k, k < 11 → u_lay RX11 TX11 k ∈ ab_B
  | 0, _ => ab_in 508 (by decide +kernel) rfl
  | 1, _ => ab_in 510 (by decide +kernel) rfl
  | 2, _ => ab_in 512 (by decide +kernel) rfl
  | 3, _ => ab_in 514 (by decide +kernel) rfl
  | 4, _ => ab_in 516 (by decide +kernel) rfl
  | 5, _ => ab_in 518 (by decide +kernel) rfl
  | 6, _ => ab_in 520 (by decide +kernel) rfl
  | 7, _ => ab_in 522 (by decide +kernel) rfl
  | 8, _ => ab_in 524 (by decide +kernel) rfl
  | 9, _ => ab_in 526 (by decide +kernel) rfl
  | 10, _ => ab_in 528 (by decide +kernel) rfl
  | n + 11, h => absurd h (by omega)
theorem zl_X12 : ∀ k, k < 72 → u_lay RX12 TX12 k ∈ ab_B
  | 0, _ => ab_in 1049 (by decide +kernel) rfl
  | 1, _ => ab_in 1051 (by decide +kernel) rfl
  | 2, _ => ab_in 1053 (by decide +kernel) rfl
  | 3, _ => ab_in 1055 (by decide +kernel) rfl
  | 4, _ => ab_in 1057 (by decide +kernel) rfl
  | 5, _ => ab_in 1059 (by decide +kernel) rfl
  | 6, _ => ab_in 1061 (by decide +kernel) rfl
  | 7, _ => ab_in 1063 (by decide +kernel) rfl
  | 8, _ => ab_in 1065 (by decide +kernel) rfl
  | 9, _ => ab_in 1067 (by decide +kernel) rfl
  | 10, _ => ab_in 1069 (by decide +kernel) rfl
  | 11, _ => ab_in 1071 (by decide +kernel) rfl
  | 12, _ => ab_in 1073 (by decide +kernel) rfl
  | 13, _ => ab_in 1075 (by decide +kernel) rfl
  | 14, _ => ab_in 1077 (by decide +kernel) rfl
  | 15, _ => ab_in 1079 (by decide +kernel) rfl
  | 16, _ => ab_in 1081 (by decide +kernel) rfl
  | 17, _ => ab_in 1083 (by decide +kernel) rfl
  | 18, _ => ab_in 1085 (by decide +kernel) rfl
  | 19, _ => ab_in 1087 (by decide +kernel) rfl
  | 20, _ => ab_in 1089 (by decide +kernel) rfl
  | 21, _ => ab_in 1091 (by decide +kernel) rfl
  | 22, _ => ab_in 1093 (by decide +kernel) rfl
  | 23, _ => ab_in 1095 (by decide +kernel) rfl
  | 24, _ => ab_in 1097 (by decide +kernel) rfl
  | 25, _ => ab_in 1099 (by decide +kernel) rfl
  | 26, _ => ab_in 1101 (by decide +kernel) rfl
  | 27, _ => ab_in 1103 (by decide +kernel) rfl
  | 28, _ => ab_in 1105 (by decide +kernel) rfl
  | 29, _ => ab_in 1107 (by decide +kernel) rfl
  | 30, _ => ab_in 1109 (by decide +kernel) rfl
  | 31, _ => ab_in 1111 (by decide +kernel) rfl
  | 32, _ => ab_in 1113 (by decide +kernel) rfl
  | 33, _ => ab_in 1115 (by decide +kernel) rfl
  | 34, _ => ab_in 1117 (by decide +kernel) rfl
  | 35, _ => ab_in 1119 (by decide +kernel) rfl
  | 36, _ => ab_in 1121 (by decide +kernel) rfl
  | 37, _ => ab_in 1123 (by decide +kernel) rfl
  | 38, _ => ab_in 1125 (by decide +kernel) rfl
  | 39, _ => ab_in 1127 (by decide +kernel) rfl
  | 40, _ => ab_in 1129 (by decide +kernel) rfl
  | 41, _ => ab_in 1131 (by decide +kernel) rfl
  | 42, _ => ab_in 1133 (by decide +kernel) rfl
  | 43, _ => ab_in 1135 (by decide +kernel) rfl
  | 44, _ => ab_in 1137 (by decide +kernel) rfl
  | 45, _ => ab_in 1139 (by decide +kernel) rfl
  | 46, _ => ab_in 1141 (by decide +kernel) rfl
  | 47, _ => ab_in 1143 (by decide +kernel) rfl
  | 48, _ => ab_in 1145 (by decide +kernel) rfl
  | 49, _ => ab_in 1147 (by decide +kernel) rfl
  | 50, _ => ab_in 1149 (by decide +kernel) rfl
  | 51, _ => ab_in 1151 (by decide +kernel) rfl
  | 52, _ => ab_in 1153 (by decide +kernel) rfl
  | 53, _ => ab_in 1155 (by decide +kernel) rfl
  | 54, _ => ab_in 1157 (by decide +kernel) rfl
  | 55, _ => ab_in 1159 (by decide +kernel) rfl
  | 56, _ => ab_in 1161 (by decide +kernel) rfl
  | 57, _ => ab_in 1163 (by decide +kernel) rfl
  | 58, _ => ab_in 1165 (by decide +kernel) rfl
  | 59, _ => ab_in 1167 (by decide +kernel) rfl
  | 60, _ => ab_in 1169 (by decide +kernel) rfl
  | 61, _ => ab_in 1171 (by decide +kernel) rfl
  | 62, _ => ab_in 1173 (by decide +kernel) rfl
  | 63, _ => ab_in 1175 (by decide +kernel) rfl
  | 64, _ => ab_in 1177 (by decide +kernel) rfl
  | 65, _ => ab_in 1179 (by decide +kernel) rfl
  | 66, _ => ab_in 1181 (by decide +kernel) rfl
  | 67, _ => ab_in 1183 (by decide +kernel) rfl
  | 68, _ => ab_in 1185 (by decide +kernel) rfl
  | 69, _ => ab_in 1187 (by decide +kernel) rfl
  | 70, _ => ab_in 1189 (by decide +kernel) rfl
  | 71, _ => ab_in 1191 (by decide +kernel) rfl
  | n + 72, h => absurd h (by omega)
theorem zl_of {C : String} {T : u_T} {N : Nat} (h : ∀ k, k < N → u_lay C T k ∈ ab_B) : ∀ w ∈ u_ws C T N, w ∈ ab_B := fun w hw => by
  obtain ⟨k, hk, rfl⟩ := List.mem_map.mp hw
  exact h k (List.mem_range.mp hk)
set_option maxHeartbeats 4000000 in
theorem zl_cl : ab_Cl vwCl
  | 0, _, _, _, h => by cases h; exact ⟨zl_of zl_X0, ⟨tyX0, tyX0_ok⟩, nmX0⟩
  | 1, _, _, _, h => by cases h; exact ⟨zl_of zl_X1, ⟨tyX1, tyX1_ok⟩, nmX1⟩
  | 2, _, _, _, h => by cases h; exact ⟨zl_of zl_X2, ⟨tyX2, tyX2_ok⟩, nmX2⟩
  | 3, _, _, _, h => by cases h; exact ⟨zl_of zl_X3, ⟨tyX3, tyX3_ok⟩, nmX3⟩
  | 4, _, _, _, h => by cases h; exact ⟨zl_of zl_X4, ⟨tyX4, tyX4_ok⟩, nmX4⟩
  | 5, _, _, _, h => by cases h; exact ⟨zl_of zl_X5, ⟨tyX5, tyX5_ok⟩, nmX5⟩
  | 6, _, _, _, h => by cases h; exact ⟨zl_of zl_X6, ⟨tyX6, tyX6_ok⟩, nmX6⟩
  | 7, _, _, _, h => by cases h; exact ⟨zl_of zl_X7, ⟨tyX7, tyX7_ok⟩, nmX7⟩
  | 8, _, _, _, h => by cases h; exact ⟨zl_of zl_X8, ⟨tyX8, tyX8_ok⟩, nmX8⟩
  | 9, _, _, _, h => by cases h; exact ⟨zl_of zl_X9, ⟨tyX9, tyX9_ok⟩, nmX9⟩
  | 10, _, _, _, h => by cases h; exact ⟨zl_of zl_X10, ⟨tyX10, tyX10_ok⟩, nmX10⟩
  | 11, _, _, _, h => by cases h; exact ⟨zl_of zl_X11, ⟨tyX11, tyX11_ok⟩, nmX11⟩
  | 12, _, _, _, h => by cases h; exact ⟨zl_of zl_X12, ⟨tyX12, tyX12_ok⟩, nmX12⟩
  | n + 13, _, _, _, h => by simp at h
def zl_lamB (cl : List vw_C) (Λ : List ab_L) : Bool := Λ.all (fun c => match c with
  | .inl (ci, fs) => (match cl[ci]? with
    | some (_, T, _) => (List.range fs.length).all (fun j => match fs[j]? with
      | some (.inr ty) => decide (parseFieldDescriptor (T j).2.2.1 = some ty) && !(T j).2.2.2
      | _ => true)
    | none => false)
  | _ => true)
theorem zl_lam {cl : List vw_C} {Λ : List ab_L} (h : zl_lamB cl Λ = true) : ab_Lam cl Λ := by
  intro k ci fs j ty h1 h2
  have h3 := List.all_eq_true.mp h _ (List.mem_of_getElem? h1)
  dsimp only at h3
  split at h3
  · rename_i C T N hc
    have h4 := List.all_eq_true.mp h3 j (List.mem_range.mpr (List.getElem?_eq_some_iff.mp h2).1)
    rw [h2] at h4
    dsimp only at h4
    simp only [Bool.and_eq_true, decide_eq_true_eq, Bool.not_eq_true'] at h4
    exact ⟨C, T, N, hc, h4.1, h4.2⟩
  · cases h3
theorem zl_lamC : ab_Lam vwCl zw_C := zl_lam (by decide +kernel)
theorem zl_lamM : ab_Lam vwCl zw_M := zl_lam (by decide +kernel)
theorem zl_fldL {own : String} {cl : List vw_C} {fld : List (Nat × Nat × Nat)} (h : ∀ q ∈ fld, ∃ (C : String) (T : u_T) (N : Nat), cl[q.2.1]? = some (C, T, N) ∧ q.2.2 < N ∧ Cond.fieldLink own q.1 (T q.2.2).1 (T q.2.2).2.1 (T q.2.2).2.2.1 ∈ ab_B) : ab_Fld own cl fld := fun _ _ _ hq => h _ (ab_a_in _ _ _ hq)
def zf_X0 : List (Nat × Nat × Nat) := [(7, 0, 0), (13, 0, 1)]
theorem zf_X0_ok : ab_Fld RX0 vwCl zf_X0 := zl_fldL (List.forall_mem_cons.mpr ⟨⟨RX0, TX0, 2, rfl, by decide, ab_in 371 (by decide +kernel) rfl⟩, List.forall_mem_cons.mpr ⟨⟨RX0, TX0, 2, rfl, by decide, ab_in 373 (by decide +kernel) rfl⟩, List.forall_mem_nil _⟩⟩)
def zf_X1 : List (Nat × Nat × Nat) := [(9, 1, 2), (15, 1, 3), (18, 1, 4), (22, 1, 0), (26, 1, 1), (36, 2, 2), (45, 2, 6), (48, 2, 0), (51, 2, 5), (54, 2, 1)]
theorem zf_X1_ok : ab_Fld RX1 vwCl zf_X1 := zl_fldL (List.forall_mem_cons.mpr ⟨⟨RX1, TX1, 5, rfl, by decide, ab_in 188 (by decide +kernel) rfl⟩, List.forall_mem_cons.mpr ⟨⟨RX1, TX1, 5, rfl, by decide, ab_in 189 (by decide +kernel) rfl⟩, List.forall_mem_cons.mpr ⟨⟨RX1, TX1, 5, rfl, by decide, ab_in 190 (by decide +kernel) rfl⟩, List.forall_mem_cons.mpr ⟨⟨RX1, TX1, 5, rfl, by decide, ab_in 186 (by decide +kernel) rfl⟩, List.forall_mem_cons.mpr ⟨⟨RX1, TX1, 5, rfl, by decide, ab_in 187 (by decide +kernel) rfl⟩, List.forall_mem_cons.mpr ⟨⟨RX2, TX2, 8, rfl, by decide, ab_in 42 (by decide +kernel) rfl⟩, List.forall_mem_cons.mpr ⟨⟨RX2, TX2, 8, rfl, by decide, ab_in 58 (by decide +kernel) rfl⟩, List.forall_mem_cons.mpr ⟨⟨RX2, TX2, 8, rfl, by decide, ab_in 37 (by decide +kernel) rfl⟩, List.forall_mem_cons.mpr ⟨⟨RX2, TX2, 8, rfl, by decide, ab_in 54 (by decide +kernel) rfl⟩, List.forall_mem_cons.mpr ⟨⟨RX2, TX2, 8, rfl, by decide, ab_in 40 (by decide +kernel) rfl⟩, List.forall_mem_nil _⟩⟩⟩⟩⟩⟩⟩⟩⟩⟩)
def zf_X2 : List (Nat × Nat × Nat) := [(9, 2, 0), (15, 2, 1), (18, 2, 2), (21, 2, 3), (24, 2, 4), (28, 2, 5), (31, 2, 6), (34, 2, 7)]
theorem zf_X2_ok : ab_Fld RX2 vwCl zf_X2 := zl_fldL (List.forall_mem_cons.mpr ⟨⟨RX2, TX2, 8, rfl, by decide, ab_in 35 (by decide +kernel) rfl⟩, List.forall_mem_cons.mpr ⟨⟨RX2, TX2, 8, rfl, by decide, ab_in 38 (by decide +kernel) rfl⟩, List.forall_mem_cons.mpr ⟨⟨RX2, TX2, 8, rfl, by decide, ab_in 41 (by decide +kernel) rfl⟩, List.forall_mem_cons.mpr ⟨⟨RX2, TX2, 8, rfl, by decide, ab_in 44 (by decide +kernel) rfl⟩, List.forall_mem_cons.mpr ⟨⟨RX2, TX2, 8, rfl, by decide, ab_in 47 (by decide +kernel) rfl⟩, List.forall_mem_cons.mpr ⟨⟨RX2, TX2, 8, rfl, by decide, ab_in 51 (by decide +kernel) rfl⟩, List.forall_mem_cons.mpr ⟨⟨RX2, TX2, 8, rfl, by decide, ab_in 57 (by decide +kernel) rfl⟩, List.forall_mem_cons.mpr ⟨⟨RX2, TX2, 8, rfl, by decide, ab_in 60 (by decide +kernel) rfl⟩, List.forall_mem_nil _⟩⟩⟩⟩⟩⟩⟩⟩)
def zf_X3 : List (Nat × Nat × Nat) := [(9, 3, 3), (15, 3, 0), (19, 3, 1), (23, 3, 2), (33, 3, 4), (37, 3, 5), (40, 3, 6), (44, 3, 7), (47, 2, 5), (52, 2, 4)]
theorem zf_X3_ok : ab_Fld RX3 vwCl zf_X3 := zl_fldL (List.forall_mem_cons.mpr ⟨⟨RX3, TX3, 8, rfl, by decide, ab_in 292 (by decide +kernel) rfl⟩, List.forall_mem_cons.mpr ⟨⟨RX3, TX3, 8, rfl, by decide, ab_in 289 (by decide +kernel) rfl⟩, List.forall_mem_cons.mpr ⟨⟨RX3, TX3, 8, rfl, by decide, ab_in 290 (by decide +kernel) rfl⟩, List.forall_mem_cons.mpr ⟨⟨RX3, TX3, 8, rfl, by decide, ab_in 291 (by decide +kernel) rfl⟩, List.forall_mem_cons.mpr ⟨⟨RX3, TX3, 8, rfl, by decide, ab_in 293 (by decide +kernel) rfl⟩, List.forall_mem_cons.mpr ⟨⟨RX3, TX3, 8, rfl, by decide, ab_in 294 (by decide +kernel) rfl⟩, List.forall_mem_cons.mpr ⟨⟨RX3, TX3, 8, rfl, by decide, ab_in 296 (by decide +kernel) rfl⟩, List.forall_mem_cons.mpr ⟨⟨RX3, TX3, 8, rfl, by decide, ab_in 298 (by decide +kernel) rfl⟩, List.forall_mem_cons.mpr ⟨⟨RX2, TX2, 8, rfl, by decide, ab_in 53 (by decide +kernel) rfl⟩, List.forall_mem_cons.mpr ⟨⟨RX2, TX2, 8, rfl, by decide, ab_in 49 (by decide +kernel) rfl⟩, List.forall_mem_nil _⟩⟩⟩⟩⟩⟩⟩⟩⟩⟩)
def zc_X3 : List (Nat × Value) := [(67, .long 1000), (85, .long 100), (91, .long 48271), (93, .long 2147483647)]
def zf_X4 : List (Nat × Nat × Nat) := [(12, 4, 0), (18, 4, 1), (22, 4, 2), (26, 4, 3), (29, 4, 4)]
theorem zf_X4_ok : ab_Fld RX4 vwCl zf_X4 := zl_fldL (List.forall_mem_cons.mpr ⟨⟨RX4, TX4, 5, rfl, by decide, ab_in 344 (by decide +kernel) rfl⟩, List.forall_mem_cons.mpr ⟨⟨RX4, TX4, 5, rfl, by decide, ab_in 346 (by decide +kernel) rfl⟩, List.forall_mem_cons.mpr ⟨⟨RX4, TX4, 5, rfl, by decide, ab_in 348 (by decide +kernel) rfl⟩, List.forall_mem_cons.mpr ⟨⟨RX4, TX4, 5, rfl, by decide, ab_in 350 (by decide +kernel) rfl⟩, List.forall_mem_cons.mpr ⟨⟨RX4, TX4, 5, rfl, by decide, ab_in 352 (by decide +kernel) rfl⟩, List.forall_mem_nil _⟩⟩⟩⟩⟩)
def zf_X5 : List (Nat × Nat × Nat) := [(9, 5, 0), (15, 5, 1), (18, 5, 2), (21, 5, 3), (24, 5, 4), (27, 5, 5), (30, 5, 6)]
theorem zf_X5_ok : ab_Fld RX5 vwCl zf_X5 := zl_fldL (List.forall_mem_cons.mpr ⟨⟨RX5, TX5, 7, rfl, by decide, ab_in 86 (by decide +kernel) rfl⟩, List.forall_mem_cons.mpr ⟨⟨RX5, TX5, 7, rfl, by decide, ab_in 89 (by decide +kernel) rfl⟩, List.forall_mem_cons.mpr ⟨⟨RX5, TX5, 7, rfl, by decide, ab_in 92 (by decide +kernel) rfl⟩, List.forall_mem_cons.mpr ⟨⟨RX5, TX5, 7, rfl, by decide, ab_in 95 (by decide +kernel) rfl⟩, List.forall_mem_cons.mpr ⟨⟨RX5, TX5, 7, rfl, by decide, ab_in 98 (by decide +kernel) rfl⟩, List.forall_mem_cons.mpr ⟨⟨RX5, TX5, 7, rfl, by decide, ab_in 100 (by decide +kernel) rfl⟩, List.forall_mem_cons.mpr ⟨⟨RX5, TX5, 7, rfl, by decide, ab_in 103 (by decide +kernel) rfl⟩, List.forall_mem_nil _⟩⟩⟩⟩⟩⟩⟩)
def zf_X6 : List (Nat × Nat × Nat) := [(9, 6, 3), (15, 6, 0), (19, 6, 1), (23, 6, 2), (27, 6, 4), (31, 2, 5), (37, 6, 5)]
theorem zf_X6_ok : ab_Fld RX6 vwCl zf_X6 := zl_fldL (List.forall_mem_cons.mpr ⟨⟨RX6, TX6, 6, rfl, by decide, ab_in 264 (by decide +kernel) rfl⟩, List.forall_mem_cons.mpr ⟨⟨RX6, TX6, 6, rfl, by decide, ab_in 261 (by decide +kernel) rfl⟩, List.forall_mem_cons.mpr ⟨⟨RX6, TX6, 6, rfl, by decide, ab_in 262 (by decide +kernel) rfl⟩, List.forall_mem_cons.mpr ⟨⟨RX6, TX6, 6, rfl, by decide, ab_in 263 (by decide +kernel) rfl⟩, List.forall_mem_cons.mpr ⟨⟨RX6, TX6, 6, rfl, by decide, ab_in 266 (by decide +kernel) rfl⟩, List.forall_mem_cons.mpr ⟨⟨RX2, TX2, 8, rfl, by decide, ab_in 52 (by decide +kernel) rfl⟩, List.forall_mem_cons.mpr ⟨⟨RX6, TX6, 6, rfl, by decide, ab_in 268 (by decide +kernel) rfl⟩, List.forall_mem_nil _⟩⟩⟩⟩⟩⟩⟩)
def zc_X6 : List (Nat × Value) := [(46, .long 1000000000), (80, .long 1000), (82, .long 100)]
def zf_X7 : List (Nat × Nat × Nat) := [(9, 7, 0), (15, 7, 1), (18, 7, 2)]
theorem zf_X7_ok : ab_Fld RX7 vwCl zf_X7 := zl_fldL (List.forall_mem_cons.mpr ⟨⟨RX7, TX7, 3, rfl, by decide, ab_in 323 (by decide +kernel) rfl⟩, List.forall_mem_cons.mpr ⟨⟨RX7, TX7, 3, rfl, by decide, ab_in 325 (by decide +kernel) rfl⟩, List.forall_mem_cons.mpr ⟨⟨RX7, TX7, 3, rfl, by decide, ab_in 327 (by decide +kernel) rfl⟩, List.forall_mem_nil _⟩⟩⟩)
def zf_X8 : List (Nat × Nat × Nat) := [(9, 8, 1), (15, 8, 2), (19, 8, 0), (23, 9, 2), (28, 8, 6), (31, 8, 7), (37, 8, 3), (40, 8, 5), (47, 9, 1), (72, 8, 4), (75, 9, 0)]
theorem zf_X8_ok : ab_Fld RX8 vwCl zf_X8 := zl_fldL (List.forall_mem_cons.mpr ⟨⟨RX8, TX8, 8, rfl, by decide, ab_in 155 (by decide +kernel) rfl⟩, List.forall_mem_cons.mpr ⟨⟨RX8, TX8, 8, rfl, by decide, ab_in 156 (by decide +kernel) rfl⟩, List.forall_mem_cons.mpr ⟨⟨RX8, TX8, 8, rfl, by decide, ab_in 154 (by decide +kernel) rfl⟩, List.forall_mem_cons.mpr ⟨⟨RX9, TX9, 5, rfl, by decide, ab_in 132 (by decide +kernel) rfl⟩, List.forall_mem_cons.mpr ⟨⟨RX8, TX8, 8, rfl, by decide, ab_in 161 (by decide +kernel) rfl⟩, List.forall_mem_cons.mpr ⟨⟨RX8, TX8, 8, rfl, by decide, ab_in 162 (by decide +kernel) rfl⟩, List.forall_mem_cons.mpr ⟨⟨RX8, TX8, 8, rfl, by decide, ab_in 158 (by decide +kernel) rfl⟩, List.forall_mem_cons.mpr ⟨⟨RX8, TX8, 8, rfl, by decide, ab_in 160 (by decide +kernel) rfl⟩, List.forall_mem_cons.mpr ⟨⟨RX9, TX9, 5, rfl, by decide, ab_in 130 (by decide +kernel) rfl⟩, List.forall_mem_cons.mpr ⟨⟨RX8, TX8, 8, rfl, by decide, ab_in 159 (by decide +kernel) rfl⟩, List.forall_mem_cons.mpr ⟨⟨RX9, TX9, 5, rfl, by decide, ab_in 128 (by decide +kernel) rfl⟩, List.forall_mem_nil _⟩⟩⟩⟩⟩⟩⟩⟩⟩⟩⟩)
def zf_X9 : List (Nat × Nat × Nat) := [(9, 9, 0), (15, 9, 1), (18, 9, 2), (22, 9, 3), (25, 9, 4)]
theorem zf_X9_ok : ab_Fld RX9 vwCl zf_X9 := zl_fldL (List.forall_mem_cons.mpr ⟨⟨RX9, TX9, 5, rfl, by decide, ab_in 127 (by decide +kernel) rfl⟩, List.forall_mem_cons.mpr ⟨⟨RX9, TX9, 5, rfl, by decide, ab_in 129 (by decide +kernel) rfl⟩, List.forall_mem_cons.mpr ⟨⟨RX9, TX9, 5, rfl, by decide, ab_in 131 (by decide +kernel) rfl⟩, List.forall_mem_cons.mpr ⟨⟨RX9, TX9, 5, rfl, by decide, ab_in 134 (by decide +kernel) rfl⟩, List.forall_mem_cons.mpr ⟨⟨RX9, TX9, 5, rfl, by decide, ab_in 136 (by decide +kernel) rfl⟩, List.forall_mem_nil _⟩⟩⟩⟩⟩)
def zf_X10 : List (Nat × Nat × Nat) := [(9, 10, 3), (15, 10, 4), (18, 10, 5), (21, 10, 6), (25, 10, 7), (29, 10, 8), (32, 10, 9), (35, 10, 10), (38, 10, 11), (41, 10, 12), (44, 10, 0), (48, 10, 1), (52, 10, 2), (62, 5, 3), (69, 2, 5), (74, 2, 4), (84, 5, 6), (90, 5, 1), (93, 5, 2), (102, 2, 3), (105, 5, 0), (115, 5, 5)]
theorem zf_X10_ok : ab_Fld RX10 vwCl zf_X10 := zl_fldL (List.forall_mem_cons.mpr ⟨⟨RX10, TX10, 13, rfl, by decide, ab_in 211 (by decide +kernel) rfl⟩, List.forall_mem_cons.mpr ⟨⟨RX10, TX10, 13, rfl, by decide, ab_in 212 (by decide +kernel) rfl⟩, List.forall_mem_cons.mpr ⟨⟨RX10, TX10, 13, rfl, by decide, ab_in 213 (by decide +kernel) rfl⟩, List.forall_mem_cons.mpr ⟨⟨RX10, TX10, 13, rfl, by decide, ab_in 214 (by decide +kernel) rfl⟩, List.forall_mem_cons.mpr ⟨⟨RX10, TX10, 13, rfl, by decide, ab_in 215 (by decide +kernel) rfl⟩, List.forall_mem_cons.mpr ⟨⟨RX10, TX10, 13, rfl, by decide, ab_in 217 (by decide +kernel) rfl⟩, List.forall_mem_cons.mpr ⟨⟨RX10, TX10, 13, rfl, by decide, ab_in 219 (by decide +kernel) rfl⟩, List.forall_mem_cons.mpr ⟨⟨RX10, TX10, 13, rfl, by decide, ab_in 221 (by decide +kernel) rfl⟩, List.forall_mem_cons.mpr ⟨⟨RX10, TX10, 13, rfl, by decide, ab_in 223 (by decide +kernel) rfl⟩, List.forall_mem_cons.mpr ⟨⟨RX10, TX10, 13, rfl, by decide, ab_in 225 (by decide +kernel) rfl⟩, List.forall_mem_cons.mpr ⟨⟨RX10, TX10, 13, rfl, by decide, ab_in 208 (by decide +kernel) rfl⟩, List.forall_mem_cons.mpr ⟨⟨RX10, TX10, 13, rfl, by decide, ab_in 209 (by decide +kernel) rfl⟩, List.forall_mem_cons.mpr ⟨⟨RX10, TX10, 13, rfl, by decide, ab_in 210 (by decide +kernel) rfl⟩, List.forall_mem_cons.mpr ⟨⟨RX5, TX5, 7, rfl, by decide, ab_in 96 (by decide +kernel) rfl⟩, List.forall_mem_cons.mpr ⟨⟨RX2, TX2, 8, rfl, by decide, ab_in 56 (by decide +kernel) rfl⟩, List.forall_mem_cons.mpr ⟨⟨RX2, TX2, 8, rfl, by decide, ab_in 50 (by decide +kernel) rfl⟩, List.forall_mem_cons.mpr ⟨⟨RX5, TX5, 7, rfl, by decide, ab_in 105 (by decide +kernel) rfl⟩, List.forall_mem_cons.mpr ⟨⟨RX5, TX5, 7, rfl, by decide, ab_in 90 (by decide +kernel) rfl⟩, List.forall_mem_cons.mpr ⟨⟨RX5, TX5, 7, rfl, by decide, ab_in 93 (by decide +kernel) rfl⟩, List.forall_mem_cons.mpr ⟨⟨RX2, TX2, 8, rfl, by decide, ab_in 45 (by decide +kernel) rfl⟩, List.forall_mem_cons.mpr ⟨⟨RX5, TX5, 7, rfl, by decide, ab_in 87 (by decide +kernel) rfl⟩, List.forall_mem_cons.mpr ⟨⟨RX5, TX5, 7, rfl, by decide, ab_in 101 (by decide +kernel) rfl⟩, List.forall_mem_nil _⟩⟩⟩⟩⟩⟩⟩⟩⟩⟩⟩⟩⟩⟩⟩⟩⟩⟩⟩⟩⟩⟩)
def zf_X11 : List (Nat × Nat × Nat) := [(10, 11, 0), (19, 11, 1), (26, 11, 2), (35, 11, 3), (44, 11, 4), (53, 11, 5), (62, 11, 6), (69, 11, 7), (76, 11, 8), (83, 11, 9), (90, 11, 10), (113, 8, 2), (121, 2, 4), (134, 2, 0), (138, 2, 1), (141, 2, 2), (150, 2, 5), (153, 2, 6), (156, 5, 6), (159, 9, 2), (160, 9, 3), (173, 5, 5), (180, 5, 3), (183, 5, 0), (186, 5, 1), (189, 5, 2), (192, 5, 4), (227, 6, 3), (239, 0, 0), (246, 10, 11), (249, 10, 12), (252, 0, 1), (256, 2, 3), (261, 10, 8), (264, 10, 9), (272, 10, 10), (275, 10, 7), (279, 7, 0), (282, 7, 1), (287, 2, 7), (298, 3, 5), (301, 3, 6), (304, 3, 7), (307, 4, 0), (312, 4, 1), (319, 4, 2), (321, 4, 3), (322, 4, 4), (333, 7, 2), (342, 6, 4)]
theorem zf_X11_ok : ab_Fld RX11 vwCl zf_X11 := zl_fldL (List.forall_mem_cons.mpr ⟨⟨RX11, TX11, 11, rfl, by decide, ab_in 497 (by decide +kernel) rfl⟩, List.forall_mem_cons.mpr ⟨⟨RX11, TX11, 11, rfl, by decide, ab_in 498 (by decide +kernel) rfl⟩, List.forall_mem_cons.mpr ⟨⟨RX11, TX11, 11, rfl, by decide, ab_in 499 (by decide +kernel) rfl⟩, List.forall_mem_cons.mpr ⟨⟨RX11, TX11, 11, rfl, by decide, ab_in 500 (by decide +kernel) rfl⟩, List.forall_mem_cons.mpr ⟨⟨RX11, TX11, 11, rfl, by decide, ab_in 501 (by decide +kernel) rfl⟩, List.forall_mem_cons.mpr ⟨⟨RX11, TX11, 11, rfl, by decide, ab_in 502 (by decide +kernel) rfl⟩, List.forall_mem_cons.mpr ⟨⟨RX11, TX11, 11, rfl, by decide, ab_in 503 (by decide +kernel) rfl⟩, List.forall_mem_cons.mpr ⟨⟨RX11, TX11, 11, rfl, by decide, ab_in 504 (by decide +kernel) rfl⟩, List.forall_mem_cons.mpr ⟨⟨RX11, TX11, 11, rfl, by decide, ab_in 505 (by decide +kernel) rfl⟩, List.forall_mem_cons.mpr ⟨⟨RX11, TX11, 11, rfl, by decide, ab_in 506 (by decide +kernel) rfl⟩, List.forall_mem_cons.mpr ⟨⟨RX11, TX11, 11, rfl, by decide, ab_in 507 (by decide +kernel) rfl⟩, List.forall_mem_cons.mpr ⟨⟨RX8, TX8, 8, rfl, by decide, ab_in 157 (by decide +kernel) rfl⟩, List.forall_mem_cons.mpr ⟨⟨RX2, TX2, 8, rfl, by decide, ab_in 48 (by decide +kernel) rfl⟩, List.forall_mem_cons.mpr ⟨⟨RX2, TX2, 8, rfl, by decide, ab_in 36 (by decide +kernel) rfl⟩, List.forall_mem_cons.mpr ⟨⟨RX2, TX2, 8, rfl, by decide, ab_in 39 (by decide +kernel) rfl⟩, List.forall_mem_cons.mpr ⟨⟨RX2, TX2, 8, rfl, by decide, ab_in 43 (by decide +kernel) rfl⟩, List.forall_mem_cons.mpr ⟨⟨RX2, TX2, 8, rfl, by decide, ab_in 55 (by decide +kernel) rfl⟩, List.forall_mem_cons.mpr ⟨⟨RX2, TX2, 8, rfl, by decide, ab_in 59 (by decide +kernel) rfl⟩, List.forall_mem_cons.mpr ⟨⟨RX5, TX5, 7, rfl, by decide, ab_in 104 (by decide +kernel) rfl⟩, List.forall_mem_cons.mpr ⟨⟨RX9, TX9, 5, rfl, by decide, ab_in 133 (by decide +kernel) rfl⟩, List.forall_mem_cons.mpr ⟨⟨RX9, TX9, 5, rfl, by decide, ab_in 135 (by decide +kernel) rfl⟩, List.forall_mem_cons.mpr ⟨⟨RX5, TX5, 7, rfl, by decide, ab_in 102 (by decide +kernel) rfl⟩, List.forall_mem_cons.mpr ⟨⟨RX5, TX5, 7, rfl, by decide, ab_in 97 (by decide +kernel) rfl⟩, List.forall_mem_cons.mpr ⟨⟨RX5, TX5, 7, rfl, by decide, ab_in 88 (by decide +kernel) rfl⟩, List.forall_mem_cons.mpr ⟨⟨RX5, TX5, 7, rfl, by decide, ab_in 91 (by decide +kernel) rfl⟩, List.forall_mem_cons.mpr ⟨⟨RX5, TX5, 7, rfl, by decide, ab_in 94 (by decide +kernel) rfl⟩, List.forall_mem_cons.mpr ⟨⟨RX5, TX5, 7, rfl, by decide, ab_in 99 (by decide +kernel) rfl⟩, List.forall_mem_cons.mpr ⟨⟨RX6, TX6, 6, rfl, by decide, ab_in 265 (by decide +kernel) rfl⟩, List.forall_mem_cons.mpr ⟨⟨RX0, TX0, 2, rfl, by decide, ab_in 372 (by decide +kernel) rfl⟩, List.forall_mem_cons.mpr ⟨⟨RX10, TX10, 13, rfl, by decide, ab_in 224 (by decide +kernel) rfl⟩, List.forall_mem_cons.mpr ⟨⟨RX10, TX10, 13, rfl, by decide, ab_in 226 (by decide +kernel) rfl⟩, List.forall_mem_cons.mpr ⟨⟨RX0, TX0, 2, rfl, by decide, ab_in 374 (by decide +kernel) rfl⟩, List.forall_mem_cons.mpr ⟨⟨RX2, TX2, 8, rfl, by decide, ab_in 46 (by decide +kernel) rfl⟩, List.forall_mem_cons.mpr ⟨⟨RX10, TX10, 13, rfl, by decide, ab_in 218 (by decide +kernel) rfl⟩, List.forall_mem_cons.mpr ⟨⟨RX10, TX10, 13, rfl, by decide, ab_in 220 (by decide +kernel) rfl⟩, List.forall_mem_cons.mpr ⟨⟨RX10, TX10, 13, rfl, by decide, ab_in 222 (by decide +kernel) rfl⟩, List.forall_mem_cons.mpr ⟨⟨RX10, TX10, 13, rfl, by decide, ab_in 216 (by decide +kernel) rfl⟩, List.forall_mem_cons.mpr ⟨⟨RX7, TX7, 3, rfl, by decide, ab_in 324 (by decide +kernel) rfl⟩, List.forall_mem_cons.mpr ⟨⟨RX7, TX7, 3, rfl, by decide, ab_in 326 (by decide +kernel) rfl⟩, List.forall_mem_cons.mpr ⟨⟨RX2, TX2, 8, rfl, by decide, ab_in 61 (by decide +kernel) rfl⟩, List.forall_mem_cons.mpr ⟨⟨RX3, TX3, 8, rfl, by decide, ab_in 295 (by decide +kernel) rfl⟩, List.forall_mem_cons.mpr ⟨⟨RX3, TX3, 8, rfl, by decide, ab_in 297 (by decide +kernel) rfl⟩, List.forall_mem_cons.mpr ⟨⟨RX3, TX3, 8, rfl, by decide, ab_in 299 (by decide +kernel) rfl⟩, List.forall_mem_cons.mpr ⟨⟨RX4, TX4, 5, rfl, by decide, ab_in 345 (by decide +kernel) rfl⟩, List.forall_mem_cons.mpr ⟨⟨RX4, TX4, 5, rfl, by decide, ab_in 347 (by decide +kernel) rfl⟩, List.forall_mem_cons.mpr ⟨⟨RX4, TX4, 5, rfl, by decide, ab_in 349 (by decide +kernel) rfl⟩, List.forall_mem_cons.mpr ⟨⟨RX4, TX4, 5, rfl, by decide, ab_in 351 (by decide +kernel) rfl⟩, List.forall_mem_cons.mpr ⟨⟨RX4, TX4, 5, rfl, by decide, ab_in 353 (by decide +kernel) rfl⟩, List.forall_mem_cons.mpr ⟨⟨RX7, TX7, 3, rfl, by decide, ab_in 328 (by decide +kernel) rfl⟩, List.forall_mem_cons.mpr ⟨⟨RX6, TX6, 6, rfl, by decide, ab_in 267 (by decide +kernel) rfl⟩, List.forall_mem_nil _⟩⟩⟩⟩⟩⟩⟩⟩⟩⟩⟩⟩⟩⟩⟩⟩⟩⟩⟩⟩⟩⟩⟩⟩⟩⟩⟩⟩⟩⟩⟩⟩⟩⟩⟩⟩⟩⟩⟩⟩⟩⟩⟩⟩⟩⟩⟩⟩⟩⟩)
def zc_X11 : List (Nat × Value) := [(218, .long (-4611686018427387904)), (259, .long 1000000000000000000), (290, .long 1000000000), (295, .int 99999)]
def zf_X12 : List (Nat × Nat × Nat) := [(7, 12, 0), (13, 12, 1), (16, 12, 3), (19, 12, 4), (22, 12, 5), (25, 12, 6), (29, 12, 8), (32, 12, 9), (35, 12, 10), (38, 12, 11), (41, 12, 13), (44, 12, 14), (47, 12, 15), (50, 12, 16), (53, 12, 17), (56, 12, 18), (59, 12, 19), (62, 12, 21), (65, 12, 22), (68, 12, 23), (71, 12, 25), (74, 12, 27), (77, 12, 30), (80, 12, 41), (83, 12, 42), (86, 12, 43), (89, 12, 44), (92, 12, 45), (95, 12, 46), (98, 12, 47), (101, 12, 48), (104, 12, 49), (131, 12, 54), (135, 12, 55), (138, 12, 59), (141, 12, 60), (144, 12, 61), (147, 12, 62), (150, 12, 63), (153, 12, 64), (157, 12, 65), (160, 12, 69), (172, 12, 7), (179, 12, 12), (190, 12, 2), (193, 12, 24), (196, 12, 20), (201, 12, 50), (204, 12, 51), (207, 12, 52), (210, 12, 53), (217, 12, 58), (220, 12, 56), (226, 12, 57), (289, 12, 26), (292, 12, 28), (295, 12, 29), (319, 12, 67), (323, 12, 66), (358, 12, 68), (368, 12, 70), (371, 12, 71), (381, 12, 31), (385, 12, 32), (388, 12, 33), (391, 12, 34), (394, 12, 35), (397, 12, 36), (400, 12, 37), (403, 12, 38), (406, 12, 39), (409, 12, 40)]
theorem zf_X12_ok : ab_Fld RX12 vwCl zf_X12 := zl_fldL (List.forall_mem_cons.mpr ⟨⟨RX12, TX12, 72, rfl, by decide, ab_in 977 (by decide +kernel) rfl⟩, List.forall_mem_cons.mpr ⟨⟨RX12, TX12, 72, rfl, by decide, ab_in 978 (by decide +kernel) rfl⟩, List.forall_mem_cons.mpr ⟨⟨RX12, TX12, 72, rfl, by decide, ab_in 980 (by decide +kernel) rfl⟩, List.forall_mem_cons.mpr ⟨⟨RX12, TX12, 72, rfl, by decide, ab_in 981 (by decide +kernel) rfl⟩, List.forall_mem_cons.mpr ⟨⟨RX12, TX12, 72, rfl, by decide, ab_in 982 (by decide +kernel) rfl⟩, List.forall_mem_cons.mpr ⟨⟨RX12, TX12, 72, rfl, by decide, ab_in 983 (by decide +kernel) rfl⟩, List.forall_mem_cons.mpr ⟨⟨RX12, TX12, 72, rfl, by decide, ab_in 985 (by decide +kernel) rfl⟩, List.forall_mem_cons.mpr ⟨⟨RX12, TX12, 72, rfl, by decide, ab_in 986 (by decide +kernel) rfl⟩, List.forall_mem_cons.mpr ⟨⟨RX12, TX12, 72, rfl, by decide, ab_in 987 (by decide +kernel) rfl⟩, List.forall_mem_cons.mpr ⟨⟨RX12, TX12, 72, rfl, by decide, ab_in 988 (by decide +kernel) rfl⟩, List.forall_mem_cons.mpr ⟨⟨RX12, TX12, 72, rfl, by decide, ab_in 990 (by decide +kernel) rfl⟩, List.forall_mem_cons.mpr ⟨⟨RX12, TX12, 72, rfl, by decide, ab_in 991 (by decide +kernel) rfl⟩, List.forall_mem_cons.mpr ⟨⟨RX12, TX12, 72, rfl, by decide, ab_in 992 (by decide +kernel) rfl⟩, List.forall_mem_cons.mpr ⟨⟨RX12, TX12, 72, rfl, by decide, ab_in 993 (by decide +kernel) rfl⟩, List.forall_mem_cons.mpr ⟨⟨RX12, TX12, 72, rfl, by decide, ab_in 994 (by decide +kernel) rfl⟩, List.forall_mem_cons.mpr ⟨⟨RX12, TX12, 72, rfl, by decide, ab_in 995 (by decide +kernel) rfl⟩, List.forall_mem_cons.mpr ⟨⟨RX12, TX12, 72, rfl, by decide, ab_in 996 (by decide +kernel) rfl⟩, List.forall_mem_cons.mpr ⟨⟨RX12, TX12, 72, rfl, by decide, ab_in 998 (by decide +kernel) rfl⟩, List.forall_mem_cons.mpr ⟨⟨RX12, TX12, 72, rfl, by decide, ab_in 999 (by decide +kernel) rfl⟩, List.forall_mem_cons.mpr ⟨⟨RX12, TX12, 72, rfl, by decide, ab_in 1000 (by decide +kernel) rfl⟩, List.forall_mem_cons.mpr ⟨⟨RX12, TX12, 72, rfl, by decide, ab_in 1002 (by decide +kernel) rfl⟩, List.forall_mem_cons.mpr ⟨⟨RX12, TX12, 72, rfl, by decide, ab_in 1004 (by decide +kernel) rfl⟩, List.forall_mem_cons.mpr ⟨⟨RX12, TX12, 72, rfl, by decide, ab_in 1007 (by decide +kernel) rfl⟩, List.forall_mem_cons.mpr ⟨⟨RX12, TX12, 72, rfl, by decide, ab_in 1018 (by decide +kernel) rfl⟩, List.forall_mem_cons.mpr ⟨⟨RX12, TX12, 72, rfl, by decide, ab_in 1019 (by decide +kernel) rfl⟩, List.forall_mem_cons.mpr ⟨⟨RX12, TX12, 72, rfl, by decide, ab_in 1020 (by decide +kernel) rfl⟩, List.forall_mem_cons.mpr ⟨⟨RX12, TX12, 72, rfl, by decide, ab_in 1021 (by decide +kernel) rfl⟩, List.forall_mem_cons.mpr ⟨⟨RX12, TX12, 72, rfl, by decide, ab_in 1022 (by decide +kernel) rfl⟩, List.forall_mem_cons.mpr ⟨⟨RX12, TX12, 72, rfl, by decide, ab_in 1023 (by decide +kernel) rfl⟩, List.forall_mem_cons.mpr ⟨⟨RX12, TX12, 72, rfl, by decide, ab_in 1024 (by decide +kernel) rfl⟩, List.forall_mem_cons.mpr ⟨⟨RX12, TX12, 72, rfl, by decide, ab_in 1025 (by decide +kernel) rfl⟩, List.forall_mem_cons.mpr ⟨⟨RX12, TX12, 72, rfl, by decide, ab_in 1026 (by decide +kernel) rfl⟩, List.forall_mem_cons.mpr ⟨⟨RX12, TX12, 72, rfl, by decide, ab_in 1031 (by decide +kernel) rfl⟩, List.forall_mem_cons.mpr ⟨⟨RX12, TX12, 72, rfl, by decide, ab_in 1032 (by decide +kernel) rfl⟩, List.forall_mem_cons.mpr ⟨⟨RX12, TX12, 72, rfl, by decide, ab_in 1036 (by decide +kernel) rfl⟩, List.forall_mem_cons.mpr ⟨⟨RX12, TX12, 72, rfl, by decide, ab_in 1037 (by decide +kernel) rfl⟩, List.forall_mem_cons.mpr ⟨⟨RX12, TX12, 72, rfl, by decide, ab_in 1038 (by decide +kernel) rfl⟩, List.forall_mem_cons.mpr ⟨⟨RX12, TX12, 72, rfl, by decide, ab_in 1039 (by decide +kernel) rfl⟩, List.forall_mem_cons.mpr ⟨⟨RX12, TX12, 72, rfl, by decide, ab_in 1040 (by decide +kernel) rfl⟩, List.forall_mem_cons.mpr ⟨⟨RX12, TX12, 72, rfl, by decide, ab_in 1041 (by decide +kernel) rfl⟩, List.forall_mem_cons.mpr ⟨⟨RX12, TX12, 72, rfl, by decide, ab_in 1042 (by decide +kernel) rfl⟩, List.forall_mem_cons.mpr ⟨⟨RX12, TX12, 72, rfl, by decide, ab_in 1046 (by decide +kernel) rfl⟩, List.forall_mem_cons.mpr ⟨⟨RX12, TX12, 72, rfl, by decide, ab_in 984 (by decide +kernel) rfl⟩, List.forall_mem_cons.mpr ⟨⟨RX12, TX12, 72, rfl, by decide, ab_in 989 (by decide +kernel) rfl⟩, List.forall_mem_cons.mpr ⟨⟨RX12, TX12, 72, rfl, by decide, ab_in 979 (by decide +kernel) rfl⟩, List.forall_mem_cons.mpr ⟨⟨RX12, TX12, 72, rfl, by decide, ab_in 1001 (by decide +kernel) rfl⟩, List.forall_mem_cons.mpr ⟨⟨RX12, TX12, 72, rfl, by decide, ab_in 997 (by decide +kernel) rfl⟩, List.forall_mem_cons.mpr ⟨⟨RX12, TX12, 72, rfl, by decide, ab_in 1027 (by decide +kernel) rfl⟩, List.forall_mem_cons.mpr ⟨⟨RX12, TX12, 72, rfl, by decide, ab_in 1028 (by decide +kernel) rfl⟩, List.forall_mem_cons.mpr ⟨⟨RX12, TX12, 72, rfl, by decide, ab_in 1029 (by decide +kernel) rfl⟩, List.forall_mem_cons.mpr ⟨⟨RX12, TX12, 72, rfl, by decide, ab_in 1030 (by decide +kernel) rfl⟩, List.forall_mem_cons.mpr ⟨⟨RX12, TX12, 72, rfl, by decide, ab_in 1035 (by decide +kernel) rfl⟩, List.forall_mem_cons.mpr ⟨⟨RX12, TX12, 72, rfl, by decide, ab_in 1033 (by decide +kernel) rfl⟩, List.forall_mem_cons.mpr ⟨⟨RX12, TX12, 72, rfl, by decide, ab_in 1034 (by decide +kernel) rfl⟩, List.forall_mem_cons.mpr ⟨⟨RX12, TX12, 72, rfl, by decide, ab_in 1003 (by decide +kernel) rfl⟩, List.forall_mem_cons.mpr ⟨⟨RX12, TX12, 72, rfl, by decide, ab_in 1005 (by decide +kernel) rfl⟩, List.forall_mem_cons.mpr ⟨⟨RX12, TX12, 72, rfl, by decide, ab_in 1006 (by decide +kernel) rfl⟩, List.forall_mem_cons.mpr ⟨⟨RX12, TX12, 72, rfl, by decide, ab_in 1044 (by decide +kernel) rfl⟩, List.forall_mem_cons.mpr ⟨⟨RX12, TX12, 72, rfl, by decide, ab_in 1043 (by decide +kernel) rfl⟩, List.forall_mem_cons.mpr ⟨⟨RX12, TX12, 72, rfl, by decide, ab_in 1045 (by decide +kernel) rfl⟩, List.forall_mem_cons.mpr ⟨⟨RX12, TX12, 72, rfl, by decide, ab_in 1047 (by decide +kernel) rfl⟩, List.forall_mem_cons.mpr ⟨⟨RX12, TX12, 72, rfl, by decide, ab_in 1048 (by decide +kernel) rfl⟩, List.forall_mem_cons.mpr ⟨⟨RX12, TX12, 72, rfl, by decide, ab_in 1008 (by decide +kernel) rfl⟩, List.forall_mem_cons.mpr ⟨⟨RX12, TX12, 72, rfl, by decide, ab_in 1009 (by decide +kernel) rfl⟩, List.forall_mem_cons.mpr ⟨⟨RX12, TX12, 72, rfl, by decide, ab_in 1010 (by decide +kernel) rfl⟩, List.forall_mem_cons.mpr ⟨⟨RX12, TX12, 72, rfl, by decide, ab_in 1011 (by decide +kernel) rfl⟩, List.forall_mem_cons.mpr ⟨⟨RX12, TX12, 72, rfl, by decide, ab_in 1012 (by decide +kernel) rfl⟩, List.forall_mem_cons.mpr ⟨⟨RX12, TX12, 72, rfl, by decide, ab_in 1013 (by decide +kernel) rfl⟩, List.forall_mem_cons.mpr ⟨⟨RX12, TX12, 72, rfl, by decide, ab_in 1014 (by decide +kernel) rfl⟩, List.forall_mem_cons.mpr ⟨⟨RX12, TX12, 72, rfl, by decide, ab_in 1015 (by decide +kernel) rfl⟩, List.forall_mem_cons.mpr ⟨⟨RX12, TX12, 72, rfl, by decide, ab_in 1016 (by decide +kernel) rfl⟩, List.forall_mem_cons.mpr ⟨⟨RX12, TX12, 72, rfl, by decide, ab_in 1017 (by decide +kernel) rfl⟩, List.forall_mem_nil _⟩⟩⟩⟩⟩⟩⟩⟩⟩⟩⟩⟩⟩⟩⟩⟩⟩⟩⟩⟩⟩⟩⟩⟩⟩⟩⟩⟩⟩⟩⟩⟩⟩⟩⟩⟩⟩⟩⟩⟩⟩⟩⟩⟩⟩⟩⟩⟩⟩⟩⟩⟩⟩⟩⟩⟩⟩⟩⟩⟩⟩⟩⟩⟩⟩⟩⟩⟩⟩⟩⟩⟩)
def zc_X12 : List (Nat × Value) := [(107, .long 1919513451), (109, .long 1936024942), (111, .long 1751216749), (113, .long 512736126322), (115, .long 7302244), (117, .long 2003398244), (119, .long 1937007984), (121, .long 512970880104), (123, .long 1885430629), (125, .long 28530), (127, .long 6385252), (129, .long 7237492), (163, .int 100004), (168, .int 100020), (169, .int 100030), (170, .int 100015), (171, .int 100010), (199, .long 255), (242, .int 100000), (317, .long 100), (326, .long 1000000000), (328, .long 1000), (341, .long (-4611686018427387904)), (361, .long 48271), (363, .long 2147483647), (377, .int 99999)]
/-- transformers: a value that depends on the arguments and the memory alone; a start and an end -/
def ab_pure (f : List Value → ab_M → ab_N → Option Value) : ab_T := fun as M N k => match f as M N with
  | some v => k (some v) M N
  | none => False
def ab_pp (g : List Value → ab_M → ab_N → Option (Prop × Value)) : ab_T := fun as M N k => match g as M N with
  | some q => q.1 ∧ k (some q.2) M N
  | none => False
theorem ab_pp_mono (g : List Value → ab_M → ab_N → Option (Prop × Value)) : ab_mono (ab_pp g) := fun as M N k k2 hk h => by
  unfold ab_pp at h ⊢
  split at h
  · exact ⟨h.1, hk _ _ _ h.2⟩
  · exact h
def ab_spec (pre : List Value → ab_M → ab_N → Prop) (post : List Value → ab_M → ab_N → Option Value → ab_M → ab_N → Prop) : ab_T := fun as M N k => pre as M N ∧ ∀ (r : Option Value) (M2 : ab_M) (N2 : ab_N), post as M N r M2 N2 → k r M2 N2
theorem ab_pure_mono (f : List Value → ab_M → ab_N → Option Value) : ab_mono (ab_pure f) := fun as M N k k2 hk h => by
  unfold ab_pure at h ⊢
  split at h
  · exact hk _ _ _ h
  · exact h
theorem ab_spec_mono (pre : List Value → ab_M → ab_N → Prop) (post : List Value → ab_M → ab_N → Option Value → ab_M → ab_N → Prop) : ab_mono (ab_spec pre post) := fun as M N k k2 hk h => ⟨h.1, fun r M2 N2 hp => hk r M2 N2 (h.2 r M2 N2 hp)⟩
theorem ab_MGof {G : ab_G} (h1 : ∀ q ∈ G.2.2.2.2.2.1, ab_mono q.2.2) (h2 : ∀ q ∈ G.2.2.2.2.2.2, ab_mono q.2.2) : ab_MG G := ⟨fun i n T h => h1 _ (ab_a_in _ _ _ h), fun i n T h => h2 _ (ab_a_in _ _ _ h)⟩
def ab_b (c : Prop) [Decidable c] : Int32 := if c then 1 else 0
theorem ab_b_0 {c : Prop} [Decidable c] : ab_b c = 0 ↔ ¬ c := by unfold ab_b; split <;> simp_all
theorem ab_b_1 {c : Prop} [Decidable c] : ab_b c = 1 ↔ c := by unfold ab_b; split <;> simp_all
theorem ab_b_n {c : Prop} [Decidable c] : narrow .boolean (.int (ab_b c)) = .int (ab_b c) := by unfold ab_b; split <;> rfl
theorem ab_n0 : narrow .boolean (.int 0) = .int 0 := rfl
theorem ab_n1 : narrow .boolean (.int 1) = .int 1 := rfl
/-- the JDK's own -/
def zt_max : ab_T := ab_pure (fun as _ _ => match as with
  | [.int x, .int y] => some (.int (if x < y then y else x))
  | _ => none)
def zt_min : ab_T := ab_pure (fun as _ _ => match as with
  | [.int x, .int y] => some (.int (if y < x then y else x))
  | _ => none)
def zt_abs : ab_T := ab_pure (fun as _ _ => match as with
  | [.int x] => some (.int (if 0 ≤ x then x else 0 - x))
  | _ => none)
theorem ab_callMax {l : Launch} {own : String} {rm : Room} {Λ : List ab_L} {cl : List vw_C} {Z : ab_Zt} {i : Nat} (h1 : Cond.methodLink own i Lib.Math.max.name ∈ ab_B) (h2 : Cond.static Lib.Math.max.name ∈ ab_B) (h3 : Cond.initialized "java/lang/Math" ∈ ab_B) (h4 : Cond.code Lib.Math.max.name Lib.Math.max.code 2 (some .int) ∈ ab_B) (hf : 1 ≤ rm.frames) (hlo : 21 ≤ rm.locals) : ab_Call l own rm Λ cl Z .invokestatic i 2 zt_max := by
  intro p e s m args below meth c cc nL ret D cy ad Qm ck sk hck hsk hE hZs pc H locs lsC as rest M N k hdec hlen hcat hsz hP hS hT kk
  obtain ⟨⟨hx, hb, hml, hown, hts⟩, -⟩ := hE
  match as, hlen, hT with
  | [.int x, .int y], _, hT => exact va_mmax (rest := rest) hx hb (hml.trans hsz.symm) hown (hts _ h1) (hts _ h2) (hts _ h3) (hts _ h4) hf (by omega) hck hsk hdec (kk _ M N H locs hT hP hS)
theorem ab_callMin {l : Launch} {own : String} {rm : Room} {Λ : List ab_L} {cl : List vw_C} {Z : ab_Zt} {i : Nat} (h1 : Cond.methodLink own i Lib.Math.min.name ∈ ab_B) (h2 : Cond.static Lib.Math.min.name ∈ ab_B) (h3 : Cond.initialized "java/lang/Math" ∈ ab_B) (h4 : Cond.code Lib.Math.min.name Lib.Math.min.code 2 (some .int) ∈ ab_B) (hf : 1 ≤ rm.frames) (hlo : 21 ≤ rm.locals) : ab_Call l own rm Λ cl Z .invokestatic i 2 zt_min := by
  intro p e s m args below meth c cc nL ret D cy ad Qm ck sk hck hsk hE hZs pc H locs lsC as rest M N k hdec hlen hcat hsz hP hS hT kk
  obtain ⟨⟨hx, hb, hml, hown, hts⟩, -⟩ := hE
  match as, hlen, hT with
  | [.int x, .int y], _, hT => exact va_mmin (rest := rest) hx hb (hml.trans hsz.symm) hown (hts _ h1) (hts _ h2) (hts _ h3) (hts _ h4) hf (by omega) hck hsk hdec (kk _ M N H locs hT hP hS)
theorem ab_callAbs {l : Launch} {own : String} {rm : Room} {Λ : List ab_L} {cl : List vw_C} {Z : ab_Zt} {i : Nat} (h1 : Cond.methodLink own i Lib.Math.abs.name ∈ ab_B) (h2 : Cond.static Lib.Math.abs.name ∈ ab_B) (h3 : Cond.initialized "java/lang/Math" ∈ ab_B) (h4 : Cond.code Lib.Math.abs.name Lib.Math.abs.code 1 (some .int) ∈ ab_B) (hf : 1 ≤ rm.frames) (hlo : 21 ≤ rm.locals) : ab_Call l own rm Λ cl Z .invokestatic i 1 zt_abs := by
  intro p e s m args below meth c cc nL ret D cy ad Qm ck sk hck hsk hE hZs pc H locs lsC as rest M N k hdec hlen hcat hsz hP hS hT kk
  obtain ⟨⟨hx, hb, hml, hown, hts⟩, -⟩ := hE
  match as, hlen, hT with
  | [.int x], _, hT => exact va_mabs (rest := rest) hx hb (hml.trans hsz.symm) hown (hts _ h1) (hts _ h2) (hts _ h3) (hts _ h4) hf (by omega) hck hsk hdec (kk _ M N H locs hT hP hS)
/-- System.arraycopy between int arrays of the world -/
def zt_acopy (Λ : List ab_L) : ab_T := fun as M N k => match as with
  | [.ref a, .int sp, .ref b, .int dp, .int n] => match Λ[a]?, Λ[b]? with
    | some (.inr (.int, n0)), some (.inr (.int, n1)) => (¬ sp < 0 ∧ ¬ dp < 0 ∧ ¬ n < 0 ∧ sp.toNatClampNeg + n.toNatClampNeg ≤ n0 ∧ dp.toNatClampNeg + n.toNatClampNeg ≤ n1) ∧ k none (ab_u M b (va_cpy (M a) (M b) sp.toNatClampNeg dp.toNatClampNeg n.toNatClampNeg)) N
    | _, _ => False
  | _ => False
theorem zt_acopy_mono (Λ : List ab_L) : ab_mono (zt_acopy Λ) := fun as M N k k2 hk h => by
  unfold zt_acopy at h ⊢
  split at h
  · split at h
    · exact ⟨h.1, hk _ _ _ h.2⟩
    · exact h
  · exact h
theorem ab_callCopy {l : Launch} {own : String} {rm : Room} {Λ : List ab_L} {cl : List vw_C} {Z : ab_Zt} {i : Nat} (h1 : Cond.methodLink own i arraycopyName ∈ ab_B) (h2 : Cond.native arraycopyName ∈ ab_B) (h3 : Cond.static arraycopyName ∈ ab_B) (h4 : Cond.initialized "java/lang/System" ∈ ab_B) (hf : 1 ≤ rm.frames) (hlo : 26 ≤ rm.locals) : ab_Call l own rm Λ cl Z .invokestatic i 5 (zt_acopy Λ) := by
  intro p e s m args below meth c cc nL ret D cy ad Qm ck sk hck hsk hE hZs pc H locs lsC as rest M N k hdec hlen hcat hsz hP hS hT kk
  obtain ⟨⟨hx, hb, hml, hown, hts⟩, hr, hlocks, hK, hinj, hAad, hA⟩ := hE
  have hD := ab_w_D (cy := cy) hinj hAad M N
  match as, hlen, hT with
  | [.ref a, .int sp, .ref b, .int dp, .int n], _, hT =>
    unfold zt_acopy at hT
    dsimp only at hT
    split at hT
    · rename_i n0 n1 ha hb2
      obtain ⟨⟨g1, g2, g3, g4, g5⟩, hk⟩ := hT
      refine va_copyi (rest := rest) hx hb (hml.trans hsz.symm) hown (hts _ h1) (hts _ h2) (hts _ h3) (hts _ h4) hK hP hD hS a b 0 0 (ab_w_at ha) (ab_w_at hb2) rfl rfl rfl g1 g2 g3 g4 g5 (fun _ _ => rfl) hf (by show _ + ((5 + 2) + 11) ≤ _; omega) hdec (fun H1 locs1 hP1 hD1 hS1 => ?_)
      rw [ab_w_I hb2 (by decide)] at hP1
      exact kk none _ N H1 locs1 hk hP1 hS1
    · exact hT.elim
def ab_m0 (r : Nat) (pre : ab_M → ab_N → Prop) (post : ab_M → ab_N → Option Value → ab_M → ab_N → Prop) : ab_T := fun as M N k => match as with
  | [.ref q] => (match Nat.beq q r with
    | true => pre M N ∧ ∀ (o : Option Value) (M2 : ab_M) (N2 : ab_N), post M N o M2 N2 → k o M2 N2
    | false => False)
  | _ => False
theorem ab_m0_e {r : Nat} {pre : ab_M → ab_N → Prop} {post : ab_M → ab_N → Option Value → ab_M → ab_N → Prop} {as : List Value} {M : ab_M} {N : ab_N} {k : ab_R} (h : ab_m0 r pre post as M N k) : as = [.ref r] ∧ pre M N ∧ ∀ (o : Option Value) (M2 : ab_M) (N2 : ab_N), post M N o M2 N2 → k o M2 N2 := by
  unfold ab_m0 at h
  split at h
  · split at h
    · rename_i hb
      rw [Nat.eq_of_beq_eq_true hb]
      exact ⟨rfl, h⟩
    · exact h.elim
  · exact h.elim
theorem ab_m0_mono (r : Nat) (pre : ab_M → ab_N → Prop) (post : ab_M → ab_N → Option Value → ab_M → ab_N → Prop) : ab_mono (ab_m0 r pre post) := fun as M N k k2 hk h => by
  unfold ab_m0 at h ⊢
  split at h
  · split at h
    · exact ⟨h.1, fun o M2 N2 hp => hk o M2 N2 (h.2 o M2 N2 hp)⟩
    · exact h
  · exact h
theorem ab_m0_v {Λ : List ab_L} {cl : List vw_C} {C : String} {r ci : Nat} {fs : List (Nat ⊕ FieldType)} {T0 : u_T} {N0 : Nat} {pre : ab_M → ab_N → Prop} {post : ab_M → ab_N → Option Value → ab_M → ab_N → Prop} (h1 : Λ[r]? = some (.inl (ci, fs))) (h2 : cl[ci]? = some (C, T0, N0)) : ab_recv Λ cl C (ab_m0 r pre post) := fun as M N k h => by
  obtain ⟨rfl, -⟩ := ab_m0_e h
  exact ⟨r, _, ci, fs, T0, N0, rfl, h1, h2⟩
def ab_m1 (r : Nat) (pre : Int32 → ab_M → ab_N → Prop) (post : Int32 → ab_M → ab_N → Option Value → ab_M → ab_N → Prop) : ab_T := fun as M N k => match as with
  | [.ref q, .int a] => (match Nat.beq q r with
    | true => pre a M N ∧ ∀ (o : Option Value) (M2 : ab_M) (N2 : ab_N), post a M N o M2 N2 → k o M2 N2
    | false => False)
  | _ => False
theorem ab_m1_e {r : Nat} {pre : Int32 → ab_M → ab_N → Prop} {post : Int32 → ab_M → ab_N → Option Value → ab_M → ab_N → Prop} {as : List Value} {M : ab_M} {N : ab_N} {k : ab_R} (h : ab_m1 r pre post as M N k) : ∃ (a : Int32), as = [.ref r, .int a] ∧ pre a M N ∧ ∀ (o : Option Value) (M2 : ab_M) (N2 : ab_N), post a M N o M2 N2 → k o M2 N2 := by
  unfold ab_m1 at h
  split at h
  · split at h
    · rename_i hb
      rw [Nat.eq_of_beq_eq_true hb]
      exact ⟨_, rfl, h⟩
    · exact h.elim
  · exact h.elim
theorem ab_m1_mono (r : Nat) (pre : Int32 → ab_M → ab_N → Prop) (post : Int32 → ab_M → ab_N → Option Value → ab_M → ab_N → Prop) : ab_mono (ab_m1 r pre post) := fun as M N k k2 hk h => by
  unfold ab_m1 at h ⊢
  split at h
  · split at h
    · exact ⟨h.1, fun o M2 N2 hp => hk o M2 N2 (h.2 o M2 N2 hp)⟩
    · exact h
  · exact h
theorem ab_m1_v {Λ : List ab_L} {cl : List vw_C} {C : String} {r ci : Nat} {fs : List (Nat ⊕ FieldType)} {T0 : u_T} {N0 : Nat} {pre : Int32 → ab_M → ab_N → Prop} {post : Int32 → ab_M → ab_N → Option Value → ab_M → ab_N → Prop} (h1 : Λ[r]? = some (.inl (ci, fs))) (h2 : cl[ci]? = some (C, T0, N0)) : ab_recv Λ cl C (ab_m1 r pre post) := fun as M N k h => by
  obtain ⟨_, rfl, -⟩ := ab_m1_e h
  exact ⟨r, _, ci, fs, T0, N0, rfl, h1, h2⟩
def ab_m2 (r : Nat) (pre : Int32 → Int32 → ab_M → ab_N → Prop) (post : Int32 → Int32 → ab_M → ab_N → Option Value → ab_M → ab_N → Prop) : ab_T := fun as M N k => match as with
  | [.ref q, .int a, .int b] => (match Nat.beq q r with
    | true => pre a b M N ∧ ∀ (o : Option Value) (M2 : ab_M) (N2 : ab_N), post a b M N o M2 N2 → k o M2 N2
    | false => False)
  | _ => False
theorem ab_m2_e {r : Nat} {pre : Int32 → Int32 → ab_M → ab_N → Prop} {post : Int32 → Int32 → ab_M → ab_N → Option Value → ab_M → ab_N → Prop} {as : List Value} {M : ab_M} {N : ab_N} {k : ab_R} (h : ab_m2 r pre post as M N k) : ∃ (a b : Int32), as = [.ref r, .int a, .int b] ∧ pre a b M N ∧ ∀ (o : Option Value) (M2 : ab_M) (N2 : ab_N), post a b M N o M2 N2 → k o M2 N2 := by
  unfold ab_m2 at h
  split at h
  · split at h
    · rename_i hb
      rw [Nat.eq_of_beq_eq_true hb]
      exact ⟨_, _, rfl, h⟩
    · exact h.elim
  · exact h.elim
theorem ab_m2_mono (r : Nat) (pre : Int32 → Int32 → ab_M → ab_N → Prop) (post : Int32 → Int32 → ab_M → ab_N → Option Value → ab_M → ab_N → Prop) : ab_mono (ab_m2 r pre post) := fun as M N k k2 hk h => by
  unfold ab_m2 at h ⊢
  split at h
  · split at h
    · exact ⟨h.1, fun o M2 N2 hp => hk o M2 N2 (h.2 o M2 N2 hp)⟩
    · exact h
  · exact h
theorem ab_m2_v {Λ : List ab_L} {cl : List vw_C} {C : String} {r ci : Nat} {fs : List (Nat ⊕ FieldType)} {T0 : u_T} {N0 : Nat} {pre : Int32 → Int32 → ab_M → ab_N → Prop} {post : Int32 → Int32 → ab_M → ab_N → Option Value → ab_M → ab_N → Prop} (h1 : Λ[r]? = some (.inl (ci, fs))) (h2 : cl[ci]? = some (C, T0, N0)) : ab_recv Λ cl C (ab_m2 r pre post) := fun as M N k h => by
  obtain ⟨_, _, rfl, -⟩ := ab_m2_e h
  exact ⟨r, _, ci, fs, T0, N0, rfl, h1, h2⟩
def ab_m3 (r : Nat) (pre : Int32 → Int32 → Int32 → ab_M → ab_N → Prop) (post : Int32 → Int32 → Int32 → ab_M → ab_N → Option Value → ab_M → ab_N → Prop) : ab_T := fun as M N k => match as with
  | [.ref q, .int a, .int b, .int c] => (match Nat.beq q r with
    | true => pre a b c M N ∧ ∀ (o : Option Value) (M2 : ab_M) (N2 : ab_N), post a b c M N o M2 N2 → k o M2 N2
    | false => False)
  | _ => False
theorem ab_m3_e {r : Nat} {pre : Int32 → Int32 → Int32 → ab_M → ab_N → Prop} {post : Int32 → Int32 → Int32 → ab_M → ab_N → Option Value → ab_M → ab_N → Prop} {as : List Value} {M : ab_M} {N : ab_N} {k : ab_R} (h : ab_m3 r pre post as M N k) : ∃ (a b c : Int32), as = [.ref r, .int a, .int b, .int c] ∧ pre a b c M N ∧ ∀ (o : Option Value) (M2 : ab_M) (N2 : ab_N), post a b c M N o M2 N2 → k o M2 N2 := by
  unfold ab_m3 at h
  split at h
  · split at h
    · rename_i hb
      rw [Nat.eq_of_beq_eq_true hb]
      exact ⟨_, _, _, rfl, h⟩
    · exact h.elim
  · exact h.elim
theorem ab_m3_mono (r : Nat) (pre : Int32 → Int32 → Int32 → ab_M → ab_N → Prop) (post : Int32 → Int32 → Int32 → ab_M → ab_N → Option Value → ab_M → ab_N → Prop) : ab_mono (ab_m3 r pre post) := fun as M N k k2 hk h => by
  unfold ab_m3 at h ⊢
  split at h
  · split at h
    · exact ⟨h.1, fun o M2 N2 hp => hk o M2 N2 (h.2 o M2 N2 hp)⟩
    · exact h
  · exact h
theorem ab_m3_v {Λ : List ab_L} {cl : List vw_C} {C : String} {r ci : Nat} {fs : List (Nat ⊕ FieldType)} {T0 : u_T} {N0 : Nat} {pre : Int32 → Int32 → Int32 → ab_M → ab_N → Prop} {post : Int32 → Int32 → Int32 → ab_M → ab_N → Option Value → ab_M → ab_N → Prop} (h1 : Λ[r]? = some (.inl (ci, fs))) (h2 : cl[ci]? = some (C, T0, N0)) : ab_recv Λ cl C (ab_m3 r pre post) := fun as M N k h => by
  obtain ⟨_, _, _, rfl, -⟩ := ab_m3_e h
  exact ⟨r, _, ci, fs, T0, N0, rfl, h1, h2⟩
def ab_m4 (r : Nat) (pre : Int32 → Int32 → Int32 → Int32 → ab_M → ab_N → Prop) (post : Int32 → Int32 → Int32 → Int32 → ab_M → ab_N → Option Value → ab_M → ab_N → Prop) : ab_T := fun as M N k => match as with
  | [.ref q, .int a, .int b, .int c, .int d] => (match Nat.beq q r with
    | true => pre a b c d M N ∧ ∀ (o : Option Value) (M2 : ab_M) (N2 : ab_N), post a b c d M N o M2 N2 → k o M2 N2
    | false => False)
  | _ => False
theorem ab_m4_e {r : Nat} {pre : Int32 → Int32 → Int32 → Int32 → ab_M → ab_N → Prop} {post : Int32 → Int32 → Int32 → Int32 → ab_M → ab_N → Option Value → ab_M → ab_N → Prop} {as : List Value} {M : ab_M} {N : ab_N} {k : ab_R} (h : ab_m4 r pre post as M N k) : ∃ (a b c d : Int32), as = [.ref r, .int a, .int b, .int c, .int d] ∧ pre a b c d M N ∧ ∀ (o : Option Value) (M2 : ab_M) (N2 : ab_N), post a b c d M N o M2 N2 → k o M2 N2 := by
  unfold ab_m4 at h
  split at h
  · split at h
    · rename_i hb
      rw [Nat.eq_of_beq_eq_true hb]
      exact ⟨_, _, _, _, rfl, h⟩
    · exact h.elim
  · exact h.elim
theorem ab_m4_mono (r : Nat) (pre : Int32 → Int32 → Int32 → Int32 → ab_M → ab_N → Prop) (post : Int32 → Int32 → Int32 → Int32 → ab_M → ab_N → Option Value → ab_M → ab_N → Prop) : ab_mono (ab_m4 r pre post) := fun as M N k k2 hk h => by
  unfold ab_m4 at h ⊢
  split at h
  · split at h
    · exact ⟨h.1, fun o M2 N2 hp => hk o M2 N2 (h.2 o M2 N2 hp)⟩
    · exact h
  · exact h
theorem ab_m4_v {Λ : List ab_L} {cl : List vw_C} {C : String} {r ci : Nat} {fs : List (Nat ⊕ FieldType)} {T0 : u_T} {N0 : Nat} {pre : Int32 → Int32 → Int32 → Int32 → ab_M → ab_N → Prop} {post : Int32 → Int32 → Int32 → Int32 → ab_M → ab_N → Option Value → ab_M → ab_N → Prop} (h1 : Λ[r]? = some (.inl (ci, fs))) (h2 : cl[ci]? = some (C, T0, N0)) : ab_recv Λ cl C (ab_m4 r pre post) := fun as M N k h => by
  obtain ⟨_, _, _, _, rfl, -⟩ := ab_m4_e h
  exact ⟨r, _, ci, fs, T0, N0, rfl, h1, h2⟩
def ab_m5 (r : Nat) (pre : Int32 → Int32 → Int32 → Int32 → Int32 → ab_M → ab_N → Prop) (post : Int32 → Int32 → Int32 → Int32 → Int32 → ab_M → ab_N → Option Value → ab_M → ab_N → Prop) : ab_T := fun as M N k => match as with
  | [.ref q, .int a, .int b, .int c, .int d, .int e] => (match Nat.beq q r with
    | true => pre a b c d e M N ∧ ∀ (o : Option Value) (M2 : ab_M) (N2 : ab_N), post a b c d e M N o M2 N2 → k o M2 N2
    | false => False)
  | _ => False
theorem ab_m5_e {r : Nat} {pre : Int32 → Int32 → Int32 → Int32 → Int32 → ab_M → ab_N → Prop} {post : Int32 → Int32 → Int32 → Int32 → Int32 → ab_M → ab_N → Option Value → ab_M → ab_N → Prop} {as : List Value} {M : ab_M} {N : ab_N} {k : ab_R} (h : ab_m5 r pre post as M N k) : ∃ (a b c d e : Int32), as = [.ref r, .int a, .int b, .int c, .int d, .int e] ∧ pre a b c d e M N ∧ ∀ (o : Option Value) (M2 : ab_M) (N2 : ab_N), post a b c d e M N o M2 N2 → k o M2 N2 := by
  unfold ab_m5 at h
  split at h
  · split at h
    · rename_i hb
      rw [Nat.eq_of_beq_eq_true hb]
      exact ⟨_, _, _, _, _, rfl, h⟩
    · exact h.elim
  · exact h.elim
theorem ab_m5_mono (r : Nat) (pre : Int32 → Int32 → Int32 → Int32 → Int32 → ab_M → ab_N → Prop) (post : Int32 → Int32 → Int32 → Int32 → Int32 → ab_M → ab_N → Option Value → ab_M → ab_N → Prop) : ab_mono (ab_m5 r pre post) := fun as M N k k2 hk h => by
  unfold ab_m5 at h ⊢
  split at h
  · split at h
    · exact ⟨h.1, fun o M2 N2 hp => hk o M2 N2 (h.2 o M2 N2 hp)⟩
    · exact h
  · exact h
theorem ab_m5_v {Λ : List ab_L} {cl : List vw_C} {C : String} {r ci : Nat} {fs : List (Nat ⊕ FieldType)} {T0 : u_T} {N0 : Nat} {pre : Int32 → Int32 → Int32 → Int32 → Int32 → ab_M → ab_N → Prop} {post : Int32 → Int32 → Int32 → Int32 → Int32 → ab_M → ab_N → Option Value → ab_M → ab_N → Prop} (h1 : Λ[r]? = some (.inl (ci, fs))) (h2 : cl[ci]? = some (C, T0, N0)) : ab_recv Λ cl C (ab_m5 r pre post) := fun as M N k h => by
  obtain ⟨_, _, _, _, _, rfl, -⟩ := ab_m5_e h
  exact ⟨r, _, ci, fs, T0, N0, rfl, h1, h2⟩
theorem ab_qi {Q : ab_R} {M : ab_M} {N : ab_N} {a b : Int32} (h : Q (some (.int a)) M N) (e : b = a) : Q (some (.int b)) M N := e ▸ h
theorem ab_vp {i : Int32} {n : Nat} (m : Int32) (hm : m.toInt = (n : Int)) (h0 : 0 ≤ i) (h1 : i < m) : vp_in i n := vp_in_iff.mpr ⟨by simpa using Int32.le_iff_toInt_le.mp h0, by rw [← hm]; exact Int32.lt_iff_toInt_lt.mp h1⟩
theorem ab_vpk {i : Int32} {n : Nat} (h : (decide (0 ≤ i.toInt) && decide (i.toInt < n)) = true) : vp_in i n := vp_in_iff.mpr (by simpa using h)
theorem ab_cl0 {i : Int32} (h0 : 0 ≤ i) : i = nI i.toNatClampNeg := by
  obtain ⟨j, hj, rfl⟩ := nI_of (Int32.not_lt.mpr h0)
  rw [nI_clamp hj]
theorem ab_m0_i {r : Nat} {pre : ab_M → ab_N → Prop} {post : ab_M → ab_N → Option Value → ab_M → ab_N → Prop} {M : ab_M} {N : ab_N} {k : ab_R} (h1 : pre M N) (h2 : ∀ (o : Option Value) (M2 : ab_M) (N2 : ab_N), post M N o M2 N2 → k o M2 N2) : ab_m0 r pre post [.ref r] M N k := by
  unfold ab_m0
  dsimp only
  rw [Nat.beq_refl]
  exact ⟨h1, h2⟩
theorem ab_m1_i {r : Nat} {pre : Int32 → ab_M → ab_N → Prop} {post : Int32 → ab_M → ab_N → Option Value → ab_M → ab_N → Prop} {a : Int32} {M : ab_M} {N : ab_N} {k : ab_R} (h1 : pre a M N) (h2 : ∀ (o : Option Value) (M2 : ab_M) (N2 : ab_N), post a M N o M2 N2 → k o M2 N2) : ab_m1 r pre post [.ref r, .int a] M N k := by
  unfold ab_m1
  dsimp only
  rw [Nat.beq_refl]
  exact ⟨h1, h2⟩
theorem ab_m2_i {r : Nat} {pre : Int32 → Int32 → ab_M → ab_N → Prop} {post : Int32 → Int32 → ab_M → ab_N → Option Value → ab_M → ab_N → Prop} {a b : Int32} {M : ab_M} {N : ab_N} {k : ab_R} (h1 : pre a b M N) (h2 : ∀ (o : Option Value) (M2 : ab_M) (N2 : ab_N), post a b M N o M2 N2 → k o M2 N2) : ab_m2 r pre post [.ref r, .int a, .int b] M N k := by
  unfold ab_m2
  dsimp only
  rw [Nat.beq_refl]
  exact ⟨h1, h2⟩
theorem ab_m3_i {r : Nat} {pre : Int32 → Int32 → Int32 → ab_M → ab_N → Prop} {post : Int32 → Int32 → Int32 → ab_M → ab_N → Option Value → ab_M → ab_N → Prop} {a b c : Int32} {M : ab_M} {N : ab_N} {k : ab_R} (h1 : pre a b c M N) (h2 : ∀ (o : Option Value) (M2 : ab_M) (N2 : ab_N), post a b c M N o M2 N2 → k o M2 N2) : ab_m3 r pre post [.ref r, .int a, .int b, .int c] M N k := by
  unfold ab_m3
  dsimp only
  rw [Nat.beq_refl]
  exact ⟨h1, h2⟩
theorem ab_m4_i {r : Nat} {pre : Int32 → Int32 → Int32 → Int32 → ab_M → ab_N → Prop} {post : Int32 → Int32 → Int32 → Int32 → ab_M → ab_N → Option Value → ab_M → ab_N → Prop} {a b c d : Int32} {M : ab_M} {N : ab_N} {k : ab_R} (h1 : pre a b c d M N) (h2 : ∀ (o : Option Value) (M2 : ab_M) (N2 : ab_N), post a b c d M N o M2 N2 → k o M2 N2) : ab_m4 r pre post [.ref r, .int a, .int b, .int c, .int d] M N k := by
  unfold ab_m4
  dsimp only
  rw [Nat.beq_refl]
  exact ⟨h1, h2⟩
theorem ab_m5_i {r : Nat} {pre : Int32 → Int32 → Int32 → Int32 → Int32 → ab_M → ab_N → Prop} {post : Int32 → Int32 → Int32 → Int32 → Int32 → ab_M → ab_N → Option Value → ab_M → ab_N → Prop} {a b c d e : Int32} {M : ab_M} {N : ab_N} {k : ab_R} (h1 : pre a b c d e M N) (h2 : ∀ (o : Option Value) (M2 : ab_M) (N2 : ab_N), post a b c d e M N o M2 N2 → k o M2 N2) : ab_m5 r pre post [.ref r, .int a, .int b, .int c, .int d, .int e] M N k := by
  unfold ab_m5
  dsimp only
  rw [Nat.beq_refl]
  exact ⟨h1, h2⟩
theorem zN_mul (a k : Nat) (K : Int32) (h : K = nI k := by rfl) : nI a * K = nI (a * k) := by rw [h, pk_mul]
theorem zN_add (a k : Nat) (K : Int32) (h : K = nI k := by rfl) : nI a + K = nI (a + k) := by rw [h, nI_add]
