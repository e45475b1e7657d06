theorem q_usp {ws : List Cond} (ps : List Nat) (h : ws = ps.filterMap (fun i => lw_tbl[i]?)) (hg : ws.all goodWord = true) : ∀ w ∈ ws, w ∈ q_gd := by
  intro w hw
  refine q_gd_in ?_ (List.all_eq_true.mp hg w hw)
  rw [h] at hw
  obtain ⟨i, -, hi⟩ := List.mem_filterMap.mp hw
  exact List.mem_of_getElem? hi
set_option maxRecDepth 100000 in
theorem q_us_X0 : ∀ w ∈ u_ws RX0 TX0 13, w ∈ q_gd := q_usp [191, 193, 195, 197, 199, 201, 203, 205, 207, 209, 211, 213, 215] (by decide +kernel) (by decide +kernel)
set_option maxRecDepth 100000 in
theorem q_us_X1 : ∀ w ∈ u_ws RX1 TX1 2, w ∈ q_gd := q_usp [397, 399] (by decide +kernel) (by decide +kernel)
set_option maxRecDepth 100000 in
theorem q_us_X2 : ∀ w ∈ u_ws RX2 TX2 6, w ∈ q_gd := q_usp [109, 111, 113, 115, 117, 119] (by decide +kernel) (by decide +kernel)
set_option maxRecDepth 100000 in
theorem q_us_X3 : ∀ w ∈ u_ws RX3 TX3 9, w ∈ q_gd := q_usp [140, 142, 144, 146, 148, 150, 152, 154, 156] (by decide +kernel) (by decide +kernel)
set_option maxRecDepth 100000 in
theorem q_us_X4 : ∀ w ∈ u_ws RX4 TX4 3, w ∈ q_gd := q_usp [256, 258, 260] (by decide +kernel) (by decide +kernel)
set_option maxRecDepth 100000 in
theorem q_us_X5 : ∀ w ∈ u_ws RX5 TX5 5, w ∈ q_gd := q_usp [232, 234, 236, 238, 240] (by decide +kernel) (by decide +kernel)
set_option maxRecDepth 100000 in
theorem q_us_X6 : ∀ w ∈ u_ws RX6 TX6 8, w ∈ q_gd := q_usp [546, 548, 550, 552, 554, 556, 558, 560] (by decide +kernel) (by decide +kernel)
set_option maxRecDepth 100000 in
theorem q_us_X7 : ∀ w ∈ u_ws RX7 TX7 19, w ∈ q_gd := q_usp [421, 423, 425, 427, 429, 431, 433, 435, 437, 439, 441, 443, 445, 447, 449, 451, 453, 455, 457] (by decide +kernel) (by decide +kernel)
set_option maxRecDepth 100000 in
theorem q_us_X8 : ∀ w ∈ u_ws RX8 TX8 65, w ∈ q_gd := q_usp [1103, 1105, 1107, 1109, 1111, 1113, 1115, 1117, 1119, 1121, 1123, 1125, 1127, 1129, 1131, 1133, 1135, 1137, 1139, 1141, 1143, 1145, 1147, 1149, 1151, 1153, 1155, 1157, 1159, 1161, 1163, 1165, 1167, 1169, 1171, 1173, 1175, 1177, 1179, 1181, 1183, 1185, 1187, 1189, 1191, 1193, 1195, 1197, 1199, 1201, 1203, 1205, 1207, 1209, 1211, 1213, 1215, 1217, 1219, 1221, 1223, 1225, 1227, 1229, 1231] (by decide +kernel) (by decide +kernel)
theorem q_cl9 : ∀ ci, ci < 9 → vwCl[ci]? = some (q_cn ci, q_TT ci, q_NF ci)
  | 0, _ => rfl
  | 1, _ => rfl
  | 2, _ => rfl
  | 3, _ => rfl
  | 4, _ => rfl
  | 5, _ => rfl
  | 6, _ => rfl
  | 7, _ => rfl
  | 8, _ => rfl
  | n + 9, h => absurd h (by omega)
theorem q_us9 : ∀ ci, ci < 9 → ∀ w ∈ u_ws (q_cn ci) (q_TT ci) (q_NF ci), w ∈ q_gd
  | 0, _ => q_us_X0
  | 1, _ => q_us_X1
  | 2, _ => q_us_X2
  | 3, _ => q_us_X3
  | 4, _ => q_us_X4
  | 5, _ => q_us_X5
  | 6, _ => q_us_X6
  | 7, _ => q_us_X7
  | 8, _ => q_us_X8
  | n + 9, h => absurd h (by omega)
theorem q_ty9 : ∀ ci, ci < 9 → ∀ k, k < q_NF ci → parseFieldDescriptor (q_TT ci k).2.2.1 = some (q_tyf ci k)
  | 0, _ => tyX0_ok
  | 1, _ => tyX1_ok
  | 2, _ => tyX2_ok
  | 3, _ => tyX3_ok
  | 4, _ => tyX4_ok
  | 5, _ => tyX5_ok
  | 6, _ => tyX6_ok
  | 7, _ => tyX7_ok
  | 8, _ => tyX8_ok
  | n + 9, h => absurd h (by omega)
theorem q_nm9 : ∀ ci, ci < 9 → ∀ a, a < q_NF ci → ∀ b, b < q_NF ci → a ≠ b → (q_TT ci a).2.1 ≠ (q_TT ci b).2.1
  | 0, _ => nmX0
  | 1, _ => nmX1
  | 2, _ => nmX2
  | 3, _ => nmX3
  | 4, _ => nmX4
  | 5, _ => nmX5
  | 6, _ => nmX6
  | 7, _ => nmX7
  | 8, _ => nmX8
  | n + 9, h => absurd h (by omega)
theorem q_cls9 : ∀ ci, ci < 9 → ∀ k, k < q_NF ci → (q_TT ci k).1 = q_cn ci := by decide +kernel
