/-! the words of the tables by their places (written by wip/whole/gen03.py) -/
def k_pl0 : List Nat := [95, 97, 99, 101]
theorem k_plok0 : (List.range 4).all (fun k => decide (lw_tbl[k_pl0.getD k 0]? = some (u_lay RX0 TX0 k)) && goodWord (u_lay RX0 TX0 k)) = true := by decide +kernel
theorem k_inw0 : ∀ w ∈ u_ws RX0 TX0 4, w ∈ k_tb := by
  intro w hw
  obtain ⟨k, hk, rfl⟩ := List.mem_map.mp hw
  have h := List.all_eq_true.mp k_plok0 k hk
  simp only [Bool.and_eq_true, decide_eq_true_eq] at h
  exact k_in _ h.1 h.2
def k_pl1 : List Nat := [335, 337, 339, 341, 343, 345, 347, 349, 351, 353, 355, 357, 359]
theorem k_plok1 : (List.range 13).all (fun k => decide (lw_tbl[k_pl1.getD k 0]? = some (u_lay RX1 TX1 k)) && goodWord (u_lay RX1 TX1 k)) = true := by decide +kernel
theorem k_inw1 : ∀ w ∈ u_ws RX1 TX1 13, w ∈ k_tb := by
  intro w hw
  obtain ⟨k, hk, rfl⟩ := List.mem_map.mp hw
  have h := List.all_eq_true.mp k_plok1 k hk
  simp only [Bool.and_eq_true, decide_eq_true_eq] at h
  exact k_in _ h.1 h.2
def k_pl2 : List Nat := [265, 267, 269, 271, 273, 275]
theorem k_plok2 : (List.range 6).all (fun k => decide (lw_tbl[k_pl2.getD k 0]? = some (u_lay RX2 TX2 k)) && goodWord (u_lay RX2 TX2 k)) = true := by decide +kernel
theorem k_inw2 : ∀ w ∈ u_ws RX2 TX2 6, w ∈ k_tb := by
  intro w hw
  obtain ⟨k, hk, rfl⟩ := List.mem_map.mp hw
  have h := List.all_eq_true.mp k_plok2 k hk
  simp only [Bool.and_eq_true, decide_eq_true_eq] at h
  exact k_in _ h.1 h.2
def k_pl3 : List Nat := [182, 184, 186, 188, 190]
theorem k_plok3 : (List.range 5).all (fun k => decide (lw_tbl[k_pl3.getD k 0]? = some (u_lay RX3 TX3 k)) && goodWord (u_lay RX3 TX3 k)) = true := by decide +kernel
theorem k_inw3 : ∀ w ∈ u_ws RX3 TX3 5, w ∈ k_tb := by
  intro w hw
  obtain ⟨k, hk, rfl⟩ := List.mem_map.mp hw
  have h := List.all_eq_true.mp k_plok3 k hk
  simp only [Bool.and_eq_true, decide_eq_true_eq] at h
  exact k_in _ h.1 h.2
def k_pl4 : List Nat := [123, 125, 127, 129, 131, 133, 135, 137]
theorem k_plok4 : (List.range 8).all (fun k => decide (lw_tbl[k_pl4.getD k 0]? = some (u_lay RX4 TX4 k)) && goodWord (u_lay RX4 TX4 k)) = true := by decide +kernel
theorem k_inw4 : ∀ w ∈ u_ws RX4 TX4 8, w ∈ k_tb := by
  intro w hw
  obtain ⟨k, hk, rfl⟩ := List.mem_map.mp hw
  have h := List.all_eq_true.mp k_plok4 k hk
  simp only [Bool.and_eq_true, decide_eq_true_eq] at h
  exact k_in _ h.1 h.2
def k_pl5 : List Nat := [242, 244, 246, 248, 250]
theorem k_plok5 : (List.range 5).all (fun k => decide (lw_tbl[k_pl5.getD k 0]? = some (u_lay RX5 TX5 k)) && goodWord (u_lay RX5 TX5 k)) = true := by decide +kernel
theorem k_inw5 : ∀ w ∈ u_ws RX5 TX5 5, w ∈ k_tb := by
  intro w hw
  obtain ⟨k, hk, rfl⟩ := List.mem_map.mp hw
  have h := List.all_eq_true.mp k_plok5 k hk
  simp only [Bool.and_eq_true, decide_eq_true_eq] at h
  exact k_in _ h.1 h.2
def k_pl6 : List Nat := [222, 224, 226, 228]
theorem k_plok6 : (List.range 4).all (fun k => decide (lw_tbl[k_pl6.getD k 0]? = some (u_lay RX6 TX6 k)) && goodWord (u_lay RX6 TX6 k)) = true := by decide +kernel
theorem k_inw6 : ∀ w ∈ u_ws RX6 TX6 4, w ∈ k_tb := by
  intro w hw
  obtain ⟨k, hk, rfl⟩ := List.mem_map.mp hw
  have h := List.all_eq_true.mp k_plok6 k hk
  simp only [Bool.and_eq_true, decide_eq_true_eq] at h
  exact k_in _ h.1 h.2
def k_pl7 : List Nat := [205, 207, 209]
theorem k_plok7 : (List.range 3).all (fun k => decide (lw_tbl[k_pl7.getD k 0]? = some (u_lay RX7 TX7 k)) && goodWord (u_lay RX7 TX7 k)) = true := by decide +kernel
theorem k_inw7 : ∀ w ∈ u_ws RX7 TX7 3, w ∈ k_tb := by
  intro w hw
  obtain ⟨k, hk, rfl⟩ := List.mem_map.mp hw
  have h := List.all_eq_true.mp k_plok7 k hk
  simp only [Bool.and_eq_true, decide_eq_true_eq] at h
  exact k_in _ h.1 h.2
def k_pl8 : List Nat := [149, 151, 153]
theorem k_plok8 : (List.range 3).all (fun k => decide (lw_tbl[k_pl8.getD k 0]? = some (u_lay RX8 TX8 k)) && goodWord (u_lay RX8 TX8 k)) = true := by decide +kernel
theorem k_inw8 : ∀ w ∈ u_ws RX8 TX8 3, w ∈ k_tb := by
  intro w hw
  obtain ⟨k, hk, rfl⟩ := List.mem_map.mp hw
  have h := List.all_eq_true.mp k_plok8 k hk
  simp only [Bool.and_eq_true, decide_eq_true_eq] at h
  exact k_in _ h.1 h.2
def k_pl9 : List Nat := [295, 297, 299, 301, 303, 305, 307, 309, 311]
theorem k_plok9 : (List.range 9).all (fun k => decide (lw_tbl[k_pl9.getD k 0]? = some (u_lay RX9 TX9 k)) && goodWord (u_lay RX9 TX9 k)) = true := by decide +kernel
theorem k_inw9 : ∀ w ∈ u_ws RX9 TX9 9, w ∈ k_tb := by
  intro w hw
  obtain ⟨k, hk, rfl⟩ := List.mem_map.mp hw
  have h := List.all_eq_true.mp k_plok9 k hk
  simp only [Bool.and_eq_true, decide_eq_true_eq] at h
  exact k_in _ h.1 h.2
def k_pl10 : List Nat := [164, 166]
theorem k_plok10 : (List.range 2).all (fun k => decide (lw_tbl[k_pl10.getD k 0]? = some (u_lay RX10 TX10 k)) && goodWord (u_lay RX10 TX10 k)) = true := by decide +kernel
theorem k_inw10 : ∀ w ∈ u_ws RX10 TX10 2, w ∈ k_tb := by
  intro w hw
  obtain ⟨k, hk, rfl⟩ := List.mem_map.mp hw
  have h := List.all_eq_true.mp k_plok10 k hk
  simp only [Bool.and_eq_true, decide_eq_true_eq] at h
  exact k_in _ h.1 h.2
def k_pl11 : List Nat := [377, 379, 381, 383, 385, 387, 389, 391, 393, 395, 397, 399, 401, 403]
theorem k_plok11 : (List.range 14).all (fun k => decide (lw_tbl[k_pl11.getD k 0]? = some (u_lay RX11 TX11 k)) && goodWord (u_lay RX11 TX11 k)) = true := by decide +kernel
theorem k_inw11 : ∀ w ∈ u_ws RX11 TX11 14, w ∈ k_tb := by
  intro w hw
  obtain ⟨k, hk, rfl⟩ := List.mem_map.mp hw
  have h := List.all_eq_true.mp k_plok11 k hk
  simp only [Bool.and_eq_true, decide_eq_true_eq] at h
  exact k_in _ h.1 h.2
def k_pl12 : List Nat := [1139, 1141, 1143, 1145, 1147, 1149, 1151, 1153, 1155, 1157, 1159, 1161, 1163, 1165, 1167, 1169, 1171, 1173, 1175, 1177, 1179, 1181, 1183, 1185, 1187, 1189, 1191, 1193, 1195, 1197, 1199, 1201, 1203, 1205, 1207, 1209, 1211, 1213, 1215, 1217, 1219, 1221, 1223, 1225, 1227, 1229, 1231, 1233, 1235, 1237, 1239, 1241, 1243, 1245, 1247, 1249]
theorem k_plok12 : (List.range 56).all (fun k => decide (lw_tbl[k_pl12.getD k 0]? = some (u_lay RX12 TX12 k)) && goodWord (u_lay RX12 TX12 k)) = true := by decide +kernel
theorem k_inw12 : ∀ w ∈ u_ws RX12 TX12 56, w ∈ k_tb := by
  intro w hw
  obtain ⟨k, hk, rfl⟩ := List.mem_map.mp hw
  have h := List.all_eq_true.mp k_plok12 k hk
  simp only [Bool.and_eq_true, decide_eq_true_eq] at h
  exact k_in _ h.1 h.2
def k_ty : Nat → Nat → FieldType
  | 0 => tyX0
  | 1 => tyX1
  | 2 => tyX2
  | 3 => tyX3
  | 4 => tyX4
  | 5 => tyX5
  | 6 => tyX6
  | 7 => tyX7
  | 8 => tyX8
  | 9 => tyX9
  | 10 => tyX10
  | 11 => tyX11
  | 12 => tyX12
  | _ => tyX0
theorem k_cls {ci : Nat} {r : vw_C} (h : k_cl[ci]? = some r) : (∀ w ∈ u_ws r.1 r.2.1 r.2.2, w ∈ k_tb) ∧ (∀ k, k < r.2.2 → parseFieldDescriptor (r.2.1 k).2.2.1 = some (k_ty ci k)) ∧ (∀ a, a < r.2.2 → ∀ b, b < r.2.2 → a ≠ b → (r.2.1 a).2.1 ≠ (r.2.1 b).2.1) ∧ r.1 = k_R ci := by
  match ci, h with
  | 0, h => cases h; exact ⟨k_inw0, tyX0_ok, nmX0, rfl⟩
  | 1, h => cases h; exact ⟨k_inw1, tyX1_ok, nmX1, rfl⟩
  | 2, h => cases h; exact ⟨k_inw2, tyX2_ok, nmX2, rfl⟩
  | 3, h => cases h; exact ⟨k_inw3, tyX3_ok, nmX3, rfl⟩
  | 4, h => cases h; exact ⟨k_inw4, tyX4_ok, nmX4, rfl⟩
  | 5, h => cases h; exact ⟨k_inw5, tyX5_ok, nmX5, rfl⟩
  | 6, h => cases h; exact ⟨k_inw6, tyX6_ok, nmX6, rfl⟩
  | 7, h => cases h; exact ⟨k_inw7, tyX7_ok, nmX7, rfl⟩
  | 8, h => cases h; exact ⟨k_inw8, tyX8_ok, nmX8, rfl⟩
  | 9, h => cases h; exact ⟨k_inw9, tyX9_ok, nmX9, rfl⟩
  | 10, h => cases h; exact ⟨k_inw10, tyX10_ok, nmX10, rfl⟩
  | 11, h => cases h; exact ⟨k_inw11, tyX11_ok, nmX11, rfl⟩
  | 12, h => cases h; exact ⟨k_inw12, tyX12_ok, nmX12, rfl⟩
  | ci + 13, h => simp [k_cl] at h
def k_fl : List (Nat × Nat × Nat × Nat × Nat) := [(0, 11, 0, 0, 91), (0, 15, 0, 1, 92), (0, 24, 0, 3, 94), (0, 28, 0, 2, 93), (1, 14, 1, 0, 322), (1, 20, 1, 1, 323), (1, 24, 1, 2, 324), (1, 27, 1, 3, 325), (1, 30, 1, 4, 326), (1, 33, 1, 5, 327), (1, 36, 1, 6, 328), (1, 40, 1, 7, 329), (1, 43, 1, 8, 330), (1, 46, 1, 9, 331), (1, 49, 1, 10, 332), (1, 53, 1, 11, 333), (1, 56, 1, 12, 334), (2, 9, 2, 0, 259), (2, 15, 2, 2, 261), (2, 19, 2, 3, 262), (2, 22, 2, 4, 263), (2, 25, 2, 5, 264), (2, 28, 2, 1, 260), (3, 9, 3, 0, 177), (3, 15, 3, 1, 178), (3, 19, 3, 2, 179), (3, 28, 3, 3, 180), (3, 32, 3, 4, 181), (4, 9, 4, 0, 115), (4, 15, 4, 1, 116), (4, 18, 4, 2, 117), (4, 21, 4, 3, 118), (4, 31, 4, 4, 119), (4, 53, 4, 5, 120), (4, 60, 4, 6, 121), (4, 63, 4, 7, 122), (5, 9, 5, 2, 239), (5, 15, 5, 3, 240), (5, 18, 5, 4, 241), (5, 21, 5, 0, 237), (5, 25, 5, 1, 238), (6, 9, 6, 0, 218), (6, 15, 6, 3, 221), (6, 24, 6, 1, 219), (6, 27, 6, 2, 220), (7, 14, 7, 2, 204), (7, 20, 7, 0, 202), (7, 24, 7, 1, 203), (8, 9, 8, 0, 146), (8, 15, 8, 1, 147), (8, 19, 8, 2, 148), (9, 16, 9, 0, 286), (9, 20, 9, 1, 287), (9, 24, 9, 2, 288), (9, 27, 9, 3, 289), (9, 30, 9, 4, 290), (9, 33, 9, 6, 292), (9, 37, 9, 5, 291), (9, 40, 9, 7, 293), (9, 48, 9, 8, 294), (10, 9, 10, 0, 162), (10, 15, 10, 1, 163), (11, 10, 11, 0, 363), (11, 21, 11, 1, 364), (11, 30, 11, 2, 365), (11, 37, 11, 3, 366), (11, 46, 11, 4, 367), (11, 50, 11, 5, 368), (11, 58, 11, 6, 369), (11, 67, 11, 7, 370), (11, 74, 11, 8, 371), (11, 81, 11, 9, 372), (11, 88, 11, 10, 373), (11, 95, 11, 11, 374), (11, 99, 11, 12, 375), (11, 102, 11, 13, 376), (12, 7, 12, 1, 1084), (12, 13, 12, 2, 1085), (12, 16, 12, 4, 1087), (12, 19, 12, 5, 1088), (12, 22, 12, 7, 1090), (12, 26, 12, 10, 1093), (12, 29, 12, 11, 1094), (12, 32, 12, 12, 1095), (12, 35, 12, 13, 1096), (12, 38, 12, 15, 1098), (12, 41, 12, 16, 1099), (12, 44, 12, 17, 1100), (12, 47, 12, 18, 1101), (12, 50, 12, 20, 1103), (12, 53, 12, 22, 1105), (12, 56, 12, 23, 1106), (12, 59, 12, 24, 1107), (12, 62, 12, 25, 1108), (12, 65, 12, 26, 1109), (12, 68, 12, 27, 1110), (12, 71, 12, 28, 1111), (12, 74, 12, 29, 1112), (12, 78, 12, 34, 1117), (12, 82, 12, 37, 1120), (12, 85, 12, 38, 1121), (12, 88, 12, 39, 1122), (12, 91, 12, 40, 1123), (12, 94, 12, 41, 1124), (12, 97, 12, 45, 1128), (12, 100, 12, 49, 1132), (12, 103, 12, 50, 1133), (12, 106, 12, 51, 1134), (12, 109, 12, 53, 1136), (12, 112, 12, 54, 1137), (12, 115, 12, 55, 1138), (12, 118, 12, 0, 1083), (12, 129, 12, 3, 1086), (12, 137, 12, 6, 1089), (12, 140, 12, 8, 1091), (12, 143, 12, 9, 1092), (12, 159, 12, 14, 1097), (12, 166, 12, 19, 1102), (12, 169, 12, 21, 1104), (12, 176, 12, 33, 1116), (12, 179, 12, 32, 1115), (12, 195, 12, 30, 1113), (12, 198, 12, 31, 1114), (12, 218, 12, 35, 1118), (12, 221, 12, 36, 1119), (12, 234, 12, 42, 1125), (12, 237, 12, 43, 1126), (12, 240, 12, 44, 1127), (12, 246, 12, 46, 1129), (12, 249, 12, 47, 1130), (12, 252, 12, 48, 1131), (12, 258, 12, 52, 1135)]
theorem k_flok : k_fl.all (fun q => match k_cl[q.2.2.1]? with | some r => decide (q.2.2.2.1 < r.2.2) && decide (lw_tbl[q.2.2.2.2]? = some (.fieldLink (k_R q.1) q.2.1 (r.2.1 q.2.2.2.1).1 (r.2.1 q.2.2.2.1).2.1 (r.2.1 q.2.2.2.1).2.2.1)) | none => false) = true := by decide +kernel
def k_isfl (oi idx ci k : Nat) : Bool := k_fl.any (fun q => q.1 == oi && q.2.1 == idx && q.2.2.1 == ci && q.2.2.2.1 == k)
theorem k_isfl_ok {oi idx ci k : Nat} (h : k_isfl oi idx ci k = true) : ∃ r : vw_C, k_cl[ci]? = some r ∧ k < r.2.2 ∧ Cond.fieldLink (k_R oi) idx (r.2.1 k).1 (r.2.1 k).2.1 (r.2.1 k).2.2.1 ∈ k_tb := by
  obtain ⟨q, hq, h⟩ := List.any_eq_true.mp h
  simp only [Bool.and_eq_true, beq_iff_eq] at h
  obtain ⟨⟨⟨rfl, rfl⟩, rfl⟩, rfl⟩ := h
  have h2 := List.all_eq_true.mp k_flok q hq
  split at h2
  · rename_i r hr
    simp only [Bool.and_eq_true, decide_eq_true_eq] at h2
    exact ⟨r, hr, h2.1, k_in _ h2.2 rfl⟩
  · cases h2
def k_nw : List (Nat × Nat × Nat × Nat × Nat × Nat) := [(1, 9, 8, 320, 141, 56), (3, 23, 8, 175, 141, 56), (7, 9, 8, 200, 141, 56), (9, 9, 8, 284, 141, 56), (11, 7, 0, 82, 83, 53), (11, 16, 4, 105, 106, 55), (11, 25, 8, 140, 141, 56), (11, 34, 10, 156, 157, 57), (11, 41, 3, 169, 170, 58), (11, 53, 7, 194, 195, 59), (11, 62, 6, 212, 213, 60), (11, 71, 5, 231, 232, 61), (11, 78, 2, 253, 254, 62), (11, 85, 9, 278, 279, 63), (11, 92, 1, 314, 315, 64), (13, 8, 11, 74, 75, 52), (13, 65, 12, 1077, 1078, 65)]
theorem k_nwok : k_nw.all (fun q => match k_cl[q.2.2.1]? with | some r => decide (lw_tbl[q.2.2.2.1]? = some (.classLink (k_R q.1) q.2.1 r.1)) && decide (lw_tbl[q.2.2.2.2.1]? = some (.instantiable r.1 r.2.2)) && decide (lw_tbl[q.2.2.2.2.2]? = some (.initialized r.1)) | none => false) = true := by decide +kernel
def k_isnw (oi idx ci : Nat) : Bool := k_nw.any (fun q => q.1 == oi && q.2.1 == idx && q.2.2.1 == ci)
theorem k_isnw_ok {oi idx ci : Nat} (h : k_isnw oi idx ci = true) : ∃ r : vw_C, k_cl[ci]? = some r ∧ Cond.classLink (k_R oi) idx r.1 ∈ k_tb ∧ Cond.instantiable r.1 r.2.2 ∈ k_tb ∧ Cond.initialized r.1 ∈ k_tb := by
  obtain ⟨q, hq, h⟩ := List.any_eq_true.mp h
  simp only [Bool.and_eq_true, beq_iff_eq] at h
  obtain ⟨⟨rfl, rfl⟩, rfl⟩ := h
  have h2 := List.all_eq_true.mp k_nwok q hq
  split at h2
  · rename_i r hr
    simp only [Bool.and_eq_true, decide_eq_true_eq] at h2
    exact ⟨r, hr, k_in _ h2.1.1 rfl, k_in _ h2.1.2 rfl, k_in _ h2.2 rfl⟩
  · cases h2
theorem k_ac0 : Cond.arrayClass .int ∈ k_tb := k_in 104 (by decide +kernel) rfl
theorem k_ac1 : Cond.arrayClass .byte ∈ k_tb := k_in 684 (by decide +kernel) rfl
theorem k_ac2 : Cond.arrayClass .boolean ∈ k_tb := k_in 362 (by decide +kernel) rfl
theorem k_ac3 : Cond.arrayClass .long ∈ k_tb := k_in 193 (by decide +kernel) rfl
def k_ct : List (Nat × Nat × Int × Nat) := [(2, 50, 1000000, 524), (4, 70, 1000000, 503), (5, 33, 1000000, 462), (9, 70, 1000000, 577), (11, 208, 1000000, 990), (12, 136, 1000000, 1393)]
theorem k_ctok : k_ct.all (fun q => decide (lw_tbl[q.2.2.2]? = some (.constant (k_R q.1) q.2.1 (Int32.ofInt q.2.2.1)))) = true := by decide +kernel
def k_isct (oi idx : Nat) (z : Int) : Bool := k_ct.any (fun q => q.1 == oi && q.2.1 == idx && q.2.2.1 == z)
theorem k_isct_ok {oi idx : Nat} {z : Int} (h : k_isct oi idx z = true) : Cond.constant (k_R oi) idx (Int32.ofInt z) ∈ k_tb := by
  obtain ⟨q, hq, h⟩ := List.any_eq_true.mp h
  simp only [Bool.and_eq_true, beq_iff_eq] at h
  obtain ⟨⟨rfl, rfl⟩, rfl⟩ := h
  have h2 := List.all_eq_true.mp k_ctok q hq
  simp only [decide_eq_true_eq] at h2
  exact k_in _ h2 rfl
def k_mn : List (Nat × Nat × Nat) := [(4, 47, 491), (6, 31, 854), (7, 72, 820), (8, 22, 781), (9, 96, 588), (11, 302, 757)]
theorem k_mnok : k_mn.all (fun q => decide (lw_tbl[q.2.2]? = some (.methodLink (k_R q.1) q.2.1 Lib.Math.min.name))) = true := by decide +kernel
def k_ismn (oi idx : Nat) : Bool := k_mn.any (fun q => q.1 == oi && q.2.1 == idx)
theorem k_ismn_ok {oi idx : Nat} (h : k_ismn oi idx = true) : Cond.methodLink (k_R oi) idx Lib.Math.min.name ∈ k_tb := by
  obtain ⟨q, hq, h⟩ := List.any_eq_true.mp h
  simp only [Bool.and_eq_true, beq_iff_eq] at h
  obtain ⟨rfl, rfl⟩ := h
  have h2 := List.all_eq_true.mp k_mnok q hq
  simp only [decide_eq_true_eq] at h2
  exact k_in _ h2 rfl
def k_mx : List (Nat × Nat × Nat) := [(6, 49, 910), (7, 66, 821), (11, 307, 758)]
theorem k_mxok : k_mx.all (fun q => decide (lw_tbl[q.2.2]? = some (.methodLink (k_R q.1) q.2.1 Lib.Math.max.name))) = true := by decide +kernel
def k_ismx (oi idx : Nat) : Bool := k_mx.any (fun q => q.1 == oi && q.2.1 == idx)
theorem k_ismx_ok {oi idx : Nat} (h : k_ismx oi idx = true) : Cond.methodLink (k_R oi) idx Lib.Math.max.name ∈ k_tb := by
  obtain ⟨q, hq, h⟩ := List.any_eq_true.mp h
  simp only [Bool.and_eq_true, beq_iff_eq] at h
  obtain ⟨rfl, rfl⟩ := h
  have h2 := List.all_eq_true.mp k_mxok q hq
  simp only [decide_eq_true_eq] at h2
  exact k_in _ h2 rfl
def k_cp : List (Nat × Nat × Nat) := [(0, 35, 483), (1, 75, 923), (8, 28, 782), (9, 86, 583)]
theorem k_cpok : k_cp.all (fun q => decide (lw_tbl[q.2.2]? = some (.methodLink (k_R q.1) q.2.1 arraycopyName))) = true := by decide +kernel
def k_iscp (oi idx : Nat) : Bool := k_cp.any (fun q => q.1 == oi && q.2.1 == idx)
theorem k_iscp_ok {oi idx : Nat} (h : k_iscp oi idx = true) : Cond.methodLink (k_R oi) idx arraycopyName ∈ k_tb := by
  obtain ⟨q, hq, h⟩ := List.any_eq_true.mp h
  simp only [Bool.and_eq_true, beq_iff_eq] at h
  obtain ⟨rfl, rfl⟩ := h
  have h2 := List.all_eq_true.mp k_cpok q hq
  simp only [decide_eq_true_eq] at h2
  exact k_in _ h2 rfl
def k_oi : List (Nat × Nat × Nat) := [(0, 3, 87), (1, 3, 319), (2, 3, 258), (3, 3, 174), (4, 3, 110), (5, 3, 236), (6, 3, 217), (7, 3, 199), (8, 3, 145), (9, 3, 283), (10, 3, 161), (11, 1, 79), (12, 1, 1082)]
theorem k_oiok : k_oi.all (fun q => decide (lw_tbl[q.2.2]? = some (.methodLink (k_R q.1) q.2.1 Lib.objectInit))) = true := by decide +kernel
def k_isoi (oi idx : Nat) : Bool := k_oi.any (fun q => q.1 == oi && q.2.1 == idx)
theorem k_isoi_ok {oi idx : Nat} (h : k_isoi oi idx = true) : Cond.methodLink (k_R oi) idx Lib.objectInit ∈ k_tb := by
  obtain ⟨q, hq, h⟩ := List.any_eq_true.mp h
  simp only [Bool.and_eq_true, beq_iff_eq] at h
  obtain ⟨rfl, rfl⟩ := h
  have h2 := List.all_eq_true.mp k_oiok q hq
  simp only [decide_eq_true_eq] at h2
  exact k_in _ h2 rfl
theorem k_wmn1 : Cond.static Lib.Math.min.name ∈ k_tb := k_in 492 (by decide +kernel) (by decide +kernel)
theorem k_wmx1 : Cond.static Lib.Math.max.name ∈ k_tb := k_in 759 (by decide +kernel) (by decide +kernel)
theorem k_wm0 : Cond.initialized "java/lang/Math" ∈ k_tb := k_in 71 (by decide +kernel) (by decide +kernel)
theorem k_wmmin2 : Cond.code Lib.Math.min.name Lib.Math.min.code 2 (some .int) ∈ k_tb := k_in 493 (by decide +kernel) (by decide +kernel)
theorem k_wmmax2 : Cond.code Lib.Math.max.name Lib.Math.max.code 2 (some .int) ∈ k_tb := k_in 760 (by decide +kernel) (by decide +kernel)
theorem k_wc1 : Cond.native arraycopyName ∈ k_tb := k_in 485 (by decide +kernel) (by decide +kernel)
theorem k_wc2 : Cond.static arraycopyName ∈ k_tb := k_in 484 (by decide +kernel) (by decide +kernel)
theorem k_wc3 : Cond.initialized "java/lang/System" ∈ k_tb := k_in 70 (by decide +kernel) (by decide +kernel)
theorem k_wo1 : Cond.instanceMethod Lib.objectInit ∈ k_tb := k_in 80 (by decide +kernel) (by decide +kernel)
theorem k_wo2 : Cond.code Lib.objectInit ⟨#[0xb1]⟩ 1 none ∈ k_tb := k_in 81 (by decide +kernel) (by decide +kernel)
