/-! the words of the tables by their places (written by wip/whole/gen03.py) -/
def k_pl0 : List Nat := [98, 100, 102, 104]
theorem k_plok0 : (List.range 4).all (fun k => decide (lw_tbl[k_pl0.getD k 0]? = some (u_lay RX0 TX0 k)) && goodWord (u_lay RX0 TX0 k)) = true := by decide +kernel
theorem k_inw0 : ∀ w ∈ u_ws RX0 TX0 4, w ∈ k_tb := by
  intro w hw
  obtain ⟨k, hk, rfl⟩ := List.mem_map.mp hw
  have h := List.all_eq_true.mp k_plok0 k hk
  simp only [Bool.and_eq_true, decide_eq_true_eq] at h
  exact k_in _ h.1 h.2
def k_pl1 : List Nat := [339, 341, 343, 345, 347, 349, 351, 353, 355, 357, 359, 361, 363, 365]
theorem k_plok1 : (List.range 14).all (fun k => decide (lw_tbl[k_pl1.getD k 0]? = some (u_lay RX1 TX1 k)) && goodWord (u_lay RX1 TX1 k)) = true := by decide +kernel
theorem k_inw1 : ∀ w ∈ u_ws RX1 TX1 14, w ∈ k_tb := by
  intro w hw
  obtain ⟨k, hk, rfl⟩ := List.mem_map.mp hw
  have h := List.all_eq_true.mp k_plok1 k hk
  simp only [Bool.and_eq_true, decide_eq_true_eq] at h
  exact k_in _ h.1 h.2
def k_pl2 : List Nat := [268, 270, 272, 274, 276, 278]
theorem k_plok2 : (List.range 6).all (fun k => decide (lw_tbl[k_pl2.getD k 0]? = some (u_lay RX2 TX2 k)) && goodWord (u_lay RX2 TX2 k)) = true := by decide +kernel
theorem k_inw2 : ∀ w ∈ u_ws RX2 TX2 6, w ∈ k_tb := by
  intro w hw
  obtain ⟨k, hk, rfl⟩ := List.mem_map.mp hw
  have h := List.all_eq_true.mp k_plok2 k hk
  simp only [Bool.and_eq_true, decide_eq_true_eq] at h
  exact k_in _ h.1 h.2
def k_pl3 : List Nat := [185, 187, 189, 191, 193]
theorem k_plok3 : (List.range 5).all (fun k => decide (lw_tbl[k_pl3.getD k 0]? = some (u_lay RX3 TX3 k)) && goodWord (u_lay RX3 TX3 k)) = true := by decide +kernel
theorem k_inw3 : ∀ w ∈ u_ws RX3 TX3 5, w ∈ k_tb := by
  intro w hw
  obtain ⟨k, hk, rfl⟩ := List.mem_map.mp hw
  have h := List.all_eq_true.mp k_plok3 k hk
  simp only [Bool.and_eq_true, decide_eq_true_eq] at h
  exact k_in _ h.1 h.2
def k_pl4 : List Nat := [126, 128, 130, 132, 134, 136, 138, 140]
theorem k_plok4 : (List.range 8).all (fun k => decide (lw_tbl[k_pl4.getD k 0]? = some (u_lay RX4 TX4 k)) && goodWord (u_lay RX4 TX4 k)) = true := by decide +kernel
theorem k_inw4 : ∀ w ∈ u_ws RX4 TX4 8, w ∈ k_tb := by
  intro w hw
  obtain ⟨k, hk, rfl⟩ := List.mem_map.mp hw
  have h := List.all_eq_true.mp k_plok4 k hk
  simp only [Bool.and_eq_true, decide_eq_true_eq] at h
  exact k_in _ h.1 h.2
def k_pl5 : List Nat := [245, 247, 249, 251, 253]
theorem k_plok5 : (List.range 5).all (fun k => decide (lw_tbl[k_pl5.getD k 0]? = some (u_lay RX5 TX5 k)) && goodWord (u_lay RX5 TX5 k)) = true := by decide +kernel
theorem k_inw5 : ∀ w ∈ u_ws RX5 TX5 5, w ∈ k_tb := by
  intro w hw
  obtain ⟨k, hk, rfl⟩ := List.mem_map.mp hw
  have h := List.all_eq_true.mp k_plok5 k hk
  simp only [Bool.and_eq_true, decide_eq_true_eq] at h
  exact k_in _ h.1 h.2
def k_pl6 : List Nat := [225, 227, 229, 231]
theorem k_plok6 : (List.range 4).all (fun k => decide (lw_tbl[k_pl6.getD k 0]? = some (u_lay RX6 TX6 k)) && goodWord (u_lay RX6 TX6 k)) = true := by decide +kernel
theorem k_inw6 : ∀ w ∈ u_ws RX6 TX6 4, w ∈ k_tb := by
  intro w hw
  obtain ⟨k, hk, rfl⟩ := List.mem_map.mp hw
  have h := List.all_eq_true.mp k_plok6 k hk
  simp only [Bool.and_eq_true, decide_eq_true_eq] at h
  exact k_in _ h.1 h.2
def k_pl7 : List Nat := [208, 210, 212]
theorem k_plok7 : (List.range 3).all (fun k => decide (lw_tbl[k_pl7.getD k 0]? = some (u_lay RX7 TX7 k)) && goodWord (u_lay RX7 TX7 k)) = true := by decide +kernel
theorem k_inw7 : ∀ w ∈ u_ws RX7 TX7 3, w ∈ k_tb := by
  intro w hw
  obtain ⟨k, hk, rfl⟩ := List.mem_map.mp hw
  have h := List.all_eq_true.mp k_plok7 k hk
  simp only [Bool.and_eq_true, decide_eq_true_eq] at h
  exact k_in _ h.1 h.2
def k_pl8 : List Nat := [152, 154, 156]
theorem k_plok8 : (List.range 3).all (fun k => decide (lw_tbl[k_pl8.getD k 0]? = some (u_lay RX8 TX8 k)) && goodWord (u_lay RX8 TX8 k)) = true := by decide +kernel
theorem k_inw8 : ∀ w ∈ u_ws RX8 TX8 3, w ∈ k_tb := by
  intro w hw
  obtain ⟨k, hk, rfl⟩ := List.mem_map.mp hw
  have h := List.all_eq_true.mp k_plok8 k hk
  simp only [Bool.and_eq_true, decide_eq_true_eq] at h
  exact k_in _ h.1 h.2
def k_pl9 : List Nat := [298, 300, 302, 304, 306, 308, 310, 312, 314]
theorem k_plok9 : (List.range 9).all (fun k => decide (lw_tbl[k_pl9.getD k 0]? = some (u_lay RX9 TX9 k)) && goodWord (u_lay RX9 TX9 k)) = true := by decide +kernel
theorem k_inw9 : ∀ w ∈ u_ws RX9 TX9 9, w ∈ k_tb := by
  intro w hw
  obtain ⟨k, hk, rfl⟩ := List.mem_map.mp hw
  have h := List.all_eq_true.mp k_plok9 k hk
  simp only [Bool.and_eq_true, decide_eq_true_eq] at h
  exact k_in _ h.1 h.2
def k_pl10 : List Nat := [167, 169]
theorem k_plok10 : (List.range 2).all (fun k => decide (lw_tbl[k_pl10.getD k 0]? = some (u_lay RX10 TX10 k)) && goodWord (u_lay RX10 TX10 k)) = true := by decide +kernel
theorem k_inw10 : ∀ w ∈ u_ws RX10 TX10 2, w ∈ k_tb := by
  intro w hw
  obtain ⟨k, hk, rfl⟩ := List.mem_map.mp hw
  have h := List.all_eq_true.mp k_plok10 k hk
  simp only [Bool.and_eq_true, decide_eq_true_eq] at h
  exact k_in _ h.1 h.2
def k_pl11 : List Nat := [382, 384, 386, 388, 390, 392, 394, 396, 398, 400, 402, 404, 406]
theorem k_plok11 : (List.range 13).all (fun k => decide (lw_tbl[k_pl11.getD k 0]? = some (u_lay RX11 TX11 k)) && goodWord (u_lay RX11 TX11 k)) = true := by decide +kernel
theorem k_inw11 : ∀ w ∈ u_ws RX11 TX11 13, w ∈ k_tb := by
  intro w hw
  obtain ⟨k, hk, rfl⟩ := List.mem_map.mp hw
  have h := List.all_eq_true.mp k_plok11 k hk
  simp only [Bool.and_eq_true, decide_eq_true_eq] at h
  exact k_in _ h.1 h.2
def k_pl12 : List Nat := [1154, 1156, 1158, 1160, 1162, 1164, 1166, 1168, 1170, 1172, 1174, 1176, 1178, 1180, 1182, 1184, 1186, 1188, 1190, 1192, 1194, 1196, 1198, 1200, 1202, 1204, 1206, 1208, 1210, 1212, 1214, 1216, 1218, 1220, 1222, 1224, 1226, 1228, 1230, 1232, 1234, 1236, 1238, 1240, 1242, 1244, 1246, 1248, 1250, 1252, 1254, 1256, 1258, 1260, 1262, 1264]
theorem k_plok12 : (List.range 56).all (fun k => decide (lw_tbl[k_pl12.getD k 0]? = some (u_lay RX12 TX12 k)) && goodWord (u_lay RX12 TX12 k)) = true := by decide +kernel
theorem k_inw12 : ∀ w ∈ u_ws RX12 TX12 56, w ∈ k_tb := by
  intro w hw
  obtain ⟨k, hk, rfl⟩ := List.mem_map.mp hw
  have h := List.all_eq_true.mp k_plok12 k hk
  simp only [Bool.and_eq_true, decide_eq_true_eq] at h
  exact k_in _ h.1 h.2
def k_ty : Nat → Nat → FieldType
  | 0 => tyX0
  | 1 => tyX1
  | 2 => tyX2
  | 3 => tyX3
  | 4 => tyX4
  | 5 => tyX5
  | 6 => tyX6
  | 7 => tyX7
  | 8 => tyX8
  | 9 => tyX9
  | 10 => tyX10
  | 11 => tyX11
  | 12 => tyX12
  | _ => tyX0
theorem k_cls {ci : Nat} {r : vw_C} (h : k_cl[ci]? = some r) : (∀ w ∈ u_ws r.1 r.2.1 r.2.2, w ∈ k_tb) ∧ (∀ k, k < r.2.2 → parseFieldDescriptor (r.2.1 k).2.2.1 = some (k_ty ci k)) ∧ (∀ a, a < r.2.2 → ∀ b, b < r.2.2 → a ≠ b → (r.2.1 a).2.1 ≠ (r.2.1 b).2.1) ∧ r.1 = k_R ci := by
  match ci, h with
  | 0, h => cases h; exact ⟨k_inw0, tyX0_ok, nmX0, rfl⟩
  | 1, h => cases h; exact ⟨k_inw1, tyX1_ok, nmX1, rfl⟩
  | 2, h => cases h; exact ⟨k_inw2, tyX2_ok, nmX2, rfl⟩
  | 3, h => cases h; exact ⟨k_inw3, tyX3_ok, nmX3, rfl⟩
  | 4, h => cases h; exact ⟨k_inw4, tyX4_ok, nmX4, rfl⟩
  | 5, h => cases h; exact ⟨k_inw5, tyX5_ok, nmX5, rfl⟩
  | 6, h => cases h; exact ⟨k_inw6, tyX6_ok, nmX6, rfl⟩
  | 7, h => cases h; exact ⟨k_inw7, tyX7_ok, nmX7, rfl⟩
  | 8, h => cases h; exact ⟨k_inw8, tyX8_ok, nmX8, rfl⟩
  | 9, h => cases h; exact ⟨k_inw9, tyX9_ok, nmX9, rfl⟩
  | 10, h => cases h; exact ⟨k_inw10, tyX10_ok, nmX10, rfl⟩
  | 11, h => cases h; exact ⟨k_inw11, tyX11_ok, nmX11, rfl⟩
  | 12, h => cases h; exact ⟨k_inw12, tyX12_ok, nmX12, rfl⟩
  | ci + 13, h => simp [k_cl] at h
def k_fl : List (Nat × Nat × Nat × Nat × Nat) := [(0, 11, 0, 0, 94), (0, 15, 0, 1, 95), (0, 24, 0, 3, 97), (0, 28, 0, 2, 96), (1, 14, 1, 0, 325), (1, 20, 1, 1, 326), (1, 24, 1, 2, 327), (1, 27, 1, 3, 328), (1, 30, 1, 4, 329), (1, 33, 1, 5, 330), (1, 36, 1, 6, 331), (1, 40, 1, 7, 332), (1, 43, 1, 8, 333), (1, 46, 1, 9, 334), (1, 49, 1, 10, 335), (1, 53, 1, 11, 336), (1, 56, 1, 12, 337), (1, 59, 1, 13, 338), (2, 9, 2, 0, 262), (2, 15, 2, 2, 264), (2, 19, 2, 3, 265), (2, 22, 2, 4, 266), (2, 25, 2, 5, 267), (2, 28, 2, 1, 263), (3, 9, 3, 0, 180), (3, 15, 3, 1, 181), (3, 19, 3, 2, 182), (3, 28, 3, 3, 183), (3, 32, 3, 4, 184), (4, 9, 4, 0, 118), (4, 15, 4, 1, 119), (4, 18, 4, 2, 120), (4, 21, 4, 3, 121), (4, 31, 4, 4, 122), (4, 53, 4, 5, 123), (4, 60, 4, 6, 124), (4, 63, 4, 7, 125), (5, 9, 5, 2, 242), (5, 15, 5, 3, 243), (5, 18, 5, 4, 244), (5, 21, 5, 0, 240), (5, 25, 5, 1, 241), (6, 9, 6, 0, 221), (6, 15, 6, 3, 224), (6, 24, 6, 1, 222), (6, 27, 6, 2, 223), (7, 14, 7, 2, 207), (7, 20, 7, 0, 205), (7, 24, 7, 1, 206), (8, 9, 8, 0, 149), (8, 15, 8, 1, 150), (8, 19, 8, 2, 151), (9, 16, 9, 0, 289), (9, 20, 9, 1, 290), (9, 24, 9, 2, 291), (9, 27, 9, 3, 292), (9, 30, 9, 4, 293), (9, 33, 9, 6, 295), (9, 37, 9, 5, 294), (9, 40, 9, 7, 296), (9, 48, 9, 8, 297), (10, 9, 10, 0, 165), (10, 15, 10, 1, 166), (11, 10, 11, 0, 369), (11, 21, 11, 1, 370), (11, 30, 11, 2, 371), (11, 37, 11, 3, 372), (11, 46, 11, 4, 373), (11, 50, 11, 5, 374), (11, 58, 11, 6, 375), (11, 67, 11, 7, 376), (11, 74, 11, 8, 377), (11, 81, 11, 9, 378), (11, 88, 11, 10, 379), (11, 95, 11, 11, 380), (11, 99, 11, 12, 381), (12, 7, 12, 1, 1099), (12, 13, 12, 2, 1100), (12, 16, 12, 4, 1102), (12, 19, 12, 5, 1103), (12, 22, 12, 7, 1105), (12, 26, 12, 10, 1108), (12, 29, 12, 11, 1109), (12, 32, 12, 12, 1110), (12, 35, 12, 13, 1111), (12, 38, 12, 15, 1113), (12, 41, 12, 16, 1114), (12, 44, 12, 17, 1115), (12, 47, 12, 18, 1116), (12, 50, 12, 20, 1118), (12, 53, 12, 22, 1120), (12, 56, 12, 23, 1121), (12, 59, 12, 24, 1122), (12, 62, 12, 25, 1123), (12, 65, 12, 26, 1124), (12, 68, 12, 27, 1125), (12, 71, 12, 28, 1126), (12, 74, 12, 29, 1127), (12, 78, 12, 34, 1132), (12, 82, 12, 37, 1135), (12, 85, 12, 38, 1136), (12, 88, 12, 39, 1137), (12, 91, 12, 40, 1138), (12, 94, 12, 41, 1139), (12, 97, 12, 45, 1143), (12, 100, 12, 49, 1147), (12, 103, 12, 50, 1148), (12, 106, 12, 51, 1149), (12, 109, 12, 53, 1151), (12, 112, 12, 54, 1152), (12, 115, 12, 55, 1153), (12, 118, 12, 0, 1098), (12, 129, 12, 3, 1101), (12, 137, 12, 6, 1104), (12, 140, 12, 8, 1106), (12, 143, 12, 9, 1107), (12, 159, 12, 14, 1112), (12, 166, 12, 19, 1117), (12, 169, 12, 21, 1119), (12, 176, 12, 33, 1131), (12, 179, 12, 32, 1130), (12, 195, 12, 30, 1128), (12, 198, 12, 31, 1129), (12, 218, 12, 35, 1133), (12, 221, 12, 36, 1134), (12, 234, 12, 42, 1140), (12, 237, 12, 43, 1141), (12, 240, 12, 44, 1142), (12, 246, 12, 46, 1144), (12, 249, 12, 47, 1145), (12, 252, 12, 48, 1146), (12, 258, 12, 52, 1150)]
theorem k_flok : k_fl.all (fun q => match k_cl[q.2.2.1]? with | some r => decide (q.2.2.2.1 < r.2.2) && decide (lw_tbl[q.2.2.2.2]? = some (.fieldLink (k_R q.1) q.2.1 (r.2.1 q.2.2.2.1).1 (r.2.1 q.2.2.2.1).2.1 (r.2.1 q.2.2.2.1).2.2.1)) | none => false) = true := by decide +kernel
def k_isfl (oi idx ci k : Nat) : Bool := k_fl.any (fun q => q.1 == oi && q.2.1 == idx && q.2.2.1 == ci && q.2.2.2.1 == k)
theorem k_isfl_ok {oi idx ci k : Nat} (h : k_isfl oi idx ci k = true) : ∃ r : vw_C, k_cl[ci]? = some r ∧ k < r.2.2 ∧ Cond.fieldLink (k_R oi) idx (r.2.1 k).1 (r.2.1 k).2.1 (r.2.1 k).2.2.1 ∈ k_tb := by
  obtain ⟨q, hq, h⟩ := List.any_eq_true.mp h
  simp only [Bool.and_eq_true, beq_iff_eq] at h
  obtain ⟨⟨⟨rfl, rfl⟩, rfl⟩, rfl⟩ := h
  have h2 := List.all_eq_true.mp k_flok q hq
  split at h2
  · rename_i r hr
    simp only [Bool.and_eq_true, decide_eq_true_eq] at h2
    exact ⟨r, hr, h2.1, k_in _ h2.2 rfl⟩
  · cases h2
def k_nw : List (Nat × Nat × Nat × Nat × Nat × Nat) := [(1, 9, 8, 323, 144, 59), (3, 23, 8, 178, 144, 59), (7, 9, 8, 203, 144, 59), (9, 9, 8, 287, 144, 59), (11, 7, 0, 85, 86, 56), (11, 16, 4, 108, 109, 58), (11, 25, 8, 143, 144, 59), (11, 34, 10, 159, 160, 60), (11, 41, 3, 172, 173, 61), (11, 53, 7, 197, 198, 62), (11, 62, 6, 215, 216, 63), (11, 71, 5, 234, 235, 64), (11, 78, 2, 256, 257, 65), (11, 85, 9, 281, 282, 66), (11, 92, 1, 317, 318, 67), (13, 8, 11, 77, 78, 55), (13, 65, 12, 1092, 1093, 68)]
theorem k_nwok : k_nw.all (fun q => match k_cl[q.2.2.1]? with | some r => decide (lw_tbl[q.2.2.2.1]? = some (.classLink (k_R q.1) q.2.1 r.1)) && decide (lw_tbl[q.2.2.2.2.1]? = some (.instantiable r.1 r.2.2)) && decide (lw_tbl[q.2.2.2.2.2]? = some (.initialized r.1)) | none => false) = true := by decide +kernel
def k_isnw (oi idx ci : Nat) : Bool := k_nw.any (fun q => q.1 == oi && q.2.1 == idx && q.2.2.1 == ci)
theorem k_isnw_ok {oi idx ci : Nat} (h : k_isnw oi idx ci = true) : ∃ r : vw_C, k_cl[ci]? = some r ∧ Cond.classLink (k_R oi) idx r.1 ∈ k_tb ∧ Cond.instantiable r.1 r.2.2 ∈ k_tb ∧ Cond.initialized r.1 ∈ k_tb := by
  obtain ⟨q, hq, h⟩ := List.any_eq_true.mp h
  simp only [Bool.and_eq_true, beq_iff_eq] at h
  obtain ⟨⟨rfl, rfl⟩, rfl⟩ := h
  have h2 := List.all_eq_true.mp k_nwok q hq
  split at h2
  · rename_i r hr
    simp only [Bool.and_eq_true, decide_eq_true_eq] at h2
    exact ⟨r, hr, k_in _ h2.1.1 rfl, k_in _ h2.1.2 rfl, k_in _ h2.2 rfl⟩
  · cases h2
theorem k_ac0 : Cond.arrayClass .int ∈ k_tb := k_in 107 (by decide +kernel) rfl
theorem k_ac1 : Cond.arrayClass .byte ∈ k_tb := k_in 687 (by decide +kernel) rfl
theorem k_ac2 : Cond.arrayClass .boolean ∈ k_tb := k_in 368 (by decide +kernel) rfl
theorem k_ac3 : Cond.arrayClass .long ∈ k_tb := k_in 196 (by decide +kernel) rfl
def k_ct : List (Nat × Nat × Int × Nat) := [(2, 50, 1000000, 527), (4, 70, 1000000, 506), (5, 33, 1000000, 465), (9, 70, 1000000, 580), (11, 208, 1000000, 1005), (12, 136, 1000000, 1408)]
theorem k_ctok : k_ct.all (fun q => decide (lw_tbl[q.2.2.2]? = some (.constant (k_R q.1) q.2.1 (Int32.ofInt q.2.2.1)))) = true := by decide +kernel
def k_isct (oi idx : Nat) (z : Int) : Bool := k_ct.any (fun q => q.1 == oi && q.2.1 == idx && q.2.2.1 == z)
theorem k_isct_ok {oi idx : Nat} {z : Int} (h : k_isct oi idx z = true) : Cond.constant (k_R oi) idx (Int32.ofInt z) ∈ k_tb := by
  obtain ⟨q, hq, h⟩ := List.any_eq_true.mp h
  simp only [Bool.and_eq_true, beq_iff_eq] at h
  obtain ⟨⟨rfl, rfl⟩, rfl⟩ := h
  have h2 := List.all_eq_true.mp k_ctok q hq
  simp only [decide_eq_true_eq] at h2
  exact k_in _ h2 rfl
def k_mn : List (Nat × Nat × Nat) := [(4, 47, 494), (6, 31, 857), (7, 72, 823), (8, 22, 784), (9, 96, 591), (11, 302, 760)]
theorem k_mnok : k_mn.all (fun q => decide (lw_tbl[q.2.2]? = some (.methodLink (k_R q.1) q.2.1 Lib.Math.min.name))) = true := by decide +kernel
def k_ismn (oi idx : Nat) : Bool := k_mn.any (fun q => q.1 == oi && q.2.1 == idx)
theorem k_ismn_ok {oi idx : Nat} (h : k_ismn oi idx = true) : Cond.methodLink (k_R oi) idx Lib.Math.min.name ∈ k_tb := by
  obtain ⟨q, hq, h⟩ := List.any_eq_true.mp h
  simp only [Bool.and_eq_true, beq_iff_eq] at h
  obtain ⟨rfl, rfl⟩ := h
  have h2 := List.all_eq_true.mp k_mnok q hq
  simp only [decide_eq_true_eq] at h2
  exact k_in _ h2 rfl
def k_mx : List (Nat × Nat × Nat) := [(6, 49, 913), (7, 66, 824), (11, 307, 761)]
theorem k_mxok : k_mx.all (fun q => decide (lw_tbl[q.2.2]? = some (.methodLink (k_R q.1) q.2.1 Lib.Math.max.name))) = true := by decide +kernel
def k_ismx (oi idx : Nat) : Bool := k_mx.any (fun q => q.1 == oi && q.2.1 == idx)
theorem k_ismx_ok {oi idx : Nat} (h : k_ismx oi idx = true) : Cond.methodLink (k_R oi) idx Lib.Math.max.name ∈ k_tb := by
  obtain ⟨q, hq, h⟩ := List.any_eq_true.mp h
  simp only [Bool.and_eq_true, beq_iff_eq] at h
  obtain ⟨rfl, rfl⟩ := h
  have h2 := List.all_eq_true.mp k_mxok q hq
  simp only [decide_eq_true_eq] at h2
  exact k_in _ h2 rfl
def k_cp : List (Nat × Nat × Nat) := [(0, 35, 486), (1, 92, 943), (8, 28, 785), (9, 86, 586)]
theorem k_cpok : k_cp.all (fun q => decide (lw_tbl[q.2.2]? = some (.methodLink (k_R q.1) q.2.1 arraycopyName))) = true := by decide +kernel
def k_iscp (oi idx : Nat) : Bool := k_cp.any (fun q => q.1 == oi && q.2.1 == idx)
theorem k_iscp_ok {oi idx : Nat} (h : k_iscp oi idx = true) : Cond.methodLink (k_R oi) idx arraycopyName ∈ k_tb := by
  obtain ⟨q, hq, h⟩ := List.any_eq_true.mp h
  simp only [Bool.and_eq_true, beq_iff_eq] at h
  obtain ⟨rfl, rfl⟩ := h
  have h2 := List.all_eq_true.mp k_cpok q hq
  simp only [decide_eq_true_eq] at h2
  exact k_in _ h2 rfl
def k_oi : List (Nat × Nat × Nat) := [(0, 3, 90), (1, 3, 322), (2, 3, 261), (3, 3, 177), (4, 3, 113), (5, 3, 239), (6, 3, 220), (7, 3, 202), (8, 3, 148), (9, 3, 286), (10, 3, 164), (11, 1, 82), (12, 1, 1097)]
theorem k_oiok : k_oi.all (fun q => decide (lw_tbl[q.2.2]? = some (.methodLink (k_R q.1) q.2.1 Lib.objectInit))) = true := by decide +kernel
def k_isoi (oi idx : Nat) : Bool := k_oi.any (fun q => q.1 == oi && q.2.1 == idx)
theorem k_isoi_ok {oi idx : Nat} (h : k_isoi oi idx = true) : Cond.methodLink (k_R oi) idx Lib.objectInit ∈ k_tb := by
  obtain ⟨q, hq, h⟩ := List.any_eq_true.mp h
  simp only [Bool.and_eq_true, beq_iff_eq] at h
  obtain ⟨rfl, rfl⟩ := h
  have h2 := List.all_eq_true.mp k_oiok q hq
  simp only [decide_eq_true_eq] at h2
  exact k_in _ h2 rfl
theorem k_wmn1 : Cond.static Lib.Math.min.name ∈ k_tb := k_in 495 (by decide +kernel) (by decide +kernel)
theorem k_wmx1 : Cond.static Lib.Math.max.name ∈ k_tb := k_in 762 (by decide +kernel) (by decide +kernel)
theorem k_wm0 : Cond.initialized "java/lang/Math" ∈ k_tb := k_in 74 (by decide +kernel) (by decide +kernel)
theorem k_wmmin2 : Cond.code Lib.Math.min.name Lib.Math.min.code 2 (some .int) ∈ k_tb := k_in 496 (by decide +kernel) (by decide +kernel)
theorem k_wmmax2 : Cond.code Lib.Math.max.name Lib.Math.max.code 2 (some .int) ∈ k_tb := k_in 763 (by decide +kernel) (by decide +kernel)
theorem k_wc1 : Cond.native arraycopyName ∈ k_tb := k_in 488 (by decide +kernel) (by decide +kernel)
theorem k_wc2 : Cond.static arraycopyName ∈ k_tb := k_in 487 (by decide +kernel) (by decide +kernel)
theorem k_wc3 : Cond.initialized "java/lang/System" ∈ k_tb := k_in 73 (by decide +kernel) (by decide +kernel)
theorem k_wo1 : Cond.instanceMethod Lib.objectInit ∈ k_tb := k_in 83 (by decide +kernel) (by decide +kernel)
theorem k_wo2 : Cond.code Lib.objectInit ⟨#[0xb1]⟩ 1 none ∈ k_tb := k_in 84 (by decide +kernel) (by decide +kernel)
