theorem zyX0_0 : u_lay RX0 TX0 0 ∈ zt_tbl := zt_t 77 (by decide +kernel) rfl
theorem zyX0_1 : u_lay RX0 TX0 1 ∈ zt_tbl := zt_t 79 (by decide +kernel) rfl
theorem zyX0_2 : u_lay RX0 TX0 2 ∈ zt_tbl := zt_t 81 (by decide +kernel) rfl
theorem zyX0_3 : u_lay RX0 TX0 3 ∈ zt_tbl := zt_t 83 (by decide +kernel) rfl
theorem ziX0 : ∀ k, k < 4 → u_lay RX0 TX0 k ∈ zt_tbl := fun k hk => match k, hk with
  | 0, _ => zyX0_0
  | 1, _ => zyX0_1
  | 2, _ => zyX0_2
  | 3, _ => zyX0_3
  | k + 4, h => absurd h (by omega)
theorem zcX0 : zc_ok 0 RX0 TX0 4 := ⟨rfl, fun w hw => by
  obtain ⟨k, hk, rfl⟩ := List.mem_map.mp hw
  exact ziX0 k (List.mem_range.mp hk), ⟨tyX0, tyX0_ok⟩, nmX0⟩
theorem zyX1_0 : u_lay RX1 TX1 0 ∈ zt_tbl := zt_t 180 (by decide +kernel) rfl
theorem zyX1_1 : u_lay RX1 TX1 1 ∈ zt_tbl := zt_t 182 (by decide +kernel) rfl
theorem zyX1_2 : u_lay RX1 TX1 2 ∈ zt_tbl := zt_t 184 (by decide +kernel) rfl
theorem zyX1_3 : u_lay RX1 TX1 3 ∈ zt_tbl := zt_t 186 (by decide +kernel) rfl
theorem zyX1_4 : u_lay RX1 TX1 4 ∈ zt_tbl := zt_t 188 (by decide +kernel) rfl
theorem zyX1_5 : u_lay RX1 TX1 5 ∈ zt_tbl := zt_t 190 (by decide +kernel) rfl
theorem zyX1_6 : u_lay RX1 TX1 6 ∈ zt_tbl := zt_t 192 (by decide +kernel) rfl
theorem zyX1_7 : u_lay RX1 TX1 7 ∈ zt_tbl := zt_t 194 (by decide +kernel) rfl
theorem zyX1_8 : u_lay RX1 TX1 8 ∈ zt_tbl := zt_t 196 (by decide +kernel) rfl
theorem ziX1 : ∀ k, k < 9 → u_lay RX1 TX1 k ∈ zt_tbl := fun k hk => match k, hk with
  | 0, _ => zyX1_0
  | 1, _ => zyX1_1
  | 2, _ => zyX1_2
  | 3, _ => zyX1_3
  | 4, _ => zyX1_4
  | 5, _ => zyX1_5
  | 6, _ => zyX1_6
  | 7, _ => zyX1_7
  | 8, _ => zyX1_8
  | k + 9, h => absurd h (by omega)
theorem zcX1 : zc_ok 1 RX1 TX1 9 := ⟨rfl, fun w hw => by
  obtain ⟨k, hk, rfl⟩ := List.mem_map.mp hw
  exact ziX1 k (List.mem_range.mp hk), ⟨tyX1, tyX1_ok⟩, nmX1⟩
theorem zyX2_0 : u_lay RX2 TX2 0 ∈ zt_tbl := zt_t 137 (by decide +kernel) rfl
theorem zyX2_1 : u_lay RX2 TX2 1 ∈ zt_tbl := zt_t 139 (by decide +kernel) rfl
theorem zyX2_2 : u_lay RX2 TX2 2 ∈ zt_tbl := zt_t 141 (by decide +kernel) rfl
theorem ziX2 : ∀ k, k < 3 → u_lay RX2 TX2 k ∈ zt_tbl := fun k hk => match k, hk with
  | 0, _ => zyX2_0
  | 1, _ => zyX2_1
  | 2, _ => zyX2_2
  | k + 3, h => absurd h (by omega)
theorem zcX2 : zc_ok 2 RX2 TX2 3 := ⟨rfl, fun w hw => by
  obtain ⟨k, hk, rfl⟩ := List.mem_map.mp hw
  exact ziX2 k (List.mem_range.mp hk), ⟨tyX2, tyX2_ok⟩, nmX2⟩
theorem zyX3_0 : u_lay RX3 TX3 0 ∈ zt_tbl := zt_t 206 (by decide +kernel) rfl
theorem ziX3 : ∀ k, k < 1 → u_lay RX3 TX3 k ∈ zt_tbl := fun k hk => match k, hk with
  | 0, _ => zyX3_0
  | k + 1, h => absurd h (by omega)
theorem zcX3 : zc_ok 3 RX3 TX3 1 := ⟨rfl, fun w hw => by
  obtain ⟨k, hk, rfl⟩ := List.mem_map.mp hw
  exact ziX3 k (List.mem_range.mp hk), ⟨tyX3, tyX3_ok⟩, nmX3⟩
theorem zyX4_0 : u_lay RX4 TX4 0 ∈ zt_tbl := zt_t 267 (by decide +kernel) rfl
theorem zyX4_1 : u_lay RX4 TX4 1 ∈ zt_tbl := zt_t 269 (by decide +kernel) rfl
theorem zyX4_2 : u_lay RX4 TX4 2 ∈ zt_tbl := zt_t 271 (by decide +kernel) rfl
theorem zyX4_3 : u_lay RX4 TX4 3 ∈ zt_tbl := zt_t 273 (by decide +kernel) rfl
theorem zyX4_4 : u_lay RX4 TX4 4 ∈ zt_tbl := zt_t 275 (by decide +kernel) rfl
theorem ziX4 : ∀ k, k < 5 → u_lay RX4 TX4 k ∈ zt_tbl := fun k hk => match k, hk with
  | 0, _ => zyX4_0
  | 1, _ => zyX4_1
  | 2, _ => zyX4_2
  | 3, _ => zyX4_3
  | 4, _ => zyX4_4
  | k + 5, h => absurd h (by omega)
theorem zcX4 : zc_ok 4 RX4 TX4 5 := ⟨rfl, fun w hw => by
  obtain ⟨k, hk, rfl⟩ := List.mem_map.mp hw
  exact ziX4 k (List.mem_range.mp hk), ⟨tyX4, tyX4_ok⟩, nmX4⟩
theorem zyX5_0 : u_lay RX5 TX5 0 ∈ zt_tbl := zt_t 54 (by decide +kernel) rfl
theorem zyX5_1 : u_lay RX5 TX5 1 ∈ zt_tbl := zt_t 56 (by decide +kernel) rfl
theorem zyX5_2 : u_lay RX5 TX5 2 ∈ zt_tbl := zt_t 58 (by decide +kernel) rfl
theorem ziX5 : ∀ k, k < 3 → u_lay RX5 TX5 k ∈ zt_tbl := fun k hk => match k, hk with
  | 0, _ => zyX5_0
  | 1, _ => zyX5_1
  | 2, _ => zyX5_2
  | k + 3, h => absurd h (by omega)
theorem zcX5 : zc_ok 5 RX5 TX5 3 := ⟨rfl, fun w hw => by
  obtain ⟨k, hk, rfl⟩ := List.mem_map.mp hw
  exact ziX5 k (List.mem_range.mp hk), ⟨tyX5, tyX5_ok⟩, nmX5⟩
theorem zyX6_0 : u_lay RX6 TX6 0 ∈ zt_tbl := zt_t 241 (by decide +kernel) rfl
theorem zyX6_1 : u_lay RX6 TX6 1 ∈ zt_tbl := zt_t 243 (by decide +kernel) rfl
theorem zyX6_2 : u_lay RX6 TX6 2 ∈ zt_tbl := zt_t 245 (by decide +kernel) rfl
theorem zyX6_3 : u_lay RX6 TX6 3 ∈ zt_tbl := zt_t 247 (by decide +kernel) rfl
theorem zyX6_4 : u_lay RX6 TX6 4 ∈ zt_tbl := zt_t 249 (by decide +kernel) rfl
theorem ziX6 : ∀ k, k < 5 → u_lay RX6 TX6 k ∈ zt_tbl := fun k hk => match k, hk with
  | 0, _ => zyX6_0
  | 1, _ => zyX6_1
  | 2, _ => zyX6_2
  | 3, _ => zyX6_3
  | 4, _ => zyX6_4
  | k + 5, h => absurd h (by omega)
theorem zcX6 : zc_ok 6 RX6 TX6 5 := ⟨rfl, fun w hw => by
  obtain ⟨k, hk, rfl⟩ := List.mem_map.mp hw
  exact ziX6 k (List.mem_range.mp hk), ⟨tyX6, tyX6_ok⟩, nmX6⟩
theorem zyX7_0 : u_lay RX7 TX7 0 ∈ zt_tbl := zt_t 221 (by decide +kernel) rfl
theorem zyX7_1 : u_lay RX7 TX7 1 ∈ zt_tbl := zt_t 223 (by decide +kernel) rfl
theorem zyX7_2 : u_lay RX7 TX7 2 ∈ zt_tbl := zt_t 225 (by decide +kernel) rfl
theorem ziX7 : ∀ k, k < 3 → u_lay RX7 TX7 k ∈ zt_tbl := fun k hk => match k, hk with
  | 0, _ => zyX7_0
  | 1, _ => zyX7_1
  | 2, _ => zyX7_2
  | k + 3, h => absurd h (by omega)
theorem zcX7 : zc_ok 7 RX7 TX7 3 := ⟨rfl, fun w hw => by
  obtain ⟨k, hk, rfl⟩ := List.mem_map.mp hw
  exact ziX7 k (List.mem_range.mp hk), ⟨tyX7, tyX7_ok⟩, nmX7⟩
theorem zyX8_0 : u_lay RX8 TX8 0 ∈ zt_tbl := zt_t 104 (by decide +kernel) rfl
theorem zyX8_1 : u_lay RX8 TX8 1 ∈ zt_tbl := zt_t 106 (by decide +kernel) rfl
theorem zyX8_2 : u_lay RX8 TX8 2 ∈ zt_tbl := zt_t 108 (by decide +kernel) rfl
theorem zyX8_3 : u_lay RX8 TX8 3 ∈ zt_tbl := zt_t 110 (by decide +kernel) rfl
theorem zyX8_4 : u_lay RX8 TX8 4 ∈ zt_tbl := zt_t 112 (by decide +kernel) rfl
theorem zyX8_5 : u_lay RX8 TX8 5 ∈ zt_tbl := zt_t 114 (by decide +kernel) rfl
theorem zyX8_6 : u_lay RX8 TX8 6 ∈ zt_tbl := zt_t 116 (by decide +kernel) rfl
theorem ziX8 : ∀ k, k < 7 → u_lay RX8 TX8 k ∈ zt_tbl := fun k hk => match k, hk with
  | 0, _ => zyX8_0
  | 1, _ => zyX8_1
  | 2, _ => zyX8_2
  | 3, _ => zyX8_3
  | 4, _ => zyX8_4
  | 5, _ => zyX8_5
  | 6, _ => zyX8_6
  | k + 7, h => absurd h (by omega)
theorem zcX8 : zc_ok 8 RX8 TX8 7 := ⟨rfl, fun w hw => by
  obtain ⟨k, hk, rfl⟩ := List.mem_map.mp hw
  exact ziX8 k (List.mem_range.mp hk), ⟨tyX8, tyX8_ok⟩, nmX8⟩
theorem zyX9_0 : u_lay RX9 TX9 0 ∈ zt_tbl := zt_t 150 (by decide +kernel) rfl
theorem zyX9_1 : u_lay RX9 TX9 1 ∈ zt_tbl := zt_t 152 (by decide +kernel) rfl
theorem zyX9_2 : u_lay RX9 TX9 2 ∈ zt_tbl := zt_t 154 (by decide +kernel) rfl
theorem ziX9 : ∀ k, k < 3 → u_lay RX9 TX9 k ∈ zt_tbl := fun k hk => match k, hk with
  | 0, _ => zyX9_0
  | 1, _ => zyX9_1
  | 2, _ => zyX9_2
  | k + 3, h => absurd h (by omega)
theorem zcX9 : zc_ok 9 RX9 TX9 3 := ⟨rfl, fun w hw => by
  obtain ⟨k, hk, rfl⟩ := List.mem_map.mp hw
  exact ziX9 k (List.mem_range.mp hk), ⟨tyX9, tyX9_ok⟩, nmX9⟩
theorem zyX10_0 : u_lay RX10 TX10 0 ∈ zt_tbl := zt_t 296 (by decide +kernel) rfl
theorem zyX10_1 : u_lay RX10 TX10 1 ∈ zt_tbl := zt_t 298 (by decide +kernel) rfl
theorem zyX10_2 : u_lay RX10 TX10 2 ∈ zt_tbl := zt_t 300 (by decide +kernel) rfl
theorem zyX10_3 : u_lay RX10 TX10 3 ∈ zt_tbl := zt_t 302 (by decide +kernel) rfl
theorem zyX10_4 : u_lay RX10 TX10 4 ∈ zt_tbl := zt_t 304 (by decide +kernel) rfl
theorem zyX10_5 : u_lay RX10 TX10 5 ∈ zt_tbl := zt_t 306 (by decide +kernel) rfl
theorem zyX10_6 : u_lay RX10 TX10 6 ∈ zt_tbl := zt_t 308 (by decide +kernel) rfl
theorem zyX10_7 : u_lay RX10 TX10 7 ∈ zt_tbl := zt_t 310 (by decide +kernel) rfl
theorem zyX10_8 : u_lay RX10 TX10 8 ∈ zt_tbl := zt_t 312 (by decide +kernel) rfl
theorem zyX10_9 : u_lay RX10 TX10 9 ∈ zt_tbl := zt_t 314 (by decide +kernel) rfl
theorem zyX10_10 : u_lay RX10 TX10 10 ∈ zt_tbl := zt_t 316 (by decide +kernel) rfl
theorem zyX10_11 : u_lay RX10 TX10 11 ∈ zt_tbl := zt_t 318 (by decide +kernel) rfl
theorem zyX10_12 : u_lay RX10 TX10 12 ∈ zt_tbl := zt_t 320 (by decide +kernel) rfl
theorem zyX10_13 : u_lay RX10 TX10 13 ∈ zt_tbl := zt_t 322 (by decide +kernel) rfl
theorem zyX10_14 : u_lay RX10 TX10 14 ∈ zt_tbl := zt_t 324 (by decide +kernel) rfl
theorem zyX10_15 : u_lay RX10 TX10 15 ∈ zt_tbl := zt_t 326 (by decide +kernel) rfl
theorem zyX10_16 : u_lay RX10 TX10 16 ∈ zt_tbl := zt_t 328 (by decide +kernel) rfl
theorem zyX10_17 : u_lay RX10 TX10 17 ∈ zt_tbl := zt_t 330 (by decide +kernel) rfl
theorem ziX10 : ∀ k, k < 18 → u_lay RX10 TX10 k ∈ zt_tbl := fun k hk => match k, hk with
  | 0, _ => zyX10_0
  | 1, _ => zyX10_1
  | 2, _ => zyX10_2
  | 3, _ => zyX10_3
  | 4, _ => zyX10_4
  | 5, _ => zyX10_5
  | 6, _ => zyX10_6
  | 7, _ => zyX10_7
  | 8, _ => zyX10_8
  | 9, _ => zyX10_9
  | 10, _ => zyX10_10
  | 11, _ => zyX10_11
  | 12, _ => zyX10_12
  | 13, _ => zyX10_13
  | 14, _ => zyX10_14
  | 15, _ => zyX10_15
  | 16, _ => zyX10_16
  | 17, _ => zyX10_17
  | k + 18, h => absurd h (by omega)
theorem zcX10 : zc_ok 10 RX10 TX10 18 := ⟨rfl, fun w hw => by
  obtain ⟨k, hk, rfl⟩ := List.mem_map.mp hw
  exact ziX10 k (List.mem_range.mp hk), ⟨tyX10, tyX10_ok⟩, nmX10⟩
theorem zyX11_0 : u_lay RX11 TX11 0 ∈ zt_tbl := zt_t 1112 (by decide +kernel) rfl
theorem zyX11_1 : u_lay RX11 TX11 1 ∈ zt_tbl := zt_t 1114 (by decide +kernel) rfl
theorem zyX11_2 : u_lay RX11 TX11 2 ∈ zt_tbl := zt_t 1116 (by decide +kernel) rfl
theorem zyX11_3 : u_lay RX11 TX11 3 ∈ zt_tbl := zt_t 1118 (by decide +kernel) rfl
theorem zyX11_4 : u_lay RX11 TX11 4 ∈ zt_tbl := zt_t 1120 (by decide +kernel) rfl
theorem zyX11_5 : u_lay RX11 TX11 5 ∈ zt_tbl := zt_t 1122 (by decide +kernel) rfl
theorem zyX11_6 : u_lay RX11 TX11 6 ∈ zt_tbl := zt_t 1124 (by decide +kernel) rfl
theorem zyX11_7 : u_lay RX11 TX11 7 ∈ zt_tbl := zt_t 1126 (by decide +kernel) rfl
theorem zyX11_8 : u_lay RX11 TX11 8 ∈ zt_tbl := zt_t 1128 (by decide +kernel) rfl
theorem zyX11_9 : u_lay RX11 TX11 9 ∈ zt_tbl := zt_t 1130 (by decide +kernel) rfl
theorem zyX11_10 : u_lay RX11 TX11 10 ∈ zt_tbl := zt_t 1132 (by decide +kernel) rfl
theorem zyX11_11 : u_lay RX11 TX11 11 ∈ zt_tbl := zt_t 1134 (by decide +kernel) rfl
theorem zyX11_12 : u_lay RX11 TX11 12 ∈ zt_tbl := zt_t 1136 (by decide +kernel) rfl
theorem zyX11_13 : u_lay RX11 TX11 13 ∈ zt_tbl := zt_t 1138 (by decide +kernel) rfl
theorem zyX11_14 : u_lay RX11 TX11 14 ∈ zt_tbl := zt_t 1140 (by decide +kernel) rfl
theorem zyX11_15 : u_lay RX11 TX11 15 ∈ zt_tbl := zt_t 1142 (by decide +kernel) rfl
theorem zyX11_16 : u_lay RX11 TX11 16 ∈ zt_tbl := zt_t 1144 (by decide +kernel) rfl
theorem zyX11_17 : u_lay RX11 TX11 17 ∈ zt_tbl := zt_t 1146 (by decide +kernel) rfl
theorem zyX11_18 : u_lay RX11 TX11 18 ∈ zt_tbl := zt_t 1148 (by decide +kernel) rfl
theorem zyX11_19 : u_lay RX11 TX11 19 ∈ zt_tbl := zt_t 1150 (by decide +kernel) rfl
theorem zyX11_20 : u_lay RX11 TX11 20 ∈ zt_tbl := zt_t 1152 (by decide +kernel) rfl
theorem zyX11_21 : u_lay RX11 TX11 21 ∈ zt_tbl := zt_t 1154 (by decide +kernel) rfl
theorem zyX11_22 : u_lay RX11 TX11 22 ∈ zt_tbl := zt_t 1156 (by decide +kernel) rfl
theorem zyX11_23 : u_lay RX11 TX11 23 ∈ zt_tbl := zt_t 1158 (by decide +kernel) rfl
theorem zyX11_24 : u_lay RX11 TX11 24 ∈ zt_tbl := zt_t 1160 (by decide +kernel) rfl
theorem zyX11_25 : u_lay RX11 TX11 25 ∈ zt_tbl := zt_t 1162 (by decide +kernel) rfl
theorem zyX11_26 : u_lay RX11 TX11 26 ∈ zt_tbl := zt_t 1164 (by decide +kernel) rfl
theorem zyX11_27 : u_lay RX11 TX11 27 ∈ zt_tbl := zt_t 1166 (by decide +kernel) rfl
theorem zyX11_28 : u_lay RX11 TX11 28 ∈ zt_tbl := zt_t 1168 (by decide +kernel) rfl
theorem zyX11_29 : u_lay RX11 TX11 29 ∈ zt_tbl := zt_t 1170 (by decide +kernel) rfl
theorem zyX11_30 : u_lay RX11 TX11 30 ∈ zt_tbl := zt_t 1172 (by decide +kernel) rfl
theorem zyX11_31 : u_lay RX11 TX11 31 ∈ zt_tbl := zt_t 1174 (by decide +kernel) rfl
theorem zyX11_32 : u_lay RX11 TX11 32 ∈ zt_tbl := zt_t 1176 (by decide +kernel) rfl
theorem zyX11_33 : u_lay RX11 TX11 33 ∈ zt_tbl := zt_t 1178 (by decide +kernel) rfl
theorem zyX11_34 : u_lay RX11 TX11 34 ∈ zt_tbl := zt_t 1180 (by decide +kernel) rfl
theorem zyX11_35 : u_lay RX11 TX11 35 ∈ zt_tbl := zt_t 1182 (by decide +kernel) rfl
theorem zyX11_36 : u_lay RX11 TX11 36 ∈ zt_tbl := zt_t 1184 (by decide +kernel) rfl
theorem zyX11_37 : u_lay RX11 TX11 37 ∈ zt_tbl := zt_t 1186 (by decide +kernel) rfl
theorem zyX11_38 : u_lay RX11 TX11 38 ∈ zt_tbl := zt_t 1188 (by decide +kernel) rfl
theorem zyX11_39 : u_lay RX11 TX11 39 ∈ zt_tbl := zt_t 1190 (by decide +kernel) rfl
theorem zyX11_40 : u_lay RX11 TX11 40 ∈ zt_tbl := zt_t 1192 (by decide +kernel) rfl
theorem zyX11_41 : u_lay RX11 TX11 41 ∈ zt_tbl := zt_t 1194 (by decide +kernel) rfl
theorem zyX11_42 : u_lay RX11 TX11 42 ∈ zt_tbl := zt_t 1196 (by decide +kernel) rfl
theorem zyX11_43 : u_lay RX11 TX11 43 ∈ zt_tbl := zt_t 1198 (by decide +kernel) rfl
theorem zyX11_44 : u_lay RX11 TX11 44 ∈ zt_tbl := zt_t 1200 (by decide +kernel) rfl
theorem zyX11_45 : u_lay RX11 TX11 45 ∈ zt_tbl := zt_t 1202 (by decide +kernel) rfl
theorem zyX11_46 : u_lay RX11 TX11 46 ∈ zt_tbl := zt_t 1204 (by decide +kernel) rfl
theorem ziX11 : ∀ k, k < 47 → u_lay RX11 TX11 k ∈ zt_tbl := fun k hk => match k, hk with
  | 0, _ => zyX11_0
  | 1, _ => zyX11_1
  | 2, _ => zyX11_2
  | 3, _ => zyX11_3
  | 4, _ => zyX11_4
  | 5, _ => zyX11_5
  | 6, _ => zyX11_6
  | 7, _ => zyX11_7
  | 8, _ => zyX11_8
  | 9, _ => zyX11_9
  | 10, _ => zyX11_10
  | 11, _ => zyX11_11
  | 12, _ => zyX11_12
  | 13, _ => zyX11_13
  | 14, _ => zyX11_14
  | 15, _ => zyX11_15
  | 16, _ => zyX11_16
  | 17, _ => zyX11_17
  | 18, _ => zyX11_18
  | 19, _ => zyX11_19
  | 20, _ => zyX11_20
  | 21, _ => zyX11_21
  | 22, _ => zyX11_22
  | 23, _ => zyX11_23
  | 24, _ => zyX11_24
  | 25, _ => zyX11_25
  | 26, _ => zyX11_26
  | 27, _ => zyX11_27
  | 28, _ => zyX11_28
  | 29, _ => zyX11_29
  | 30, _ => zyX11_30
  | 31, _ => zyX11_31
  | 32, _ => zyX11_32
  | 33, _ => zyX11_33
  | 34, _ => zyX11_34
  | 35, _ => zyX11_35
  | 36, _ => zyX11_36
  | 37, _ => zyX11_37
  | 38, _ => zyX11_38
  | 39, _ => zyX11_39
  | 40, _ => zyX11_40
  | 41, _ => zyX11_41
  | 42, _ => zyX11_42
  | 43, _ => zyX11_43
  | 44, _ => zyX11_44
  | 45, _ => zyX11_45
  | 46, _ => zyX11_46
  | k + 47, h => absurd h (by omega)
theorem zcX11 : zc_ok 11 RX11 TX11 47 := ⟨rfl, fun w hw => by
  obtain ⟨k, hk, rfl⟩ := List.mem_map.mp hw
  exact ziX11 k (List.mem_range.mp hk), ⟨tyX11, tyX11_ok⟩, nmX11⟩
