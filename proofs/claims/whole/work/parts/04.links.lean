set_option maxRecDepth 20000 in
theorem inX0 : ∀ w ∈ u_ws RX0 TX0 5, w ∈ gT0 := by
  intro w hw
  obtain ⟨k, hk, rfl⟩ := List.mem_map.mp hw
  have hk := List.mem_range.mp hk
  match k, hk with
  | 0, _ => exact (gT0_tb 142 (by decide +kernel) rfl)
  | 1, _ => exact (gT0_tb 144 (by decide +kernel) rfl)
  | 2, _ => exact (gT0_tb 146 (by decide +kernel) rfl)
  | 3, _ => exact (gT0_tb 148 (by decide +kernel) rfl)
  | 4, _ => exact (gT0_tb 150 (by decide +kernel) rfl)
set_option maxRecDepth 20000 in
theorem inX1 : ∀ w ∈ u_ws RX1 TX1 4, w ∈ gT0 := by
  intro w hw
  obtain ⟨k, hk, rfl⟩ := List.mem_map.mp hw
  have hk := List.mem_range.mp hk
  match k, hk with
  | 0, _ => exact (gT0_tb 267 (by decide +kernel) rfl)
  | 1, _ => exact (gT0_tb 269 (by decide +kernel) rfl)
  | 2, _ => exact (gT0_tb 271 (by decide +kernel) rfl)
  | 3, _ => exact (gT0_tb 273 (by decide +kernel) rfl)
set_option maxRecDepth 20000 in
theorem inX2 : ∀ w ∈ u_ws RX2 TX2 2, w ∈ gT0 := by
  intro w hw
  obtain ⟨k, hk, rfl⟩ := List.mem_map.mp hw
  have hk := List.mem_range.mp hk
  match k, hk with
  | 0, _ => exact (gT0_tb 219 (by decide +kernel) rfl)
  | 1, _ => exact (gT0_tb 221 (by decide +kernel) rfl)
set_option maxRecDepth 20000 in
theorem inX3 : ∀ w ∈ u_ws RX3 TX3 3, w ∈ gT0 := by
  intro w hw
  obtain ⟨k, hk, rfl⟩ := List.mem_map.mp hw
  have hk := List.mem_range.mp hk
  match k, hk with
  | 0, _ => exact (gT0_tb 35 (by decide +kernel) rfl)
  | 1, _ => exact (gT0_tb 37 (by decide +kernel) rfl)
  | 2, _ => exact (gT0_tb 39 (by decide +kernel) rfl)
set_option maxRecDepth 20000 in
theorem inX4 : ∀ w ∈ u_ws RX4 TX4 3, w ∈ gT0 := by
  intro w hw
  obtain ⟨k, hk, rfl⟩ := List.mem_map.mp hw
  have hk := List.mem_range.mp hk
  match k, hk with
  | 0, _ => exact (gT0_tb 171 (by decide +kernel) rfl)
  | 1, _ => exact (gT0_tb 173 (by decide +kernel) rfl)
  | 2, _ => exact (gT0_tb 175 (by decide +kernel) rfl)
set_option maxRecDepth 20000 in
theorem inX5 : ∀ w ∈ u_ws RX5 TX5 2, w ∈ gT0 := by
  intro w hw
  obtain ⟨k, hk, rfl⟩ := List.mem_map.mp hw
  have hk := List.mem_range.mp hk
  match k, hk with
  | 0, _ => exact (gT0_tb 54 (by decide +kernel) rfl)
  | 1, _ => exact (gT0_tb 56 (by decide +kernel) rfl)
set_option maxRecDepth 20000 in
theorem inX6 : ∀ w ∈ u_ws RX6 TX6 5, w ∈ gT0 := by
  intro w hw
  obtain ⟨k, hk, rfl⟩ := List.mem_map.mp hw
  have hk := List.mem_range.mp hk
  match k, hk with
  | 0, _ => exact (gT0_tb 229 (by decide +kernel) rfl)
  | 1, _ => exact (gT0_tb 231 (by decide +kernel) rfl)
  | 2, _ => exact (gT0_tb 233 (by decide +kernel) rfl)
  | 3, _ => exact (gT0_tb 235 (by decide +kernel) rfl)
  | 4, _ => exact (gT0_tb 237 (by decide +kernel) rfl)
set_option maxRecDepth 20000 in
theorem inX7 : ∀ w ∈ u_ws RX7 TX7 2, w ∈ gT0 := by
  intro w hw
  obtain ⟨k, hk, rfl⟩ := List.mem_map.mp hw
  have hk := List.mem_range.mp hk
  match k, hk with
  | 0, _ => exact (gT0_tb 250 (by decide +kernel) rfl)
  | 1, _ => exact (gT0_tb 252 (by decide +kernel) rfl)
set_option maxRecDepth 20000 in
theorem inX8 : ∀ w ∈ u_ws RX8 TX8 7, w ∈ gT0 := by
  intro w hw
  obtain ⟨k, hk, rfl⟩ := List.mem_map.mp hw
  have hk := List.mem_range.mp hk
  match k, hk with
  | 0, _ => exact (gT0_tb 185 (by decide +kernel) rfl)
  | 1, _ => exact (gT0_tb 187 (by decide +kernel) rfl)
  | 2, _ => exact (gT0_tb 189 (by decide +kernel) rfl)
  | 3, _ => exact (gT0_tb 191 (by decide +kernel) rfl)
  | 4, _ => exact (gT0_tb 193 (by decide +kernel) rfl)
  | 5, _ => exact (gT0_tb 195 (by decide +kernel) rfl)
  | 6, _ => exact (gT0_tb 197 (by decide +kernel) rfl)
set_option maxRecDepth 20000 in
theorem inX9 : ∀ w ∈ u_ws RX9 TX9 15, w ∈ gT0 := by
  intro w hw
  obtain ⟨k, hk, rfl⟩ := List.mem_map.mp hw
  have hk := List.mem_range.mp hk
  match k, hk with
  | 0, _ => exact (gT0_tb 100 (by decide +kernel) rfl)
  | 1, _ => exact (gT0_tb 102 (by decide +kernel) rfl)
  | 2, _ => exact (gT0_tb 104 (by decide +kernel) rfl)
  | 3, _ => exact (gT0_tb 106 (by decide +kernel) rfl)
  | 4, _ => exact (gT0_tb 108 (by decide +kernel) rfl)
  | 5, _ => exact (gT0_tb 110 (by decide +kernel) rfl)
  | 6, _ => exact (gT0_tb 112 (by decide +kernel) rfl)
  | 7, _ => exact (gT0_tb 114 (by decide +kernel) rfl)
  | 8, _ => exact (gT0_tb 116 (by decide +kernel) rfl)
  | 9, _ => exact (gT0_tb 118 (by decide +kernel) rfl)
  | 10, _ => exact (gT0_tb 120 (by decide +kernel) rfl)
  | 11, _ => exact (gT0_tb 122 (by decide +kernel) rfl)
  | 12, _ => exact (gT0_tb 124 (by decide +kernel) rfl)
  | 13, _ => exact (gT0_tb 126 (by decide +kernel) rfl)
  | 14, _ => exact (gT0_tb 128 (by decide +kernel) rfl)
set_option maxRecDepth 20000 in
theorem inX10 : ∀ w ∈ u_ws RX10 TX10 2, w ∈ gT0 := by
  intro w hw
  obtain ⟨k, hk, rfl⟩ := List.mem_map.mp hw
  have hk := List.mem_range.mp hk
  match k, hk with
  | 0, _ => exact (gT0_tb 74 (by decide +kernel) rfl)
  | 1, _ => exact (gT0_tb 76 (by decide +kernel) rfl)
set_option maxRecDepth 20000 in
theorem inX11 : ∀ w ∈ u_ws RX11 TX11 11, w ∈ gT0 := by
  intro w hw
  obtain ⟨k, hk, rfl⟩ := List.mem_map.mp hw
  have hk := List.mem_range.mp hk
  match k, hk with
  | 0, _ => exact (gT0_tb 287 (by decide +kernel) rfl)
  | 1, _ => exact (gT0_tb 289 (by decide +kernel) rfl)
  | 2, _ => exact (gT0_tb 291 (by decide +kernel) rfl)
  | 3, _ => exact (gT0_tb 293 (by decide +kernel) rfl)
  | 4, _ => exact (gT0_tb 295 (by decide +kernel) rfl)
  | 5, _ => exact (gT0_tb 297 (by decide +kernel) rfl)
  | 6, _ => exact (gT0_tb 299 (by decide +kernel) rfl)
  | 7, _ => exact (gT0_tb 301 (by decide +kernel) rfl)
  | 8, _ => exact (gT0_tb 303 (by decide +kernel) rfl)
  | 9, _ => exact (gT0_tb 305 (by decide +kernel) rfl)
  | 10, _ => exact (gT0_tb 307 (by decide +kernel) rfl)
set_option maxRecDepth 20000 in
theorem inX12 : ∀ w ∈ u_ws RX12 TX12 47, w ∈ gT0 := by
  intro w hw
  obtain ⟨k, hk, rfl⟩ := List.mem_map.mp hw
  have hk := List.mem_range.mp hk
  match k, hk with
  | 0, _ => exact (gT0_tb 918 (by decide +kernel) rfl)
  | 1, _ => exact (gT0_tb 920 (by decide +kernel) rfl)
  | 2, _ => exact (gT0_tb 922 (by decide +kernel) rfl)
  | 3, _ => exact (gT0_tb 924 (by decide +kernel) rfl)
  | 4, _ => exact (gT0_tb 926 (by decide +kernel) rfl)
  | 5, _ => exact (gT0_tb 928 (by decide +kernel) rfl)
  | 6, _ => exact (gT0_tb 930 (by decide +kernel) rfl)
  | 7, _ => exact (gT0_tb 932 (by decide +kernel) rfl)
  | 8, _ => exact (gT0_tb 934 (by decide +kernel) rfl)
  | 9, _ => exact (gT0_tb 936 (by decide +kernel) rfl)
  | 10, _ => exact (gT0_tb 938 (by decide +kernel) rfl)
  | 11, _ => exact (gT0_tb 940 (by decide +kernel) rfl)
  | 12, _ => exact (gT0_tb 942 (by decide +kernel) rfl)
  | 13, _ => exact (gT0_tb 944 (by decide +kernel) rfl)
  | 14, _ => exact (gT0_tb 946 (by decide +kernel) rfl)
  | 15, _ => exact (gT0_tb 948 (by decide +kernel) rfl)
  | 16, _ => exact (gT0_tb 950 (by decide +kernel) rfl)
  | 17, _ => exact (gT0_tb 952 (by decide +kernel) rfl)
  | 18, _ => exact (gT0_tb 954 (by decide +kernel) rfl)
  | 19, _ => exact (gT0_tb 956 (by decide +kernel) rfl)
  | 20, _ => exact (gT0_tb 958 (by decide +kernel) rfl)
  | 21, _ => exact (gT0_tb 960 (by decide +kernel) rfl)
  | 22, _ => exact (gT0_tb 962 (by decide +kernel) rfl)
  | 23, _ => exact (gT0_tb 964 (by decide +kernel) rfl)
  | 24, _ => exact (gT0_tb 966 (by decide +kernel) rfl)
  | 25, _ => exact (gT0_tb 968 (by decide +kernel) rfl)
  | 26, _ => exact (gT0_tb 970 (by decide +kernel) rfl)
  | 27, _ => exact (gT0_tb 972 (by decide +kernel) rfl)
  | 28, _ => exact (gT0_tb 974 (by decide +kernel) rfl)
  | 29, _ => exact (gT0_tb 976 (by decide +kernel) rfl)
  | 30, _ => exact (gT0_tb 978 (by decide +kernel) rfl)
  | 31, _ => exact (gT0_tb 980 (by decide +kernel) rfl)
  | 32, _ => exact (gT0_tb 982 (by decide +kernel) rfl)
  | 33, _ => exact (gT0_tb 984 (by decide +kernel) rfl)
  | 34, _ => exact (gT0_tb 986 (by decide +kernel) rfl)
  | 35, _ => exact (gT0_tb 988 (by decide +kernel) rfl)
  | 36, _ => exact (gT0_tb 990 (by decide +kernel) rfl)
  | 37, _ => exact (gT0_tb 992 (by decide +kernel) rfl)
  | 38, _ => exact (gT0_tb 994 (by decide +kernel) rfl)
  | 39, _ => exact (gT0_tb 996 (by decide +kernel) rfl)
  | 40, _ => exact (gT0_tb 998 (by decide +kernel) rfl)
  | 41, _ => exact (gT0_tb 1000 (by decide +kernel) rfl)
  | 42, _ => exact (gT0_tb 1002 (by decide +kernel) rfl)
  | 43, _ => exact (gT0_tb 1004 (by decide +kernel) rfl)
  | 44, _ => exact (gT0_tb 1006 (by decide +kernel) rfl)
  | 45, _ => exact (gT0_tb 1008 (by decide +kernel) rfl)
  | 46, _ => exact (gT0_tb 1010 (by decide +kernel) rfl)
  | k + 47, hk => exact absurd hk (by omega)
theorem oiX0_1 : Cond.methodLink RX0 1 Lib.objectInit ∈ gT0 := (gT0_tb 136 (by decide +kernel) rfl)
theorem lpX0_7 : gLp RX0 7 0 0 (.array .long) false := ⟨RX0, TX0, 5, tyX0, rfl, by decide, inX0, tyX0_ok, nmX0, rfl, tyX0_ok 0 (by decide), rfl, (gT0_tb 137 (by decide +kernel) rfl)⟩
theorem lpX0_13 : gLp RX0 13 0 1 (.int) false := ⟨RX0, TX0, 5, tyX0, rfl, by decide, inX0, tyX0_ok, nmX0, rfl, tyX0_ok 1 (by decide), rfl, (gT0_tb 138 (by decide +kernel) rfl)⟩
theorem lpX0_17 : gLp RX0 17 0 2 (.int) false := ⟨RX0, TX0, 5, tyX0, rfl, by decide, inX0, tyX0_ok, nmX0, rfl, tyX0_ok 2 (by decide), rfl, (gT0_tb 139 (by decide +kernel) rfl)⟩
theorem lkX0_13 : gLk RX0 13 0 1 := ⟨RX0, TX0, 5, rfl, by decide, inX0, Or.inl (gT0_tb 138 (by decide +kernel) rfl)⟩
theorem lkX0_17 : gLk RX0 17 0 2 := ⟨RX0, TX0, 5, rfl, by decide, inX0, Or.inl (gT0_tb 139 (by decide +kernel) rfl)⟩
theorem lpX0_20 : gLp RX0 20 0 3 (.int) false := ⟨RX0, TX0, 5, tyX0, rfl, by decide, inX0, tyX0_ok, nmX0, rfl, tyX0_ok 3 (by decide), rfl, (gT0_tb 140 (by decide +kernel) rfl)⟩
theorem lpX0_23 : gLp RX0 23 0 4 (.int) false := ⟨RX0, TX0, 5, tyX0, rfl, by decide, inX0, tyX0_ok, nmX0, rfl, tyX0_ok 4 (by decide), rfl, (gT0_tb 141 (by decide +kernel) rfl)⟩
theorem lkX0_20 : gLk RX0 20 0 3 := ⟨RX0, TX0, 5, rfl, by decide, inX0, Or.inl (gT0_tb 140 (by decide +kernel) rfl)⟩
theorem lkX0_7 : gLk RX0 7 0 0 := ⟨RX0, TX0, 5, rfl, by decide, inX0, Or.inl (gT0_tb 137 (by decide +kernel) rfl)⟩
set_option maxRecDepth 100000 in
theorem slX0_26 : gSl RX0 26 yJ9_max_7cf53 cJ9_max_7cf53 2 (some .int) 2 := ⟨⟨Or.inl (gT0_tb 434 (by decide +kernel) rfl), (gT0_tb 4 (by decide +kernel) rfl), (gT0_tb 51 rfl rfl), by decide +kernel⟩, (gT0_tb 50 (by decide +kernel) rfl)⟩
theorem lkX0_23 : gLk RX0 23 0 4 := ⟨RX0, TX0, 5, rfl, by decide, inX0, Or.inl (gT0_tb 141 (by decide +kernel) rfl)⟩
set_option maxRecDepth 100000 in
theorem slX0_32 : gSl RX0 32 yJ9_min_7cf53 cJ9_min_7cf53 2 (some .int) 2 := ⟨⟨Or.inl (gT0_tb 503 (by decide +kernel) rfl), (gT0_tb 4 (by decide +kernel) rfl), (gT0_tb 407 rfl rfl), by decide +kernel⟩, (gT0_tb 406 (by decide +kernel) rfl)⟩
set_option maxRecDepth 100000 in
theorem slX0_35 : gVl RX0 35 yX0_has cX0_has 2 (some .boolean) 1 := ⟨⟨Or.inl (gT0_tb 671 (by decide +kernel) rfl), (gT0_tb 7 (by decide +kernel) rfl), (gT0_tb 662 rfl rfl), by decide +kernel⟩, (gT0_tb 660 (by decide +kernel) rfl), (gT0_tb 661 (by decide +kernel) rfl)⟩
set_option maxRecDepth 100000 in
theorem slX0_39 : gVl RX0 39 yX0_hasCell cX0_hasCell 3 (some .boolean) 2 := ⟨⟨Or.inl (gT0_tb 672 (by decide +kernel) rfl), (gT0_tb 7 (by decide +kernel) rfl), (gT0_tb 666 rfl rfl), by decide +kernel⟩, (gT0_tb 664 (by decide +kernel) rfl), (gT0_tb 665 (by decide +kernel) rfl)⟩
theorem oiX1_3 : Cond.methodLink RX1 3 Lib.objectInit ∈ gT0 := (gT0_tb 260 (by decide +kernel) rfl)
theorem clX1_9 : Cond.classLink RX1 9 RX2 ∈ gT0 := (gT0_tb 261 (by decide +kernel) rfl)
theorem lpX1_11 : gLp RX1 11 1 0 (.array (.object "ExactTests$Fraction")) true := ⟨RX1, TX1, 4, tyX1, rfl, by decide, inX1, tyX1_ok, nmX1, rfl, tyX1_ok 0 (by decide), rfl, (gT0_tb 263 (by decide +kernel) rfl)⟩
theorem lpX1_17 : gLp RX1 17 1 1 (.array .int) true := ⟨RX1, TX1, 4, tyX1, rfl, by decide, inX1, tyX1_ok, nmX1, rfl, tyX1_ok 1 (by decide), rfl, (gT0_tb 264 (by decide +kernel) rfl)⟩
theorem lpX1_21 : gLp RX1 21 1 2 (.object "ExactTests$Scale") true := ⟨RX1, TX1, 4, tyX1, rfl, by decide, inX1, tyX1_ok, nmX1, rfl, tyX1_ok 2 (by decide), rfl, (gT0_tb 265 (by decide +kernel) rfl)⟩
theorem lkX1_11 : gLk RX1 11 1 0 := ⟨RX1, TX1, 4, rfl, by decide, inX1, Or.inl (gT0_tb 263 (by decide +kernel) rfl)⟩
set_option maxRecDepth 100000 in
theorem slX1_25 : gIl RX1 25 yX2_init cX2_init 1 0 := ⟨⟨Or.inr ⟨"ExactTests", by decide +kernel⟩, (gT0_tb 11 (by decide +kernel) rfl), (gT0_tb 211 rfl rfl), by decide +kernel⟩, rfl, (gT0_tb 210 (by decide +kernel) rfl)⟩
theorem lkX1_26 : gLk RX1 26 1 3 := ⟨RX1, TX1, 4, rfl, by decide, inX1, Or.inl (gT0_tb 266 (by decide +kernel) rfl)⟩
theorem lpX1_26 : gLp RX1 26 1 3 (.int) false := ⟨RX1, TX1, 4, tyX1, rfl, by decide, inX1, tyX1_ok, nmX1, rfl, tyX1_ok 3 (by decide), rfl, (gT0_tb 266 (by decide +kernel) rfl)⟩
set_option maxRecDepth 100000 in
theorem slX1_30 : gVl RX1 30 yX1_isFull cX1_isFull 1 (some .boolean) 0 := ⟨⟨Or.inl (gT0_tb 784 (by decide +kernel) rfl), (gT0_tb 13 (by decide +kernel) rfl), (gT0_tb 779 rfl rfl), by decide +kernel⟩, (gT0_tb 777 (by decide +kernel) rfl), (gT0_tb 778 (by decide +kernel) rfl)⟩
set_option maxRecDepth 100000 in
theorem slX1_34 : gVl RX1 34 yX2_copy cX2_copy 2 none 1 := ⟨⟨Or.inl (gT0_tb 785 (by decide +kernel) rfl), (gT0_tb 11 (by decide +kernel) rfl), (gT0_tb 788 rfl rfl), by decide +kernel⟩, (gT0_tb 786 (by decide +kernel) rfl), (gT0_tb 787 (by decide +kernel) rfl)⟩
theorem lkX1_21 : gLk RX1 21 1 2 := ⟨RX1, TX1, 4, rfl, by decide, inX1, Or.inl (gT0_tb 265 (by decide +kernel) rfl)⟩
theorem lkX1_17 : gLk RX1 17 1 1 := ⟨RX1, TX1, 4, rfl, by decide, inX1, Or.inl (gT0_tb 264 (by decide +kernel) rfl)⟩
set_option maxRecDepth 100000 in
theorem slX1_38 : gVl RX1 38 yX7_compareChances cX7_compareChances 3 (some .int) 2 := ⟨⟨Or.inl (gT0_tb 789 (by decide +kernel) rfl), (gT0_tb 12 (by decide +kernel) rfl), (gT0_tb 792 rfl rfl), by decide +kernel⟩, (gT0_tb 790 (by decide +kernel) rfl), (gT0_tb 791 (by decide +kernel) rfl)⟩
set_option maxRecDepth 100000 in
theorem slX1_44 : gVl RX1 44 yX7_compareToLevel cX7_compareToLevel 6 (some .int) 3 := ⟨⟨Or.inl (gT0_tb 805 (by decide +kernel) rfl), (gT0_tb 12 (by decide +kernel) rfl), (gT0_tb 747 rfl rfl), by decide +kernel⟩, (gT0_tb 745 (by decide +kernel) rfl), (gT0_tb 746 (by decide +kernel) rfl)⟩
theorem oiX2_1 : Cond.methodLink RX2 1 Lib.objectInit ∈ gT0 := (gT0_tb 212 (by decide +kernel) rfl)
theorem clX2_7 : Cond.classLink RX2 7 RX10 ∈ gT0 := (gT0_tb 213 (by decide +kernel) rfl)
set_option maxRecDepth 100000 in
theorem slX2_9 : gIl RX2 9 yX10_init cX10_init 1 0 := ⟨⟨Or.inr ⟨"ExactTests", by decide +kernel⟩, (gT0_tb 6 (by decide +kernel) rfl), (gT0_tb 70 rfl rfl), by decide +kernel⟩, rfl, (gT0_tb 69 (by decide +kernel) rfl)⟩
theorem lpX2_10 : gLp RX2 10 2 0 (.object "ExactTests$Whole") true := ⟨RX2, TX2, 2, tyX2, rfl, by decide, inX2, tyX2_ok, nmX2, rfl, tyX2_ok 0 (by decide), rfl, (gT0_tb 215 (by decide +kernel) rfl)⟩
theorem lpX2_16 : gLp RX2 16 2 1 (.object "ExactTests$Whole") true := ⟨RX2, TX2, 2, tyX2, rfl, by decide, inX2, tyX2_ok, nmX2, rfl, tyX2_ok 1 (by decide), rfl, (gT0_tb 217 (by decide +kernel) rfl)⟩
theorem lkX2_10 : gLk RX2 10 2 0 := ⟨RX2, TX2, 2, rfl, by decide, inX2, Or.inl (gT0_tb 215 (by decide +kernel) rfl)⟩
set_option maxRecDepth 100000 in
theorem slX2_19 : gVl RX2 19 yX10_copy cX10_copy 3 none 1 := ⟨⟨Or.inl (gT0_tb 516 (by decide +kernel) rfl), (gT0_tb 6 (by decide +kernel) rfl), (gT0_tb 461 rfl rfl), by decide +kernel⟩, (gT0_tb 459 (by decide +kernel) rfl), (gT0_tb 460 (by decide +kernel) rfl)⟩
theorem lkX2_16 : gLk RX2 16 2 1 := ⟨RX2, TX2, 2, rfl, by decide, inX2, Or.inl (gT0_tb 217 (by decide +kernel) rfl)⟩
set_option maxRecDepth 100000 in
theorem slX2_23 : gVl RX2 23 yX2_reduce cX2_reduce 4 none 0 := ⟨⟨Or.inl (gT0_tb 517 (by decide +kernel) rfl), (gT0_tb 11 (by decide +kernel) rfl), (gT0_tb 520 rfl rfl), by decide +kernel⟩, (gT0_tb 519 (by decide +kernel) rfl), (gT0_sl 13 (by decide +kernel) rfl)⟩
set_option maxRecDepth 100000 in
theorem slX2_26 : gVl RX2 26 yX10_set cX10_set 3 none 1 := ⟨⟨Or.inl (gT0_tb 623 (by decide +kernel) rfl), (gT0_tb 6 (by decide +kernel) rfl), (gT0_tb 447 rfl rfl), by decide +kernel⟩, (gT0_tb 445 (by decide +kernel) rfl), (gT0_tb 446 (by decide +kernel) rfl)⟩
set_option maxRecDepth 100000 in
theorem slX2_30 : gVl RX2 30 yX10_countWords cX10_countWords 1 (some .int) 0 := ⟨⟨Or.inl (gT0_tb 831 (by decide +kernel) rfl), (gT0_tb 6 (by decide +kernel) rfl), (gT0_tb 834 rfl rfl), by decide +kernel⟩, (gT0_tb 832 (by decide +kernel) rfl), (gT0_tb 833 (by decide +kernel) rfl)⟩
set_option maxRecDepth 100000 in
theorem slX2_34 : gVl RX2 34 yX10_sixteenBits cX10_sixteenBits 3 (some .int) 1 := ⟨⟨Or.inl (gT0_tb 841 (by decide +kernel) rfl), (gT0_tb 6 (by decide +kernel) rfl), (gT0_tb 715 rfl rfl), by decide +kernel⟩, (gT0_tb 713 (by decide +kernel) rfl), (gT0_tb 714 (by decide +kernel) rfl)⟩
theorem stX2_38 : Cond.fieldLink RX2 38 "ExactTests$Fraction" "PRIMES" "[I" ∈ gT0 := (gT0_tb 521 (by decide +kernel) rfl)
set_option maxRecDepth 100000 in
theorem slX2_42 : gVl RX2 42 yX2_isCommon cX2_isCommon 2 (some .boolean) 1 := ⟨⟨Or.inl (gT0_tb 523 (by decide +kernel) rfl), (gT0_tb 11 (by decide +kernel) rfl), (gT0_tb 526 rfl rfl), by decide +kernel⟩, (gT0_tb 525 (by decide +kernel) rfl), (gT0_sl 14 (by decide +kernel) rfl)⟩
set_option maxRecDepth 100000 in
theorem slX2_46 : gVl RX2 46 yX10_divide cX10_divide 7 none 1 := ⟨⟨Or.inl (gT0_tb 531 (by decide +kernel) rfl), (gT0_tb 6 (by decide +kernel) rfl), (gT0_tb 534 rfl rfl), by decide +kernel⟩, (gT0_tb 532 (by decide +kernel) rfl), (gT0_tb 533 (by decide +kernel) rfl)⟩
set_option maxRecDepth 100000 in
theorem slX2_50 : gVl RX2 50 yX10_remainder cX10_remainder 5 (some .int) 1 := ⟨⟨Or.inl (gT0_tb 527 (by decide +kernel) rfl), (gT0_tb 6 (by decide +kernel) rfl), (gT0_tb 530 rfl rfl), by decide +kernel⟩, (gT0_tb 528 (by decide +kernel) rfl), (gT0_tb 529 (by decide +kernel) rfl)⟩
theorem oiX3_3 : Cond.methodLink RX3 3 Lib.objectInit ∈ gT0 := (gT0_tb 31 (by decide +kernel) rfl)
theorem lpX3_9 : gLp RX3 9 3 0 (.array .int) true := ⟨RX3, TX3, 3, tyX3, rfl, by decide, inX3, tyX3_ok, nmX3, rfl, tyX3_ok 0 (by decide), rfl, (gT0_tb 32 (by decide +kernel) rfl)⟩
theorem lpX3_15 : gLp RX3 15 3 1 (.int) false := ⟨RX3, TX3, 3, tyX3, rfl, by decide, inX3, tyX3_ok, nmX3, rfl, tyX3_ok 1 (by decide), rfl, (gT0_tb 33 (by decide +kernel) rfl)⟩
theorem lpX3_19 : gLp RX3 19 3 2 (.int) false := ⟨RX3, TX3, 3, tyX3, rfl, by decide, inX3, tyX3_ok, nmX3, rfl, tyX3_ok 2 (by decide), rfl, (gT0_tb 34 (by decide +kernel) rfl)⟩
theorem lkX3_9 : gLk RX3 9 3 0 := ⟨RX3, TX3, 3, rfl, by decide, inX3, Or.inl (gT0_tb 32 (by decide +kernel) rfl)⟩
theorem lkX3_15 : gLk RX3 15 3 1 := ⟨RX3, TX3, 3, rfl, by decide, inX3, Or.inl (gT0_tb 33 (by decide +kernel) rfl)⟩
theorem lkX3_19 : gLk RX3 19 3 2 := ⟨RX3, TX3, 3, rfl, by decide, inX3, Or.inl (gT0_tb 34 (by decide +kernel) rfl)⟩
set_option maxRecDepth 100000 in
theorem slX3_22 : gVl RX3 22 yX3_hasRow cX3_hasRow 2 (some .boolean) 1 := ⟨⟨Or.inl (gT0_tb 337 (by decide +kernel) rfl), (gT0_tb 2 (by decide +kernel) rfl), (gT0_tb 328 rfl rfl), by decide +kernel⟩, (gT0_tb 326 (by decide +kernel) rfl), (gT0_tb 327 (by decide +kernel) rfl)⟩
set_option maxRecDepth 100000 in
theorem slX3_26 : gVl RX3 26 yX3_hasColumn cX3_hasColumn 2 (some .boolean) 1 := ⟨⟨Or.inl (gT0_tb 338 (by decide +kernel) rfl), (gT0_tb 2 (by decide +kernel) rfl), (gT0_tb 332 rfl rfl), by decide +kernel⟩, (gT0_tb 330 (by decide +kernel) rfl), (gT0_tb 331 (by decide +kernel) rfl)⟩
set_option maxRecDepth 100000 in
theorem slX3_29 : gVl RX3 29 yX3_at cX3_at 3 (some .int) 2 := ⟨⟨Or.inl (gT0_tb 355 (by decide +kernel) rfl), (gT0_tb 2 (by decide +kernel) rfl), (gT0_tb 336 rfl rfl), by decide +kernel⟩, (gT0_tb 334 (by decide +kernel) rfl), (gT0_tb 335 (by decide +kernel) rfl)⟩
theorem oiX4_1 : Cond.methodLink RX4 1 Lib.objectInit ∈ gT0 := (gT0_tb 164 (by decide +kernel) rfl)
theorem lpX4_7 : gLp RX4 7 4 0 (.array .int) false := ⟨RX4, TX4, 3, tyX4, rfl, by decide, inX4, tyX4_ok, nmX4, rfl, tyX4_ok 0 (by decide), rfl, (gT0_tb 165 (by decide +kernel) rfl)⟩
theorem lpX4_13 : gLp RX4 13 4 1 (.array .int) false := ⟨RX4, TX4, 3, tyX4, rfl, by decide, inX4, tyX4_ok, nmX4, rfl, tyX4_ok 1 (by decide), rfl, (gT0_tb 167 (by decide +kernel) rfl)⟩
theorem lkX4_7 : gLk RX4 7 4 0 := ⟨RX4, TX4, 3, rfl, by decide, inX4, Or.inl (gT0_tb 165 (by decide +kernel) rfl)⟩
theorem lkX4_13 : gLk RX4 13 4 1 := ⟨RX4, TX4, 3, rfl, by decide, inX4, Or.inl (gT0_tb 167 (by decide +kernel) rfl)⟩
theorem lpX4_16 : gLp RX4 16 4 2 (.int) false := ⟨RX4, TX4, 3, tyX4, rfl, by decide, inX4, tyX4_ok, nmX4, rfl, tyX4_ok 2 (by decide), rfl, (gT0_tb 169 (by decide +kernel) rfl)⟩
theorem lkX4_16 : gLk RX4 16 4 2 := ⟨RX4, TX4, 3, rfl, by decide, inX4, Or.inl (gT0_tb 169 (by decide +kernel) rfl)⟩
theorem kcX4_20 : Cond.constant RX4 20 (32768) ∈ gT0 := (gT0_tb 593 (by decide +kernel) rfl)
set_option maxRecDepth 100000 in
theorem slX4_21 : gVl RX4 21 yX4_makeRoom cX4_makeRoom 5 none 1 := ⟨⟨Or.inl (gT0_tb 594 (by decide +kernel) rfl), (gT0_tb 9 (by decide +kernel) rfl), (gT0_tb 597 rfl rfl), by decide +kernel⟩, (gT0_tb 596 (by decide +kernel) rfl), (gT0_sl 18 (by decide +kernel) rfl)⟩
theorem oiX4_25 : Cond.methodLink RX4 25 arraycopyName ∈ gT0 := (gT0_tb 600 (by decide +kernel) rfl)
set_option maxRecDepth 100000 in
theorem slX4_31 : gSl RX4 31 yJ9_min_7cf53 cJ9_min_7cf53 2 (some .int) 2 := ⟨⟨Or.inl (gT0_tb 598 (by decide +kernel) rfl), (gT0_tb 4 (by decide +kernel) rfl), (gT0_tb 407 rfl rfl), by decide +kernel⟩, (gT0_tb 406 (by decide +kernel) rfl)⟩
set_option maxRecDepth 100000 in
theorem slX4_37 : gSl RX4 37 yJ9_max_7cf53 cJ9_max_7cf53 2 (some .int) 2 := ⟨⟨Or.inl (gT0_tb 599 (by decide +kernel) rfl), (gT0_tb 4 (by decide +kernel) rfl), (gT0_tb 51 rfl rfl), by decide +kernel⟩, (gT0_tb 50 (by decide +kernel) rfl)⟩
theorem oiX5_1 : Cond.methodLink RX5 1 Lib.objectInit ∈ gT0 := (gT0_tb 48 (by decide +kernel) rfl)
set_option maxRecDepth 100000 in
theorem slX5_7 : gSl RX5 7 yJ9_max_7cf53 cJ9_max_7cf53 2 (some .int) 2 := ⟨⟨Or.inl (gT0_tb 49 (by decide +kernel) rfl), (gT0_tb 4 (by decide +kernel) rfl), (gT0_tb 51 rfl rfl), by decide +kernel⟩, (gT0_tb 50 (by decide +kernel) rfl)⟩
theorem lpX5_13 : gLp RX5 13 5 0 (.array .int) true := ⟨RX5, TX5, 2, tyX5, rfl, by decide, inX5, tyX5_ok, nmX5, rfl, tyX5_ok 0 (by decide), rfl, (gT0_tb 52 (by decide +kernel) rfl)⟩
theorem lkX5_19 : gLk RX5 19 5 1 := ⟨RX5, TX5, 2, rfl, by decide, inX5, Or.inl (gT0_tb 53 (by decide +kernel) rfl)⟩
theorem lkX5_13 : gLk RX5 13 5 0 := ⟨RX5, TX5, 2, rfl, by decide, inX5, Or.inl (gT0_tb 52 (by decide +kernel) rfl)⟩
set_option maxRecDepth 100000 in
theorem slX5_23 : gVl RX5 23 yX5_has cX5_has 2 (some .boolean) 1 := ⟨⟨Or.inl (gT0_tb 566 (by decide +kernel) rfl), (gT0_tb 3 (by decide +kernel) rfl), (gT0_tb 569 rfl rfl), by decide +kernel⟩, (gT0_tb 567 (by decide +kernel) rfl), (gT0_tb 568 (by decide +kernel) rfl)⟩
set_option maxRecDepth 100000 in
theorem slX5_27 : gVl RX5 27 yX5_isFull cX5_isFull 1 (some .boolean) 0 := ⟨⟨Or.inl (gT0_tb 372 (by decide +kernel) rfl), (gT0_tb 3 (by decide +kernel) rfl), (gT0_tb 367 rfl rfl), by decide +kernel⟩, (gT0_tb 365 (by decide +kernel) rfl), (gT0_tb 366 (by decide +kernel) rfl)⟩
theorem lpX5_19 : gLp RX5 19 5 1 (.int) false := ⟨RX5, TX5, 2, tyX5, rfl, by decide, inX5, tyX5_ok, nmX5, rfl, tyX5_ok 1 (by decide), rfl, (gT0_tb 53 (by decide +kernel) rfl)⟩
theorem oiX6_3 : Cond.methodLink RX6 3 Lib.objectInit ∈ gT0 := (gT0_tb 205 (by decide +kernel) rfl)
theorem clX6_9 : Cond.classLink RX6 9 RX2 ∈ gT0 := (gT0_tb 206 (by decide +kernel) rfl)
theorem lpX6_11 : gLp RX6 11 6 0 (.array (.object "ExactTests$Fraction")) true := ⟨RX6, TX6, 5, tyX6, rfl, by decide, inX6, tyX6_ok, nmX6, rfl, tyX6_ok 0 (by decide), rfl, (gT0_tb 224 (by decide +kernel) rfl)⟩
theorem lkX6_11 : gLk RX6 11 6 0 := ⟨RX6, TX6, 5, rfl, by decide, inX6, Or.inl (gT0_tb 224 (by decide +kernel) rfl)⟩
set_option maxRecDepth 100000 in
theorem slX6_17 : gIl RX6 17 yX2_init cX2_init 1 0 := ⟨⟨Or.inr ⟨"ExactTests", by decide +kernel⟩, (gT0_tb 11 (by decide +kernel) rfl), (gT0_tb 211 rfl rfl), by decide +kernel⟩, rfl, (gT0_tb 210 (by decide +kernel) rfl)⟩
theorem lpX6_18 : gLp RX6 18 6 1 (.boolean) false := ⟨RX6, TX6, 5, tyX6, rfl, by decide, inX6, tyX6_ok, nmX6, rfl, tyX6_ok 1 (by decide), rfl, (gT0_tb 225 (by decide +kernel) rfl)⟩
theorem lpX6_22 : gLp RX6 22 6 2 (.int) false := ⟨RX6, TX6, 5, tyX6, rfl, by decide, inX6, tyX6_ok, nmX6, rfl, tyX6_ok 2 (by decide), rfl, (gT0_tb 226 (by decide +kernel) rfl)⟩
theorem lpX6_26 : gLp RX6 26 6 3 (.int) false := ⟨RX6, TX6, 5, tyX6, rfl, by decide, inX6, tyX6_ok, nmX6, rfl, tyX6_ok 3 (by decide), rfl, (gT0_tb 227 (by decide +kernel) rfl)⟩
theorem lpX6_29 : gLp RX6 29 6 4 (.int) false := ⟨RX6, TX6, 5, tyX6, rfl, by decide, inX6, tyX6_ok, nmX6, rfl, tyX6_ok 4 (by decide), rfl, (gT0_tb 228 (by decide +kernel) rfl)⟩
theorem lkX6_18 : gLk RX6 18 6 1 := ⟨RX6, TX6, 5, rfl, by decide, inX6, Or.inl (gT0_tb 225 (by decide +kernel) rfl)⟩
theorem lkX6_22 : gLk RX6 22 6 2 := ⟨RX6, TX6, 5, rfl, by decide, inX6, Or.inl (gT0_tb 226 (by decide +kernel) rfl)⟩
theorem lkX6_26 : gLk RX6 26 6 3 := ⟨RX6, TX6, 5, rfl, by decide, inX6, Or.inl (gT0_tb 227 (by decide +kernel) rfl)⟩
theorem lkX6_29 : gLk RX6 29 6 4 := ⟨RX6, TX6, 5, rfl, by decide, inX6, Or.inl (gT0_tb 228 (by decide +kernel) rfl)⟩
theorem oiX7_1 : Cond.methodLink RX7 1 Lib.objectInit ∈ gT0 := (gT0_tb 245 (by decide +kernel) rfl)
theorem clX7_7 : Cond.classLink RX7 7 RX10 ∈ gT0 := (gT0_tb 246 (by decide +kernel) rfl)
set_option maxRecDepth 100000 in
theorem slX7_9 : gIl RX7 9 yX10_init cX10_init 1 0 := ⟨⟨Or.inr ⟨"ExactTests", by decide +kernel⟩, (gT0_tb 6 (by decide +kernel) rfl), (gT0_tb 70 rfl rfl), by decide +kernel⟩, rfl, (gT0_tb 69 (by decide +kernel) rfl)⟩
theorem lpX7_10 : gLp RX7 10 7 0 (.object "ExactTests$Whole") true := ⟨RX7, TX7, 2, tyX7, rfl, by decide, inX7, tyX7_ok, nmX7, rfl, tyX7_ok 0 (by decide), rfl, (gT0_tb 248 (by decide +kernel) rfl)⟩
theorem lpX7_16 : gLp RX7 16 7 1 (.object "ExactTests$Whole") true := ⟨RX7, TX7, 2, tyX7, rfl, by decide, inX7, tyX7_ok, nmX7, rfl, tyX7_ok 1 (by decide), rfl, (gT0_tb 249 (by decide +kernel) rfl)⟩
theorem lkX7_10 : gLk RX7 10 7 0 := ⟨RX7, TX7, 2, rfl, by decide, inX7, Or.inl (gT0_tb 248 (by decide +kernel) rfl)⟩
theorem lkX7_19 : gLk RX7 19 2 0 := ⟨RX2, TX2, 2, rfl, by decide, inX2, Or.inr ⟨_, (by decide +kernel : Cond.fieldLinkNest "ExactTests$Scale" 19 "ExactTests$Fraction" "upper" "LExactTests$Whole;" "ExactTests" ∈ gN)⟩⟩
theorem lkX7_24 : gLk RX7 24 2 1 := ⟨RX2, TX2, 2, rfl, by decide, inX2, Or.inr ⟨_, (by decide +kernel : Cond.fieldLinkNest "ExactTests$Scale" 24 "ExactTests$Fraction" "lower" "LExactTests$Whole;" "ExactTests" ∈ gN)⟩⟩
set_option maxRecDepth 100000 in
theorem slX7_27 : gVl RX7 27 yX10_setProductOf cX10_setProductOf 4 none 2 := ⟨⟨Or.inl (gT0_tb 793 (by decide +kernel) rfl), (gT0_tb 6 (by decide +kernel) rfl), (gT0_tb 796 rfl rfl), by decide +kernel⟩, (gT0_tb 794 (by decide +kernel) rfl), (gT0_tb 795 (by decide +kernel) rfl)⟩
theorem lkX7_16 : gLk RX7 16 7 1 := ⟨RX7, TX7, 2, rfl, by decide, inX7, Or.inl (gT0_tb 249 (by decide +kernel) rfl)⟩
set_option maxRecDepth 100000 in
theorem slX7_31 : gVl RX7 31 yX10_compare cX10_compare 3 (some .int) 1 := ⟨⟨Or.inl (gT0_tb 729 (by decide +kernel) rfl), (gT0_tb 6 (by decide +kernel) rfl), (gT0_tb 493 rfl rfl), by decide +kernel⟩, (gT0_tb 491 (by decide +kernel) rfl), (gT0_tb 492 (by decide +kernel) rfl)⟩
set_option maxRecDepth 100000 in
theorem slX7_35 : gVl RX7 35 yX10_setProduct cX10_setProduct 6 none 2 := ⟨⟨Or.inl (gT0_tb 735 (by decide +kernel) rfl), (gT0_tb 6 (by decide +kernel) rfl), (gT0_tb 469 rfl rfl), by decide +kernel⟩, (gT0_tb 467 (by decide +kernel) rfl), (gT0_tb 468 (by decide +kernel) rfl)⟩
set_option maxRecDepth 100000 in
theorem slX7_39 : gVl RX7 39 yX10_copy cX10_copy 3 none 1 := ⟨⟨Or.inl (gT0_tb 725 (by decide +kernel) rfl), (gT0_tb 6 (by decide +kernel) rfl), (gT0_tb 461 rfl rfl), by decide +kernel⟩, (gT0_tb 459 (by decide +kernel) rfl), (gT0_tb 460 (by decide +kernel) rfl)⟩
set_option maxRecDepth 100000 in
theorem slX7_43 : gSl RX7 43 yX7_takeOut cX7_takeOut 3 (some .int) 2 := ⟨⟨Or.inl (gT0_tb 726 (by decide +kernel) rfl), (gT0_tb 12 (by decide +kernel) rfl), (gT0_tb 728 rfl rfl), by decide +kernel⟩, (gT0_tb 727 (by decide +kernel) rfl)⟩
theorem kcX7_47 : Cond.constantLong RX7 47 (10) ∈ gT0 := (gT0_tb 734 (by decide +kernel) rfl)
set_option maxRecDepth 100000 in
theorem slX7_49 : gVl RX7 49 yX10_subtract cX10_subtract 7 none 1 := ⟨⟨Or.inl (gT0_tb 730 (by decide +kernel) rfl), (gT0_tb 6 (by decide +kernel) rfl), (gT0_tb 733 rfl rfl), by decide +kernel⟩, (gT0_tb 731 (by decide +kernel) rfl), (gT0_tb 732 (by decide +kernel) rfl)⟩
theorem oiX8_1 : Cond.methodLink RX8 1 Lib.objectInit ∈ gT0 := (gT0_tb 158 (by decide +kernel) rfl)
theorem clX8_7 : Cond.classLink RX8 7 RX4 ∈ gT0 := (gT0_tb 159 (by decide +kernel) rfl)
set_option maxRecDepth 100000 in
theorem slX8_9 : gIl RX8 9 yX4_init cX4_init 1 0 := ⟨⟨Or.inr ⟨"ExactTests", by decide +kernel⟩, (gT0_tb 9 (by decide +kernel) rfl), (gT0_tb 163 rfl rfl), by decide +kernel⟩, rfl, (gT0_tb 162 (by decide +kernel) rfl)⟩
theorem lpX8_10 : gLp RX8 10 8 0 (.object "ExactTests$HalfSums") true := ⟨RX8, TX8, 7, tyX8, rfl, by decide, inX8, tyX8_ok, nmX8, rfl, tyX8_ok 0 (by decide), rfl, (gT0_tb 178 (by decide +kernel) rfl)⟩
theorem lpX8_16 : gLp RX8 16 8 1 (.object "ExactTests$HalfSums") true := ⟨RX8, TX8, 7, tyX8, rfl, by decide, inX8, tyX8_ok, nmX8, rfl, tyX8_ok 1 (by decide), rfl, (gT0_tb 179 (by decide +kernel) rfl)⟩
set_option maxRecDepth 100000 in
theorem slX8_19 : gVl RX8 19 yX8_begin cX8_begin 1 none 0 := ⟨⟨Or.inl (gT0_tb 549 (by decide +kernel) rfl), (gT0_tb 8 (by decide +kernel) rfl), (gT0_tb 552 rfl rfl), by decide +kernel⟩, (gT0_tb 551 (by decide +kernel) rfl), (gT0_sl 15 (by decide +kernel) rfl)⟩
theorem kcX8_22 : Cond.constant RX8 22 (131072) ∈ gT0 := (gT0_tb 557 (by decide +kernel) rfl)
theorem lpX8_23 : gLp RX8 23 8 3 (.int) false := ⟨RX8, TX8, 7, tyX8, rfl, by decide, inX8, tyX8_ok, nmX8, rfl, tyX8_ok 3 (by decide), rfl, (gT0_tb 181 (by decide +kernel) rfl)⟩
theorem lpX8_27 : gLp RX8 27 8 4 (.int) false := ⟨RX8, TX8, 7, tyX8, rfl, by decide, inX8, tyX8_ok, nmX8, rfl, tyX8_ok 4 (by decide), rfl, (gT0_tb 182 (by decide +kernel) rfl)⟩
theorem lpX8_30 : gLp RX8 30 8 5 (.long) false := ⟨RX8, TX8, 7, tyX8, rfl, by decide, inX8, tyX8_ok, nmX8, rfl, tyX8_ok 5 (by decide), rfl, (gT0_tb 183 (by decide +kernel) rfl)⟩
theorem lpX8_34 : gLp RX8 34 8 6 (.long) false := ⟨RX8, TX8, 7, tyX8, rfl, by decide, inX8, tyX8_ok, nmX8, rfl, tyX8_ok 6 (by decide), rfl, (gT0_tb 184 (by decide +kernel) rfl)⟩
theorem lkX8_30 : gLk RX8 30 8 5 := ⟨RX8, TX8, 7, rfl, by decide, inX8, Or.inl (gT0_tb 183 (by decide +kernel) rfl)⟩
theorem lkX8_34 : gLk RX8 34 8 6 := ⟨RX8, TX8, 7, rfl, by decide, inX8, Or.inl (gT0_tb 184 (by decide +kernel) rfl)⟩
theorem lkX8_10 : gLk RX8 10 8 0 := ⟨RX8, TX8, 7, rfl, by decide, inX8, Or.inl (gT0_tb 178 (by decide +kernel) rfl)⟩
set_option maxRecDepth 100000 in
theorem slX8_37 : gVl RX8 37 yX4_begin cX4_begin 1 none 0 := ⟨⟨Or.inl (gT0_tb 553 (by decide +kernel) rfl), (gT0_tb 9 (by decide +kernel) rfl), (gT0_tb 556 rfl rfl), by decide +kernel⟩, (gT0_tb 554 (by decide +kernel) rfl), (gT0_tb 555 (by decide +kernel) rfl)⟩
theorem lkX8_16 : gLk RX8 16 8 1 := ⟨RX8, TX8, 7, rfl, by decide, inX8, Or.inl (gT0_tb 179 (by decide +kernel) rfl)⟩
theorem lpX8_38 : gLp RX8 38 8 2 (.boolean) false := ⟨RX8, TX8, 7, tyX8, rfl, by decide, inX8, tyX8_ok, nmX8, rfl, tyX8_ok 2 (by decide), rfl, (gT0_tb 180 (by decide +kernel) rfl)⟩
theorem lkX8_38 : gLk RX8 38 8 2 := ⟨RX8, TX8, 7, rfl, by decide, inX8, Or.inl (gT0_tb 180 (by decide +kernel) rfl)⟩
theorem lkX8_23 : gLk RX8 23 8 3 := ⟨RX8, TX8, 7, rfl, by decide, inX8, Or.inl (gT0_tb 181 (by decide +kernel) rfl)⟩
set_option maxRecDepth 100000 in
theorem slX8_42 : gVl RX8 42 yX4_take cX4_take 11 none 1 := ⟨⟨Or.inl (gT0_tb 589 (by decide +kernel) rfl), (gT0_tb 9 (by decide +kernel) rfl), (gT0_tb 592 rfl rfl), by decide +kernel⟩, (gT0_tb 590 (by decide +kernel) rfl), (gT0_tb 591 (by decide +kernel) rfl)⟩
theorem lkX8_27 : gLk RX8 27 8 4 := ⟨RX8, TX8, 7, rfl, by decide, inX8, Or.inl (gT0_tb 182 (by decide +kernel) rfl)⟩
theorem lkX8_46 : gLk RX8 46 4 2 := ⟨RX4, TX4, 3, rfl, by decide, inX4, Or.inr ⟨_, (by decide +kernel : Cond.fieldLinkNest "ExactTests$Sums" 46 "ExactTests$HalfSums" "size" "I" "ExactTests" ∈ gN)⟩⟩
theorem lkX8_49 : gLk RX8 49 4 1 := ⟨RX4, TX4, 3, rfl, by decide, inX4, Or.inr ⟨_, (by decide +kernel : Cond.fieldLinkNest "ExactTests$Sums" 49 "ExactTests$HalfSums" "times" "[I" "ExactTests" ∈ gN)⟩⟩
theorem lkX8_53 : gLk RX8 53 4 0 := ⟨RX4, TX4, 3, rfl, by decide, inX4, Or.inr ⟨_, (by decide +kernel : Cond.fieldLinkNest "ExactTests$Sums" 53 "ExactTests$HalfSums" "sums" "[I" "ExactTests" ∈ gN)⟩⟩
theorem oiX9_3 : Cond.methodLink RX9 3 Lib.objectInit ∈ gT0 := (gT0_tb 64 (by decide +kernel) rfl)
theorem lpX9_9 : gLp RX9 9 9 0 (.array .long) true := ⟨RX9, TX9, 15, tyX9, rfl, by decide, inX9, tyX9_ok, nmX9, rfl, tyX9_ok 0 (by decide), rfl, (gT0_tb 80 (by decide +kernel) rfl)⟩
theorem lpX9_15 : gLp RX9 15 9 1 (.array .int) true := ⟨RX9, TX9, 15, tyX9, rfl, by decide, inX9, tyX9_ok, nmX9, rfl, tyX9_ok 1 (by decide), rfl, (gT0_tb 81 (by decide +kernel) rfl)⟩
theorem lpX9_19 : gLp RX9 19 9 2 (.array .int) true := ⟨RX9, TX9, 15, tyX9, rfl, by decide, inX9, tyX9_ok, nmX9, rfl, tyX9_ok 2 (by decide), rfl, (gT0_tb 82 (by decide +kernel) rfl)⟩
theorem lpX9_22 : gLp RX9 22 9 3 (.array .int) true := ⟨RX9, TX9, 15, tyX9, rfl, by decide, inX9, tyX9_ok, nmX9, rfl, tyX9_ok 3 (by decide), rfl, (gT0_tb 83 (by decide +kernel) rfl)⟩
theorem clX9_25 : Cond.classLink RX9 25 RX10 ∈ gT0 := (gT0_tb 65 (by decide +kernel) rfl)
theorem lpX9_27 : gLp RX9 27 9 4 (.array (.object "ExactTests$Whole")) true := ⟨RX9, TX9, 15, tyX9, rfl, by decide, inX9, tyX9_ok, nmX9, rfl, tyX9_ok 4 (by decide), rfl, (gT0_tb 84 (by decide +kernel) rfl)⟩
set_option maxRecDepth 100000 in
theorem slX9_31 : gIl RX9 31 yX10_init cX10_init 1 0 := ⟨⟨Or.inr ⟨"ExactTests", by decide +kernel⟩, (gT0_tb 6 (by decide +kernel) rfl), (gT0_tb 70 rfl rfl), by decide +kernel⟩, rfl, (gT0_tb 69 (by decide +kernel) rfl)⟩
theorem lpX9_32 : gLp RX9 32 9 10 (.object "ExactTests$Whole") true := ⟨RX9, TX9, 15, tyX9, rfl, by decide, inX9, tyX9_ok, nmX9, rfl, tyX9_ok 10 (by decide), rfl, (gT0_tb 90 (by decide +kernel) rfl)⟩
theorem lpX9_36 : gLp RX9 36 9 11 (.object "ExactTests$Whole") true := ⟨RX9, TX9, 15, tyX9, rfl, by decide, inX9, tyX9_ok, nmX9, rfl, tyX9_ok 11 (by decide), rfl, (gT0_tb 92 (by decide +kernel) rfl)⟩
theorem lpX9_39 : gLp RX9 39 9 12 (.object "ExactTests$Whole") true := ⟨RX9, TX9, 15, tyX9, rfl, by decide, inX9, tyX9_ok, nmX9, rfl, tyX9_ok 12 (by decide), rfl, (gT0_tb 94 (by decide +kernel) rfl)⟩
theorem lpX9_42 : gLp RX9 42 9 13 (.object "ExactTests$Whole") true := ⟨RX9, TX9, 15, tyX9, rfl, by decide, inX9, tyX9_ok, nmX9, rfl, tyX9_ok 13 (by decide), rfl, (gT0_tb 96 (by decide +kernel) rfl)⟩
theorem lpX9_45 : gLp RX9 45 9 14 (.object "ExactTests$Whole") true := ⟨RX9, TX9, 15, tyX9, rfl, by decide, inX9, tyX9_ok, nmX9, rfl, tyX9_ok 14 (by decide), rfl, (gT0_tb 98 (by decide +kernel) rfl)⟩
theorem lkX9_27 : gLk RX9 27 9 4 := ⟨RX9, TX9, 15, rfl, by decide, inX9, Or.inl (gT0_tb 84 (by decide +kernel) rfl)⟩
theorem lkX9_9 : gLk RX9 9 9 0 := ⟨RX9, TX9, 15, rfl, by decide, inX9, Or.inl (gT0_tb 80 (by decide +kernel) rfl)⟩
set_option maxRecDepth 100000 in
theorem slX9_48 : gVl RX9 48 yX9_begin cX9_begin 3 none 1 := ⟨⟨Or.inl (gT0_tb 397 (by decide +kernel) rfl), (gT0_tb 5 (by decide +kernel) rfl), (gT0_tb 400 rfl rfl), by decide +kernel⟩, (gT0_tb 399 (by decide +kernel) rfl), (gT0_sl 0 (by decide +kernel) rfl)⟩
theorem lpX9_52 : gLp RX9 52 9 8 (.int) false := ⟨RX9, TX9, 15, tyX9, rfl, by decide, inX9, tyX9_ok, nmX9, rfl, tyX9_ok 8 (by decide), rfl, (gT0_tb 88 (by decide +kernel) rfl)⟩
set_option maxRecDepth 100000 in
theorem slX9_56 : gVl RX9 56 yX9_countRow cX9_countRow 2 none 1 := ⟨⟨Or.inl (gT0_tb 415 (by decide +kernel) rfl), (gT0_tb 5 (by decide +kernel) rfl), (gT0_tb 418 rfl rfl), by decide +kernel⟩, (gT0_tb 417 (by decide +kernel) rfl), (gT0_sl 1 (by decide +kernel) rfl)⟩
theorem lkX9_52 : gLk RX9 52 9 8 := ⟨RX9, TX9, 15, rfl, by decide, inX9, Or.inl (gT0_tb 88 (by decide +kernel) rfl)⟩
set_option maxRecDepth 100000 in
theorem slX9_60 : gVl RX9 60 yX3_inAll cX3_inAll 3 (some .int) 0 := ⟨⟨Or.inl (gT0_tb 439 (by decide +kernel) rfl), (gT0_tb 2 (by decide +kernel) rfl), (gT0_tb 342 rfl rfl), by decide +kernel⟩, (gT0_tb 340 (by decide +kernel) rfl), (gT0_tb 341 (by decide +kernel) rfl)⟩
set_option maxRecDepth 100000 in
theorem slX9_66 : gVl RX9 66 yX9_weighAll cX9_weighAll 4 none 1 := ⟨⟨Or.inl (gT0_tb 440 (by decide +kernel) rfl), (gT0_tb 5 (by decide +kernel) rfl), (gT0_tb 443 rfl rfl), by decide +kernel⟩, (gT0_tb 442 (by decide +kernel) rfl), (gT0_sl 4 (by decide +kernel) rfl)⟩
set_option maxRecDepth 100000 in
theorem slX9_69 : gVl RX9 69 yX9_weighSeen cX9_weighSeen 5 none 1 := ⟨⟨Or.inl (gT0_tb 474 (by decide +kernel) rfl), (gT0_tb 5 (by decide +kernel) rfl), (gT0_tb 477 rfl rfl), by decide +kernel⟩, (gT0_tb 476 (by decide +kernel) rfl), (gT0_sl 9 (by decide +kernel) rfl)⟩
theorem lkX9_39 : gLk RX9 39 9 12 := ⟨RX9, TX9, 15, rfl, by decide, inX9, Or.inl (gT0_tb 94 (by decide +kernel) rfl)⟩
set_option maxRecDepth 100000 in
theorem slX9_72 : gVl RX9 72 yX10_set cX10_set 3 none 1 := ⟨⟨Or.inl (gT0_tb 444 (by decide +kernel) rfl), (gT0_tb 6 (by decide +kernel) rfl), (gT0_tb 447 rfl rfl), by decide +kernel⟩, (gT0_tb 445 (by decide +kernel) rfl), (gT0_tb 446 (by decide +kernel) rfl)⟩
theorem lkX9_42 : gLk RX9 42 9 13 := ⟨RX9, TX9, 15, rfl, by decide, inX9, Or.inl (gT0_tb 96 (by decide +kernel) rfl)⟩
theorem lkX9_45 : gLk RX9 45 9 14 := ⟨RX9, TX9, 15, rfl, by decide, inX9, Or.inl (gT0_tb 98 (by decide +kernel) rfl)⟩
theorem lpX9_76 : gLp RX9 76 9 9 (.object "ExactTests$Cases") false := ⟨RX9, TX9, 15, tyX9, rfl, by decide, inX9, tyX9_ok, nmX9, rfl, tyX9_ok 9 (by decide), rfl, (gT0_tb 89 (by decide +kernel) rfl)⟩
set_option maxRecDepth 100000 in
theorem slX9_80 : gVl RX9 80 yX9_fillRow cX9_fillRow 2 none 1 := ⟨⟨Or.inl (gT0_tb 478 (by decide +kernel) rfl), (gT0_tb 5 (by decide +kernel) rfl), (gT0_tb 481 rfl rfl), by decide +kernel⟩, (gT0_tb 480 (by decide +kernel) rfl), (gT0_sl 10 (by decide +kernel) rfl)⟩
set_option maxRecDepth 100000 in
theorem slX9_83 : gVl RX9 83 yX3_rows cX3_rows 1 (some .int) 0 := ⟨⟨Or.inl (gT0_tb 401 (by decide +kernel) rfl), (gT0_tb 2 (by decide +kernel) rfl), (gT0_tb 404 rfl rfl), by decide +kernel⟩, (gT0_tb 402 (by decide +kernel) rfl), (gT0_tb 403 (by decide +kernel) rfl)⟩
set_option maxRecDepth 100000 in
theorem slX9_86 : gSl RX9 86 yJ9_min_7cf53 cJ9_min_7cf53 2 (some .int) 2 := ⟨⟨Or.inl (gT0_tb 405 (by decide +kernel) rfl), (gT0_tb 4 (by decide +kernel) rfl), (gT0_tb 407 rfl rfl), by decide +kernel⟩, (gT0_tb 406 (by decide +kernel) rfl)⟩
theorem lpX9_92 : gLp RX9 92 9 5 (.int) false := ⟨RX9, TX9, 15, tyX9, rfl, by decide, inX9, tyX9_ok, nmX9, rfl, tyX9_ok 5 (by decide), rfl, (gT0_tb 85 (by decide +kernel) rfl)⟩
set_option maxRecDepth 100000 in
theorem slX9_94 : gVl RX9 94 yX3_columns cX3_columns 1 (some .int) 0 := ⟨⟨Or.inl (gT0_tb 408 (by decide +kernel) rfl), (gT0_tb 2 (by decide +kernel) rfl), (gT0_tb 411 rfl rfl), by decide +kernel⟩, (gT0_tb 409 (by decide +kernel) rfl), (gT0_tb 410 (by decide +kernel) rfl)⟩
theorem lpX9_97 : gLp RX9 97 9 6 (.int) false := ⟨RX9, TX9, 15, tyX9, rfl, by decide, inX9, tyX9_ok, nmX9, rfl, tyX9_ok 6 (by decide), rfl, (gT0_tb 86 (by decide +kernel) rfl)⟩
set_option maxRecDepth 100000 in
theorem slX9_99 : gVl RX9 99 yX3_at cX3_at 3 (some .int) 2 := ⟨⟨Or.inl (gT0_tb 412 (by decide +kernel) rfl), (gT0_tb 2 (by decide +kernel) rfl), (gT0_tb 336 rfl rfl), by decide +kernel⟩, (gT0_tb 334 (by decide +kernel) rfl), (gT0_tb 335 (by decide +kernel) rfl)⟩
theorem lpX9_102 : gLp RX9 102 9 7 (.int) false := ⟨RX9, TX9, 15, tyX9, rfl, by decide, inX9, tyX9_ok, nmX9, rfl, tyX9_ok 7 (by decide), rfl, (gT0_tb 87 (by decide +kernel) rfl)⟩
theorem lkX9_92 : gLk RX9 92 9 5 := ⟨RX9, TX9, 15, rfl, by decide, inX9, Or.inl (gT0_tb 85 (by decide +kernel) rfl)⟩
theorem lkX9_15 : gLk RX9 15 9 1 := ⟨RX9, TX9, 15, rfl, by decide, inX9, Or.inl (gT0_tb 81 (by decide +kernel) rfl)⟩
set_option maxRecDepth 100000 in
theorem slX9_105 : gVl RX9 105 yX3_rowSum cX3_rowSum 4 (some .int) 1 := ⟨⟨Or.inl (gT0_tb 413 (by decide +kernel) rfl), (gT0_tb 2 (by decide +kernel) rfl), (gT0_tb 354 rfl rfl), by decide +kernel⟩, (gT0_tb 352 (by decide +kernel) rfl), (gT0_tb 353 (by decide +kernel) rfl)⟩
theorem lkX9_97 : gLk RX9 97 9 6 := ⟨RX9, TX9, 15, rfl, by decide, inX9, Or.inl (gT0_tb 86 (by decide +kernel) rfl)⟩
theorem lkX9_19 : gLk RX9 19 9 2 := ⟨RX9, TX9, 15, rfl, by decide, inX9, Or.inl (gT0_tb 82 (by decide +kernel) rfl)⟩
set_option maxRecDepth 100000 in
theorem slX9_109 : gVl RX9 109 yX3_columnSum cX3_columnSum 4 (some .int) 1 := ⟨⟨Or.inl (gT0_tb 414 (by decide +kernel) rfl), (gT0_tb 2 (by decide +kernel) rfl), (gT0_tb 359 rfl rfl), by decide +kernel⟩, (gT0_tb 357 (by decide +kernel) rfl), (gT0_tb 358 (by decide +kernel) rfl)⟩
theorem lkX9_32 : gLk RX9 32 9 10 := ⟨RX9, TX9, 15, rfl, by decide, inX9, Or.inl (gT0_tb 90 (by decide +kernel) rfl)⟩
set_option maxRecDepth 100000 in
theorem slX9_112 : gVl RX9 112 yX10_copy cX10_copy 3 none 1 := ⟨⟨Or.inl (gT0_tb 458 (by decide +kernel) rfl), (gT0_tb 6 (by decide +kernel) rfl), (gT0_tb 461 rfl rfl), by decide +kernel⟩, (gT0_tb 459 (by decide +kernel) rfl), (gT0_tb 460 (by decide +kernel) rfl)⟩
set_option maxRecDepth 100000 in
theorem slX9_116 : gVl RX9 116 yX9_choose cX9_choose 3 (some .long) 2 := ⟨⟨Or.inl (gT0_tb 462 (by decide +kernel) rfl), (gT0_tb 5 (by decide +kernel) rfl), (gT0_tb 465 rfl rfl), by decide +kernel⟩, (gT0_tb 464 (by decide +kernel) rfl), (gT0_sl 7 (by decide +kernel) rfl)⟩
set_option maxRecDepth 100000 in
theorem slX9_120 : gVl RX9 120 yX10_setProduct cX10_setProduct 6 none 2 := ⟨⟨Or.inl (gT0_tb 466 (by decide +kernel) rfl), (gT0_tb 6 (by decide +kernel) rfl), (gT0_tb 469 rfl rfl), by decide +kernel⟩, (gT0_tb 467 (by decide +kernel) rfl), (gT0_tb 468 (by decide +kernel) rfl)⟩
theorem lkX9_36 : gLk RX9 36 9 11 := ⟨RX9, TX9, 15, rfl, by decide, inX9, Or.inl (gT0_tb 92 (by decide +kernel) rfl)⟩
set_option maxRecDepth 100000 in
theorem slX9_124 : gVl RX9 124 yX9_sumOfColumnsLeft cX9_sumOfColumnsLeft 3 (some .int) 0 := ⟨⟨Or.inl (gT0_tb 419 (by decide +kernel) rfl), (gT0_tb 5 (by decide +kernel) rfl), (gT0_tb 422 rfl rfl), by decide +kernel⟩, (gT0_tb 421 (by decide +kernel) rfl), (gT0_sl 2 (by decide +kernel) rfl)⟩
set_option maxRecDepth 100000 in
theorem slX9_127 : gVl RX9 127 yX9_countCell cX9_countCell 10 none 4 := ⟨⟨Or.inl (gT0_tb 423 (by decide +kernel) rfl), (gT0_tb 5 (by decide +kernel) rfl), (gT0_tb 426 rfl rfl), by decide +kernel⟩, (gT0_tb 425 (by decide +kernel) rfl), (gT0_sl 3 (by decide +kernel) rfl)⟩
set_option maxRecDepth 100000 in
theorem slX9_131 : gSl RX9 131 yJ9_max_7cf53 cJ9_max_7cf53 2 (some .int) 2 := ⟨⟨Or.inl (gT0_tb 427 (by decide +kernel) rfl), (gT0_tb 4 (by decide +kernel) rfl), (gT0_tb 51 rfl rfl), by decide +kernel⟩, (gT0_tb 50 (by decide +kernel) rfl)⟩
set_option maxRecDepth 100000 in
theorem slX9_134 : gVl RX9 134 yX9_fillCell cX9_fillCell 10 none 4 := ⟨⟨Or.inl (gT0_tb 482 (by decide +kernel) rfl), (gT0_tb 5 (by decide +kernel) rfl), (gT0_tb 485 rfl rfl), by decide +kernel⟩, (gT0_tb 484 (by decide +kernel) rfl), (gT0_sl 11 (by decide +kernel) rfl)⟩
set_option maxRecDepth 100000 in
theorem slX9_137 : gVl RX9 137 yX9_fillLastRow cX9_fillLastRow 4 none 1 := ⟨⟨Or.inl (gT0_tb 486 (by decide +kernel) rfl), (gT0_tb 5 (by decide +kernel) rfl), (gT0_tb 489 rfl rfl), by decide +kernel⟩, (gT0_tb 488 (by decide +kernel) rfl), (gT0_sl 12 (by decide +kernel) rfl)⟩
theorem lkX9_22 : gLk RX9 22 9 3 := ⟨RX9, TX9, 15, rfl, by decide, inX9, Or.inl (gT0_tb 83 (by decide +kernel) rfl)⟩
set_option maxRecDepth 100000 in
theorem slX9_140 : gVl RX9 140 yX10_compare cX10_compare 3 (some .int) 1 := ⟨⟨Or.inl (gT0_tb 490 (by decide +kernel) rfl), (gT0_tb 6 (by decide +kernel) rfl), (gT0_tb 493 rfl rfl), by decide +kernel⟩, (gT0_tb 491 (by decide +kernel) rfl), (gT0_tb 492 (by decide +kernel) rfl)⟩
set_option maxRecDepth 100000 in
theorem slX9_144 : gVl RX9 144 yX10_add cX10_add 8 none 1 := ⟨⟨Or.inl (gT0_tb 494 (by decide +kernel) rfl), (gT0_tb 6 (by decide +kernel) rfl), (gT0_tb 497 rfl rfl), by decide +kernel⟩, (gT0_tb 495 (by decide +kernel) rfl), (gT0_tb 496 (by decide +kernel) rfl)⟩
theorem lkX9_102 : gLk RX9 102 9 7 := ⟨RX9, TX9, 15, rfl, by decide, inX9, Or.inl (gT0_tb 87 (by decide +kernel) rfl)⟩
theorem lkX9_76 : gLk RX9 76 9 9 := ⟨RX9, TX9, 15, rfl, by decide, inX9, Or.inl (gT0_tb 89 (by decide +kernel) rfl)⟩
set_option maxRecDepth 100000 in
theorem slX9_147 : gVl RX9 147 yX0_keep cX0_keep 10 none 2 := ⟨⟨Or.inl (gT0_tb 499 (by decide +kernel) rfl), (gT0_tb 7 (by decide +kernel) rfl), (gT0_tb 502 rfl rfl), by decide +kernel⟩, (gT0_tb 500 (by decide +kernel) rfl), (gT0_tb 501 (by decide +kernel) rfl)⟩
theorem oiX10_3 : Cond.methodLink RX10 3 Lib.objectInit ∈ gT0 := (gT0_tb 71 (by decide +kernel) rfl)
theorem lpX10_11 : gLp RX10 11 10 0 (.array .long) true := ⟨RX10, TX10, 2, tyX10, rfl, by decide, inX10, tyX10_ok, nmX10, rfl, tyX10_ok 0 (by decide), rfl, (gT0_tb 72 (by decide +kernel) rfl)⟩
set_option maxRecDepth 100000 in
theorem slX10_15 : gVl RX10 15 yX10_empty cX10_empty 2 none 0 := ⟨⟨Or.inl (gT0_tb 448 (by decide +kernel) rfl), (gT0_tb 6 (by decide +kernel) rfl), (gT0_tb 451 rfl rfl), by decide +kernel⟩, (gT0_tb 450 (by decide +kernel) rfl), (gT0_sl 5 (by decide +kernel) rfl)⟩
theorem lkX10_11 : gLk RX10 11 10 0 := ⟨RX10, TX10, 2, rfl, by decide, inX10, Or.inl (gT0_tb 72 (by decide +kernel) rfl)⟩
theorem kcX10_18 : Cond.constantLong RX10 18 (4294967295) ∈ gT0 := (gT0_tb 452 (by decide +kernel) rfl)
set_option maxRecDepth 100000 in
theorem slX10_20 : gVl RX10 20 yX10_trim cX10_trim 2 none 1 := ⟨⟨Or.inl (gT0_tb 453 (by decide +kernel) rfl), (gT0_tb 6 (by decide +kernel) rfl), (gT0_tb 456 rfl rfl), by decide +kernel⟩, (gT0_tb 455 (by decide +kernel) rfl), (gT0_sl 6 (by decide +kernel) rfl)⟩
theorem lkX10_24 : gLk RX10 24 10 1 := ⟨RX10, TX10, 2, rfl, by decide, inX10, Or.inl (gT0_tb 73 (by decide +kernel) rfl)⟩
theorem lpX10_24 : gLp RX10 24 10 1 (.int) false := ⟨RX10, TX10, 2, tyX10, rfl, by decide, inX10, tyX10_ok, nmX10, rfl, tyX10_ok 1 (by decide), rfl, (gT0_tb 73 (by decide +kernel) rfl)⟩
set_option maxRecDepth 100000 in
theorem slX10_28 : gSl RX10 28 yJ9_max_7cf53 cJ9_max_7cf53 2 (some .int) 2 := ⟨⟨Or.inl (gT0_tb 498 (by decide +kernel) rfl), (gT0_tb 4 (by decide +kernel) rfl), (gT0_tb 51 rfl rfl), by decide +kernel⟩, (gT0_tb 50 (by decide +kernel) rfl)⟩
set_option maxRecDepth 100000 in
theorem slX10_34 : gVl RX10 34 yX10_addTimes cX10_addTimes 11 none 3 := ⟨⟨Or.inl (gT0_tb 470 (by decide +kernel) rfl), (gT0_tb 6 (by decide +kernel) rfl), (gT0_tb 473 rfl rfl), by decide +kernel⟩, (gT0_tb 472 (by decide +kernel) rfl), (gT0_sl 8 (by decide +kernel) rfl)⟩
set_option maxRecDepth 100000 in
theorem slX10_38 : gSl RX10 38 yJ9_min_7cf53 cJ9_min_7cf53 2 (some .int) 2 := ⟨⟨Or.inl (gT0_tb 457 (by decide +kernel) rfl), (gT0_tb 4 (by decide +kernel) rfl), (gT0_tb 407 rfl rfl), by decide +kernel⟩, (gT0_tb 406 (by decide +kernel) rfl)⟩
set_option maxRecDepth 100000 in
theorem slX10_41 : gSl RX10 41 yJ13_numberOfLeadingZeros_95d88 cJ13_numberOfLeadingZeros_95d88 3 (some .int) 1 := ⟨⟨Or.inl (gT0_tb 701 (by decide +kernel) rfl), (gT0_tb 16 (by decide +kernel) rfl), (gT0_tb 703 rfl rfl), by decide +kernel⟩, (gT0_tb 702 (by decide +kernel) rfl)⟩
set_option maxRecDepth 100000 in
theorem slX10_47 : gVl RX10 47 yX10_bitLength cX10_bitLength 1 (some .int) 0 := ⟨⟨Or.inl (gT0_tb 835 (by decide +kernel) rfl), (gT0_tb 6 (by decide +kernel) rfl), (gT0_tb 700 rfl rfl), by decide +kernel⟩, (gT0_tb 698 (by decide +kernel) rfl), (gT0_tb 699 (by decide +kernel) rfl)⟩
theorem kcX10_51 : Cond.constant RX10 51 (65535) ∈ gT0 := (gT0_tb 716 (by decide +kernel) rfl)
theorem oiX11_1 : Cond.methodLink RX11 1 Lib.objectInit ∈ gT0 := (gT0_tb 23 (by decide +kernel) rfl)
theorem clX11_7 : Cond.classLink RX11 7 RX3 ∈ gT0 := (gT0_tb 26 (by decide +kernel) rfl)
set_option maxRecDepth 100000 in
theorem slX11_9 : gIl RX11 9 yX3_init cX3_init 1 0 := ⟨⟨Or.inr ⟨"ExactTests", by decide +kernel⟩, (gT0_tb 2 (by decide +kernel) rfl), (gT0_tb 30 rfl rfl), by decide +kernel⟩, rfl, (gT0_tb 29 (by decide +kernel) rfl)⟩
theorem lpX11_10 : gLp RX11 10 11 0 (.object "ExactTests$Grid") true := ⟨RX11, TX11, 11, tyX11, rfl, by decide, inX11, tyX11_ok, nmX11, rfl, tyX11_ok 0 (by decide), rfl, (gT0_tb 276 (by decide +kernel) rfl)⟩
theorem clX11_16 : Cond.classLink RX11 16 RX5 ∈ gT0 := (gT0_tb 43 (by decide +kernel) rfl)
set_option maxRecDepth 100000 in
theorem slX11_18 : gIl RX11 18 yX5_init cX5_init 2 1 := ⟨⟨Or.inl (gT0_tb 45 (by decide +kernel) rfl), (gT0_tb 3 (by decide +kernel) rfl), (gT0_tb 47 rfl rfl), by decide +kernel⟩, rfl, (gT0_tb 46 (by decide +kernel) rfl)⟩
theorem lpX11_21 : gLp RX11 21 11 1 (.object "ExactTests$Numbers") true := ⟨RX11, TX11, 11, tyX11, rfl, by decide, inX11, tyX11_ok, nmX11, rfl, tyX11_ok 1 (by decide), rfl, (gT0_tb 277 (by decide +kernel) rfl)⟩
theorem lpX11_25 : gLp RX11 25 11 2 (.object "ExactTests$Numbers") true := ⟨RX11, TX11, 11, tyX11, rfl, by decide, inX11, tyX11_ok, nmX11, rfl, tyX11_ok 2 (by decide), rfl, (gT0_tb 278 (by decide +kernel) rfl)⟩
theorem lpX11_28 : gLp RX11 28 11 3 (.object "ExactTests$Numbers") true := ⟨RX11, TX11, 11, tyX11, rfl, by decide, inX11, tyX11_ok, nmX11, rfl, tyX11_ok 3 (by decide), rfl, (gT0_tb 279 (by decide +kernel) rfl)⟩
theorem lpX11_31 : gLp RX11 31 11 4 (.object "ExactTests$Numbers") true := ⟨RX11, TX11, 11, tyX11, rfl, by decide, inX11, tyX11_ok, nmX11, rfl, tyX11_ok 4 (by decide), rfl, (gT0_tb 280 (by decide +kernel) rfl)⟩
theorem clX11_34 : Cond.classLink RX11 34 RX9 ∈ gT0 := (gT0_tb 59 (by decide +kernel) rfl)
set_option maxRecDepth 100000 in
theorem slX11_36 : gIl RX11 36 yX9_init cX9_init 5 0 := ⟨⟨Or.inl (gT0_tb 61 (by decide +kernel) rfl), (gT0_tb 5 (by decide +kernel) rfl), (gT0_tb 63 rfl rfl), by decide +kernel⟩, rfl, (gT0_tb 62 (by decide +kernel) rfl)⟩
theorem lpX11_37 : gLp RX11 37 11 5 (.object "ExactTests$Walk") true := ⟨RX11, TX11, 11, tyX11, rfl, by decide, inX11, tyX11_ok, nmX11, rfl, tyX11_ok 5 (by decide), rfl, (gT0_tb 281 (by decide +kernel) rfl)⟩
theorem clX11_41 : Cond.classLink RX11 41 RX0 ∈ gT0 := (gT0_tb 131 (by decide +kernel) rfl)
set_option maxRecDepth 100000 in
theorem slX11_43 : gIl RX11 43 yX0_init cX0_init 1 0 := ⟨⟨Or.inr ⟨"ExactTests", by decide +kernel⟩, (gT0_tb 7 (by decide +kernel) rfl), (gT0_tb 135 rfl rfl), by decide +kernel⟩, rfl, (gT0_tb 134 (by decide +kernel) rfl)⟩
theorem lpX11_44 : gLp RX11 44 11 6 (.object "ExactTests$Cases") true := ⟨RX11, TX11, 11, tyX11, rfl, by decide, inX11, tyX11_ok, nmX11, rfl, tyX11_ok 6 (by decide), rfl, (gT0_tb 282 (by decide +kernel) rfl)⟩
theorem clX11_48 : Cond.classLink RX11 48 RX8 ∈ gT0 := (gT0_tb 153 (by decide +kernel) rfl)
set_option maxRecDepth 100000 in
theorem slX11_50 : gIl RX11 50 yX8_init cX8_init 1 0 := ⟨⟨Or.inr ⟨"ExactTests", by decide +kernel⟩, (gT0_tb 8 (by decide +kernel) rfl), (gT0_tb 157 rfl rfl), by decide +kernel⟩, rfl, (gT0_tb 156 (by decide +kernel) rfl)⟩
theorem lpX11_51 : gLp RX11 51 11 7 (.object "ExactTests$Sums") true := ⟨RX11, TX11, 11, tyX11, rfl, by decide, inX11, tyX11_ok, nmX11, rfl, tyX11_ok 7 (by decide), rfl, (gT0_tb 283 (by decide +kernel) rfl)⟩
theorem clX11_55 : Cond.classLink RX11 55 RX6 ∈ gT0 := (gT0_tb 200 (by decide +kernel) rfl)
set_option maxRecDepth 100000 in
theorem slX11_57 : gIl RX11 57 yX6_init cX6_init 2 0 := ⟨⟨Or.inl (gT0_tb 202 (by decide +kernel) rfl), (gT0_tb 10 (by decide +kernel) rfl), (gT0_tb 204 rfl rfl), by decide +kernel⟩, rfl, (gT0_tb 203 (by decide +kernel) rfl)⟩
theorem lpX11_58 : gLp RX11 58 11 8 (.object "ExactTests$Results") true := ⟨RX11, TX11, 11, tyX11, rfl, by decide, inX11, tyX11_ok, nmX11, rfl, tyX11_ok 8 (by decide), rfl, (gT0_tb 284 (by decide +kernel) rfl)⟩
theorem clX11_62 : Cond.classLink RX11 62 RX7 ∈ gT0 := (gT0_tb 240 (by decide +kernel) rfl)
set_option maxRecDepth 100000 in
theorem slX11_64 : gIl RX11 64 yX7_init cX7_init 1 0 := ⟨⟨Or.inr ⟨"ExactTests", by decide +kernel⟩, (gT0_tb 12 (by decide +kernel) rfl), (gT0_tb 244 rfl rfl), by decide +kernel⟩, rfl, (gT0_tb 243 (by decide +kernel) rfl)⟩
theorem lpX11_65 : gLp RX11 65 11 9 (.object "ExactTests$Scale") true := ⟨RX11, TX11, 11, tyX11, rfl, by decide, inX11, tyX11_ok, nmX11, rfl, tyX11_ok 9 (by decide), rfl, (gT0_tb 285 (by decide +kernel) rfl)⟩
theorem clX11_69 : Cond.classLink RX11 69 RX1 ∈ gT0 := (gT0_tb 255 (by decide +kernel) rfl)
theorem lkX11_65 : gLk RX11 65 11 9 := ⟨RX11, TX11, 11, rfl, by decide, inX11, Or.inl (gT0_tb 285 (by decide +kernel) rfl)⟩
set_option maxRecDepth 100000 in
theorem slX11_71 : gIl RX11 71 yX1_init cX1_init 3 1 := ⟨⟨Or.inl (gT0_tb 257 (by decide +kernel) rfl), (gT0_tb 13 (by decide +kernel) rfl), (gT0_tb 259 rfl rfl), by decide +kernel⟩, rfl, (gT0_tb 258 (by decide +kernel) rfl)⟩
theorem lpX11_74 : gLp RX11 74 11 10 (.object "ExactTests$Chances") true := ⟨RX11, TX11, 11, tyX11, rfl, by decide, inX11, tyX11_ok, nmX11, rfl, tyX11_ok 10 (by decide), rfl, (gT0_tb 286 (by decide +kernel) rfl)⟩
set_option maxRecDepth 100000 in
theorem slX11_78 : gSl RX11 78 yX11_within cX11_within 3 (some .boolean) 3 := ⟨⟨Or.inl (gT0_tb 314 (by decide +kernel) rfl), (gT0_tb 1 (by decide +kernel) rfl), (gT0_tb 316 rfl rfl), by decide +kernel⟩, (gT0_tb 315 (by decide +kernel) rfl)⟩
theorem lkX11_10 : gLk RX11 10 11 0 := ⟨RX11, TX11, 11, rfl, by decide, inX11, Or.inl (gT0_tb 276 (by decide +kernel) rfl)⟩
set_option maxRecDepth 100000 in
theorem slX11_82 : gVl RX11 82 yX3_renew cX3_renew 4 none 2 := ⟨⟨Or.inl (gT0_tb 317 (by decide +kernel) rfl), (gT0_tb 2 (by decide +kernel) rfl), (gT0_tb 320 rfl rfl), by decide +kernel⟩, (gT0_tb 318 (by decide +kernel) rfl), (gT0_tb 319 (by decide +kernel) rfl)⟩
set_option maxRecDepth 100000 in
theorem slX11_86 : gVl RX11 86 yX3_hasRow cX3_hasRow 2 (some .boolean) 1 := ⟨⟨Or.inl (gT0_tb 325 (by decide +kernel) rfl), (gT0_tb 2 (by decide +kernel) rfl), (gT0_tb 328 rfl rfl), by decide +kernel⟩, (gT0_tb 326 (by decide +kernel) rfl), (gT0_tb 327 (by decide +kernel) rfl)⟩
set_option maxRecDepth 100000 in
theorem slX11_90 : gVl RX11 90 yX3_hasColumn cX3_hasColumn 2 (some .boolean) 1 := ⟨⟨Or.inl (gT0_tb 329 (by decide +kernel) rfl), (gT0_tb 2 (by decide +kernel) rfl), (gT0_tb 332 rfl rfl), by decide +kernel⟩, (gT0_tb 330 (by decide +kernel) rfl), (gT0_tb 331 (by decide +kernel) rfl)⟩
set_option maxRecDepth 100000 in
theorem slX11_93 : gVl RX11 93 yX3_at cX3_at 3 (some .int) 2 := ⟨⟨Or.inl (gT0_tb 333 (by decide +kernel) rfl), (gT0_tb 2 (by decide +kernel) rfl), (gT0_tb 336 rfl rfl), by decide +kernel⟩, (gT0_tb 334 (by decide +kernel) rfl), (gT0_tb 335 (by decide +kernel) rfl)⟩
set_option maxRecDepth 100000 in
theorem slX11_97 : gVl RX11 97 yX3_inAll cX3_inAll 3 (some .int) 0 := ⟨⟨Or.inl (gT0_tb 339 (by decide +kernel) rfl), (gT0_tb 2 (by decide +kernel) rfl), (gT0_tb 342 rfl rfl), by decide +kernel⟩, (gT0_tb 340 (by decide +kernel) rfl), (gT0_tb 341 (by decide +kernel) rfl)⟩
set_option maxRecDepth 100000 in
theorem slX11_101 : gVl RX11 101 yX3_put cX3_put 4 none 3 := ⟨⟨Or.inl (gT0_tb 343 (by decide +kernel) rfl), (gT0_tb 2 (by decide +kernel) rfl), (gT0_tb 346 rfl rfl), by decide +kernel⟩, (gT0_tb 344 (by decide +kernel) rfl), (gT0_tb 345 (by decide +kernel) rfl)⟩
set_option maxRecDepth 100000 in
theorem slX11_105 : gVl RX11 105 yX3_rowSum cX3_rowSum 4 (some .int) 1 := ⟨⟨Or.inl (gT0_tb 351 (by decide +kernel) rfl), (gT0_tb 2 (by decide +kernel) rfl), (gT0_tb 354 rfl rfl), by decide +kernel⟩, (gT0_tb 352 (by decide +kernel) rfl), (gT0_tb 353 (by decide +kernel) rfl)⟩
set_option maxRecDepth 100000 in
theorem slX11_109 : gVl RX11 109 yX3_columnSum cX3_columnSum 4 (some .int) 1 := ⟨⟨Or.inl (gT0_tb 356 (by decide +kernel) rfl), (gT0_tb 2 (by decide +kernel) rfl), (gT0_tb 359 rfl rfl), by decide +kernel⟩, (gT0_tb 357 (by decide +kernel) rfl), (gT0_tb 358 (by decide +kernel) rfl)⟩
theorem lkX11_21 : gLk RX11 21 11 1 := ⟨RX11, TX11, 11, rfl, by decide, inX11, Or.inl (gT0_tb 277 (by decide +kernel) rfl)⟩
theorem lkX11_25 : gLk RX11 25 11 2 := ⟨RX11, TX11, 11, rfl, by decide, inX11, Or.inl (gT0_tb 278 (by decide +kernel) rfl)⟩
set_option maxRecDepth 100000 in
theorem slX11_112 : gVl RX11 112 yX5_isFull cX5_isFull 1 (some .boolean) 0 := ⟨⟨Or.inl (gT0_tb 364 (by decide +kernel) rfl), (gT0_tb 3 (by decide +kernel) rfl), (gT0_tb 367 rfl rfl), by decide +kernel⟩, (gT0_tb 365 (by decide +kernel) rfl), (gT0_tb 366 (by decide +kernel) rfl)⟩
set_option maxRecDepth 100000 in
theorem slX11_116 : gVl RX11 116 yX5_add cX5_add 2 (some .int) 1 := ⟨⟨Or.inl (gT0_tb 368 (by decide +kernel) rfl), (gT0_tb 3 (by decide +kernel) rfl), (gT0_tb 371 rfl rfl), by decide +kernel⟩, (gT0_tb 369 (by decide +kernel) rfl), (gT0_tb 370 (by decide +kernel) rfl)⟩
theorem lkX11_28 : gLk RX11 28 11 3 := ⟨RX11, TX11, 11, rfl, by decide, inX11, Or.inl (gT0_tb 279 (by decide +kernel) rfl)⟩
set_option maxRecDepth 100000 in
theorem slX11_119 : gVl RX11 119 yX5_empty cX5_empty 2 (some .int) 0 := ⟨⟨Or.inl (gT0_tb 381 (by decide +kernel) rfl), (gT0_tb 3 (by decide +kernel) rfl), (gT0_tb 384 rfl rfl), by decide +kernel⟩, (gT0_tb 382 (by decide +kernel) rfl), (gT0_tb 383 (by decide +kernel) rfl)⟩
theorem lkX11_74 : gLk RX11 74 11 10 := ⟨RX11, TX11, 11, rfl, by decide, inX11, Or.inl (gT0_tb 286 (by decide +kernel) rfl)⟩
set_option maxRecDepth 100000 in
theorem slX11_122 : gVl RX11 122 yX1_empty cX1_empty 2 (some .int) 0 := ⟨⟨Or.inl (gT0_tb 385 (by decide +kernel) rfl), (gT0_tb 13 (by decide +kernel) rfl), (gT0_tb 388 rfl rfl), by decide +kernel⟩, (gT0_tb 386 (by decide +kernel) rfl), (gT0_tb 387 (by decide +kernel) rfl)⟩
theorem lkX11_31 : gLk RX11 31 11 4 := ⟨RX11, TX11, 11, rfl, by decide, inX11, Or.inl (gT0_tb 280 (by decide +kernel) rfl)⟩
theorem lkX11_37 : gLk RX11 37 11 5 := ⟨RX11, TX11, 11, rfl, by decide, inX11, Or.inl (gT0_tb 281 (by decide +kernel) rfl)⟩
set_option maxRecDepth 100000 in
theorem slX11_123 : gVl RX11 123 yX9_countCases cX9_countCases 2 (some .int) 1 := ⟨⟨Or.inl (gT0_tb 393 (by decide +kernel) rfl), (gT0_tb 5 (by decide +kernel) rfl), (gT0_tb 396 rfl rfl), by decide +kernel⟩, (gT0_tb 394 (by decide +kernel) rfl), (gT0_tb 395 (by decide +kernel) rfl)⟩
theorem lkX11_44 : gLk RX11 44 11 6 := ⟨RX11, TX11, 11, rfl, by decide, inX11, Or.inl (gT0_tb 282 (by decide +kernel) rfl)⟩
set_option maxRecDepth 100000 in
theorem slX11_127 : gVl RX11 127 yX3_rows cX3_rows 1 (some .int) 0 := ⟨⟨Or.inl (gT0_tb 428 (by decide +kernel) rfl), (gT0_tb 2 (by decide +kernel) rfl), (gT0_tb 404 rfl rfl), by decide +kernel⟩, (gT0_tb 402 (by decide +kernel) rfl), (gT0_tb 403 (by decide +kernel) rfl)⟩
set_option maxRecDepth 100000 in
theorem slX11_130 : gVl RX11 130 yX3_columns cX3_columns 1 (some .int) 0 := ⟨⟨Or.inl (gT0_tb 429 (by decide +kernel) rfl), (gT0_tb 2 (by decide +kernel) rfl), (gT0_tb 411 rfl rfl), by decide +kernel⟩, (gT0_tb 409 (by decide +kernel) rfl), (gT0_tb 410 (by decide +kernel) rfl)⟩
set_option maxRecDepth 100000 in
theorem slX11_133 : gVl RX11 133 yX0_renew cX0_renew 5 none 3 := ⟨⟨Or.inl (gT0_tb 430 (by decide +kernel) rfl), (gT0_tb 7 (by decide +kernel) rfl), (gT0_tb 433 rfl rfl), by decide +kernel⟩, (gT0_tb 431 (by decide +kernel) rfl), (gT0_tb 432 (by decide +kernel) rfl)⟩
set_option maxRecDepth 100000 in
theorem slX11_135 : gVl RX11 135 yX9_weighCases cX9_weighCases 3 none 2 := ⟨⟨Or.inl (gT0_tb 435 (by decide +kernel) rfl), (gT0_tb 5 (by decide +kernel) rfl), (gT0_tb 438 rfl rfl), by decide +kernel⟩, (gT0_tb 436 (by decide +kernel) rfl), (gT0_tb 437 (by decide +kernel) rfl)⟩
theorem lkX11_58 : gLk RX11 58 11 8 := ⟨RX11, TX11, 11, rfl, by decide, inX11, Or.inl (gT0_tb 284 (by decide +kernel) rfl)⟩
set_option maxRecDepth 100000 in
theorem slX11_139 : gVl RX11 139 yX6_begin cX6_begin 4 none 3 := ⟨⟨Or.inl (gT0_tb 504 (by decide +kernel) rfl), (gT0_tb 10 (by decide +kernel) rfl), (gT0_tb 507 rfl rfl), by decide +kernel⟩, (gT0_tb 505 (by decide +kernel) rfl), (gT0_tb 506 (by decide +kernel) rfl)⟩
set_option maxRecDepth 100000 in
theorem slX11_142 : gVl RX11 142 yX6_chance cX6_chance 2 (some (.object "ExactTests$Fraction")) 1 := ⟨⟨Or.inl (gT0_tb 508 (by decide +kernel) rfl), (gT0_tb 10 (by decide +kernel) rfl), (gT0_tb 511 rfl rfl), by decide +kernel⟩, (gT0_tb 509 (by decide +kernel) rfl), (gT0_tb 510 (by decide +kernel) rfl)⟩
theorem lkX11_146 : gLk RX11 146 9 12 := ⟨RX9, TX9, 15, rfl, by decide, inX9, Or.inl (gT0_tb 95 (by decide +kernel) rfl)⟩
theorem lkX11_150 : gLk RX11 150 9 10 := ⟨RX9, TX9, 15, rfl, by decide, inX9, Or.inl (gT0_tb 91 (by decide +kernel) rfl)⟩
set_option maxRecDepth 100000 in
theorem slX11_153 : gVl RX11 153 yX2_setWholes cX2_setWholes 3 none 2 := ⟨⟨Or.inl (gT0_tb 512 (by decide +kernel) rfl), (gT0_tb 11 (by decide +kernel) rfl), (gT0_tb 515 rfl rfl), by decide +kernel⟩, (gT0_tb 513 (by decide +kernel) rfl), (gT0_tb 514 (by decide +kernel) rfl)⟩
theorem lkX11_159 : gLk RX11 159 9 13 := ⟨RX9, TX9, 15, rfl, by decide, inX9, Or.inl (gT0_tb 97 (by decide +kernel) rfl)⟩
theorem lkX11_162 : gLk RX11 162 9 14 := ⟨RX9, TX9, 15, rfl, by decide, inX9, Or.inl (gT0_tb 99 (by decide +kernel) rfl)⟩
theorem lkX11_165 : gLk RX11 165 9 11 := ⟨RX9, TX9, 15, rfl, by decide, inX9, Or.inl (gT0_tb 93 (by decide +kernel) rfl)⟩
theorem kcX11_168 : Cond.constant RX11 168 (-1000000001) ∈ gT0 := (gT0_tb 539 (by decide +kernel) rfl)
set_option maxRecDepth 100000 in
theorem slX11_169 : gVl RX11 169 yX5_size cX5_size 1 (some .int) 0 := ⟨⟨Or.inl (gT0_tb 540 (by decide +kernel) rfl), (gT0_tb 3 (by decide +kernel) rfl), (gT0_tb 543 rfl rfl), by decide +kernel⟩, (gT0_tb 541 (by decide +kernel) rfl), (gT0_tb 542 (by decide +kernel) rfl)⟩
theorem kcX11_172 : Cond.constant RX11 172 (-1000000003) ∈ gT0 := (gT0_tb 544 (by decide +kernel) rfl)
theorem lkX11_51 : gLk RX11 51 11 7 := ⟨RX11, TX11, 11, rfl, by decide, inX11, Or.inl (gT0_tb 283 (by decide +kernel) rfl)⟩
set_option maxRecDepth 100000 in
theorem slX11_173 : gVl RX11 173 yX8_beginTaking cX8_beginTaking 4 none 2 := ⟨⟨Or.inl (gT0_tb 545 (by decide +kernel) rfl), (gT0_tb 8 (by decide +kernel) rfl), (gT0_tb 548 rfl rfl), by decide +kernel⟩, (gT0_tb 546 (by decide +kernel) rfl), (gT0_tb 547 (by decide +kernel) rfl)⟩
set_option maxRecDepth 100000 in
theorem slX11_176 : gVl RX11 176 yX11_takeScores cX11_takeScores 7 (some .int) 2 := ⟨⟨Or.inl (gT0_tb 558 (by decide +kernel) rfl), (gT0_tb 1 (by decide +kernel) rfl), (gT0_tb 561 rfl rfl), by decide +kernel⟩, (gT0_tb 560 (by decide +kernel) rfl), (gT0_sl 16 (by decide +kernel) rfl)⟩
set_option maxRecDepth 100000 in
theorem slX11_180 : gVl RX11 180 yX11_judge cX11_judge 16 none 3 := ⟨⟨Or.inl (gT0_tb 603 (by decide +kernel) rfl), (gT0_tb 1 (by decide +kernel) rfl), (gT0_tb 606 rfl rfl), by decide +kernel⟩, (gT0_tb 605 (by decide +kernel) rfl), (gT0_sl 19 (by decide +kernel) rfl)⟩
set_option maxRecDepth 100000 in
theorem slX11_183 : gVl RX11 183 yX5_countOf cX5_countOf 4 (some .int) 1 := ⟨⟨Or.inl (gT0_tb 578 (by decide +kernel) rfl), (gT0_tb 3 (by decide +kernel) rfl), (gT0_tb 581 rfl rfl), by decide +kernel⟩, (gT0_tb 579 (by decide +kernel) rfl), (gT0_tb 580 (by decide +kernel) rfl)⟩
set_option maxRecDepth 100000 in
theorem slX11_186 : gVl RX11 186 yX8_beginSigning cX8_beginSigning 2 none 1 := ⟨⟨Or.inl (gT0_tb 631 (by decide +kernel) rfl), (gT0_tb 8 (by decide +kernel) rfl), (gT0_tb 634 rfl rfl), by decide +kernel⟩, (gT0_tb 632 (by decide +kernel) rfl), (gT0_tb 633 (by decide +kernel) rfl)⟩
set_option maxRecDepth 100000 in
theorem slX11_189 : gVl RX11 189 yX5_get cX5_get 2 (some .int) 1 := ⟨⟨Or.inl (gT0_tb 562 (by decide +kernel) rfl), (gT0_tb 3 (by decide +kernel) rfl), (gT0_tb 565 rfl rfl), by decide +kernel⟩, (gT0_tb 563 (by decide +kernel) rfl), (gT0_tb 564 (by decide +kernel) rfl)⟩
set_option maxRecDepth 100000 in
theorem slX11_192 : gSl RX11 192 yJ9_abs_0f7a4 cJ9_abs_0f7a4 1 (some .int) 1 := ⟨⟨Or.inl (gT0_tb 635 (by decide +kernel) rfl), (gT0_tb 4 (by decide +kernel) rfl), (gT0_tb 637 rfl rfl), by decide +kernel⟩, (gT0_tb 636 (by decide +kernel) rfl)⟩
set_option maxRecDepth 100000 in
theorem slX11_197 : gVl RX11 197 yX11_scoreOfSize cX11_scoreOfSize 3 (some .int) 2 := ⟨⟨Or.inl (gT0_tb 638 (by decide +kernel) rfl), (gT0_tb 1 (by decide +kernel) rfl), (gT0_tb 641 rfl rfl), by decide +kernel⟩, (gT0_tb 640 (by decide +kernel) rfl), (gT0_sl 20 (by decide +kernel) rfl)⟩
set_option maxRecDepth 100000 in
theorem slX11_200 : gVl RX11 200 yX8_take cX8_take 3 none 1 := ⟨⟨Or.inl (gT0_tb 585 (by decide +kernel) rfl), (gT0_tb 8 (by decide +kernel) rfl), (gT0_tb 588 rfl rfl), by decide +kernel⟩, (gT0_tb 586 (by decide +kernel) rfl), (gT0_tb 587 (by decide +kernel) rfl)⟩
set_option maxRecDepth 100000 in
theorem slX11_203 : gVl RX11 203 yX5_has cX5_has 2 (some .boolean) 1 := ⟨⟨Or.inl (gT0_tb 650 (by decide +kernel) rfl), (gT0_tb 3 (by decide +kernel) rfl), (gT0_tb 569 rfl rfl), by decide +kernel⟩, (gT0_tb 567 (by decide +kernel) rfl), (gT0_tb 568 (by decide +kernel) rfl)⟩
set_option maxRecDepth 100000 in
theorem slX11_206 : gVl RX11 206 yX11_rankOfSize cX11_rankOfSize 5 (some .int) 1 := ⟨⟨Or.inl (gT0_tb 642 (by decide +kernel) rfl), (gT0_tb 1 (by decide +kernel) rfl), (gT0_tb 645 rfl rfl), by decide +kernel⟩, (gT0_tb 644 (by decide +kernel) rfl), (gT0_sl 21 (by decide +kernel) rfl)⟩
set_option maxRecDepth 100000 in
theorem slX11_209 : gVl RX11 209 yX11_rankOfNumber cX11_rankOfNumber 4 (some .int) 1 := ⟨⟨Or.inl (gT0_tb 570 (by decide +kernel) rfl), (gT0_tb 1 (by decide +kernel) rfl), (gT0_tb 573 rfl rfl), by decide +kernel⟩, (gT0_tb 572 (by decide +kernel) rfl), (gT0_sl 17 (by decide +kernel) rfl)⟩
set_option maxRecDepth 100000 in
theorem slX11_212 : gVl RX11 212 yX0_count cX0_count 1 (some .int) 0 := ⟨⟨Or.inl (gT0_tb 655 (by decide +kernel) rfl), (gT0_tb 7 (by decide +kernel) rfl), (gT0_tb 658 rfl rfl), by decide +kernel⟩, (gT0_tb 656 (by decide +kernel) rfl), (gT0_tb 657 (by decide +kernel) rfl)⟩
set_option maxRecDepth 100000 in
theorem slX11_215 : gVl RX11 215 yX0_has cX0_has 2 (some .boolean) 1 := ⟨⟨Or.inl (gT0_tb 659 (by decide +kernel) rfl), (gT0_tb 7 (by decide +kernel) rfl), (gT0_tb 662 rfl rfl), by decide +kernel⟩, (gT0_tb 660 (by decide +kernel) rfl), (gT0_tb 661 (by decide +kernel) rfl)⟩
set_option maxRecDepth 100000 in
theorem slX11_216 : gVl RX11 216 yX0_hasCell cX0_hasCell 3 (some .boolean) 2 := ⟨⟨Or.inl (gT0_tb 663 (by decide +kernel) rfl), (gT0_tb 7 (by decide +kernel) rfl), (gT0_tb 666 rfl rfl), by decide +kernel⟩, (gT0_tb 664 (by decide +kernel) rfl), (gT0_tb 665 (by decide +kernel) rfl)⟩
set_option maxRecDepth 100000 in
theorem slX11_220 : gVl RX11 220 yX0_numberAt cX0_numberAt 5 (some .int) 3 := ⟨⟨Or.inl (gT0_tb 667 (by decide +kernel) rfl), (gT0_tb 7 (by decide +kernel) rfl), (gT0_tb 670 rfl rfl), by decide +kernel⟩, (gT0_tb 668 (by decide +kernel) rfl), (gT0_tb 669 (by decide +kernel) rfl)⟩
set_option maxRecDepth 100000 in
theorem slX11_224 : gVl RX11 224 yX0_orderOf cX0_orderOf 2 (some .int) 1 := ⟨⟨Or.inl (gT0_tb 677 (by decide +kernel) rfl), (gT0_tb 7 (by decide +kernel) rfl), (gT0_tb 680 rfl rfl), by decide +kernel⟩, (gT0_tb 678 (by decide +kernel) rfl), (gT0_tb 679 (by decide +kernel) rfl)⟩
set_option maxRecDepth 100000 in
theorem slX11_227 : gVl RX11 227 yX11_refusal cX11_refusal 2 (some .int) 1 := ⟨⟨Or.inl (gT0_tb 685 (by decide +kernel) rfl), (gT0_tb 1 (by decide +kernel) rfl), (gT0_tb 688 rfl rfl), by decide +kernel⟩, (gT0_tb 687 (by decide +kernel) rfl), (gT0_sl 22 (by decide +kernel) rfl)⟩
set_option maxRecDepth 100000 in
theorem slX11_230 : gVl RX11 230 yX2_part cX2_part 2 (some (.object "ExactTests$Whole")) 1 := ⟨⟨Or.inl (gT0_tb 693 (by decide +kernel) rfl), (gT0_tb 11 (by decide +kernel) rfl), (gT0_tb 696 rfl rfl), by decide +kernel⟩, (gT0_tb 694 (by decide +kernel) rfl), (gT0_tb 695 (by decide +kernel) rfl)⟩
set_option maxRecDepth 100000 in
theorem slX11_234 : gVl RX11 234 yX10_bitLength cX10_bitLength 1 (some .int) 0 := ⟨⟨Or.inl (gT0_tb 697 (by decide +kernel) rfl), (gT0_tb 6 (by decide +kernel) rfl), (gT0_tb 700 rfl rfl), by decide +kernel⟩, (gT0_tb 698 (by decide +kernel) rfl), (gT0_tb 699 (by decide +kernel) rfl)⟩
set_option maxRecDepth 100000 in
theorem slX11_239 : gVl RX11 239 yX10_sixteenBits cX10_sixteenBits 3 (some .int) 1 := ⟨⟨Or.inl (gT0_tb 712 (by decide +kernel) rfl), (gT0_tb 6 (by decide +kernel) rfl), (gT0_tb 715 rfl rfl), by decide +kernel⟩, (gT0_tb 713 (by decide +kernel) rfl), (gT0_tb 714 (by decide +kernel) rfl)⟩
set_option maxRecDepth 100000 in
theorem slX11_242 : gVl RX11 242 yX7_figureOf cX7_figureOf 6 (some .int) 2 := ⟨⟨Or.inl (gT0_tb 721 (by decide +kernel) rfl), (gT0_tb 12 (by decide +kernel) rfl), (gT0_tb 724 rfl rfl), by decide +kernel⟩, (gT0_tb 722 (by decide +kernel) rfl), (gT0_tb 723 (by decide +kernel) rfl)⟩
set_option maxRecDepth 100000 in
theorem slX11_246 : gSl RX11 246 yX11_isLevel cX11_isLevel 2 (some .boolean) 2 := ⟨⟨Or.inl (gT0_tb 740 (by decide +kernel) rfl), (gT0_tb 1 (by decide +kernel) rfl), (gT0_tb 742 rfl rfl), by decide +kernel⟩, (gT0_tb 741 (by decide +kernel) rfl)⟩
set_option maxRecDepth 100000 in
theorem slX11_249 : gVl RX11 249 yX7_compareToLevel cX7_compareToLevel 6 (some .int) 3 := ⟨⟨Or.inl (gT0_tb 744 (by decide +kernel) rfl), (gT0_tb 12 (by decide +kernel) rfl), (gT0_tb 747 rfl rfl), by decide +kernel⟩, (gT0_tb 745 (by decide +kernel) rfl), (gT0_tb 746 (by decide +kernel) rfl)⟩
set_option maxRecDepth 100000 in
theorem slX11_253 : gVl RX11 253 yX6_areThere cX6_areThere 1 (some .boolean) 0 := ⟨⟨Or.inl (gT0_tb 689 (by decide +kernel) rfl), (gT0_tb 10 (by decide +kernel) rfl), (gT0_tb 692 rfl rfl), by decide +kernel⟩, (gT0_tb 690 (by decide +kernel) rfl), (gT0_tb 691 (by decide +kernel) rfl)⟩
set_option maxRecDepth 100000 in
theorem slX11_256 : gVl RX11 256 yX6_test cX6_test 1 (some .int) 0 := ⟨⟨Or.inl (gT0_tb 752 (by decide +kernel) rfl), (gT0_tb 10 (by decide +kernel) rfl), (gT0_tb 755 rfl rfl), by decide +kernel⟩, (gT0_tb 753 (by decide +kernel) rfl), (gT0_tb 754 (by decide +kernel) rfl)⟩
set_option maxRecDepth 100000 in
theorem slX11_259 : gVl RX11 259 yX6_statistic cX6_statistic 1 (some .int) 0 := ⟨⟨Or.inl (gT0_tb 756 (by decide +kernel) rfl), (gT0_tb 10 (by decide +kernel) rfl), (gT0_tb 759 rfl rfl), by decide +kernel⟩, (gT0_tb 757 (by decide +kernel) rfl), (gT0_tb 758 (by decide +kernel) rfl)⟩
set_option maxRecDepth 100000 in
theorem slX11_262 : gVl RX11 262 yX6_asked cX6_asked 1 (some .int) 0 := ⟨⟨Or.inl (gT0_tb 760 (by decide +kernel) rfl), (gT0_tb 10 (by decide +kernel) rfl), (gT0_tb 763 rfl rfl), by decide +kernel⟩, (gT0_tb 761 (by decide +kernel) rfl), (gT0_tb 762 (by decide +kernel) rfl)⟩
theorem kcX11_265 : Cond.constant RX11 265 (-1000000002) ∈ gT0 := (gT0_tb 764 (by decide +kernel) rfl)
theorem kcX11_266 : Cond.constantLong RX11 266 (-3) ∈ gT0 := (gT0_tb 769 (by decide +kernel) rfl)
theorem kcX11_268 : Cond.constant RX11 268 (-60000) ∈ gT0 := (gT0_tb 770 (by decide +kernel) rfl)
theorem kcX11_269 : Cond.constant RX11 269 (60000) ∈ gT0 := (gT0_tb 771 (by decide +kernel) rfl)
set_option maxRecDepth 100000 in
theorem slX11_270 : gVl RX11 270 yX8_exactly cX8_exactly 9 (some .long) 1 := ⟨⟨Or.inl (gT0_tb 615 (by decide +kernel) rfl), (gT0_tb 8 (by decide +kernel) rfl), (gT0_tb 618 rfl rfl), by decide +kernel⟩, (gT0_tb 616 (by decide +kernel) rfl), (gT0_tb 617 (by decide +kernel) rfl)⟩
set_option maxRecDepth 100000 in
theorem slX11_274 : gVl RX11 274 yX1_isFull cX1_isFull 1 (some .boolean) 0 := ⟨⟨Or.inl (gT0_tb 776 (by decide +kernel) rfl), (gT0_tb 13 (by decide +kernel) rfl), (gT0_tb 779 rfl rfl), by decide +kernel⟩, (gT0_tb 777 (by decide +kernel) rfl), (gT0_tb 778 (by decide +kernel) rfl)⟩
set_option maxRecDepth 100000 in
theorem slX11_275 : gVl RX11 275 yX1_add cX1_add 3 (some .int) 1 := ⟨⟨Or.inl (gT0_tb 780 (by decide +kernel) rfl), (gT0_tb 13 (by decide +kernel) rfl), (gT0_tb 783 rfl rfl), by decide +kernel⟩, (gT0_tb 781 (by decide +kernel) rfl), (gT0_tb 782 (by decide +kernel) rfl)⟩
set_option maxRecDepth 100000 in
theorem slX11_278 : gVl RX11 278 yX1_countRejected cX1_countRejected 6 (some .int) 2 := ⟨⟨Or.inl (gT0_tb 801 (by decide +kernel) rfl), (gT0_tb 13 (by decide +kernel) rfl), (gT0_tb 804 rfl rfl), by decide +kernel⟩, (gT0_tb 802 (by decide +kernel) rfl), (gT0_tb 803 (by decide +kernel) rfl)⟩
set_option maxRecDepth 100000 in
theorem slX11_281 : gVl RX11 281 yX1_has cX1_has 2 (some .boolean) 1 := ⟨⟨Or.inl (gT0_tb 810 (by decide +kernel) rfl), (gT0_tb 13 (by decide +kernel) rfl), (gT0_tb 813 rfl rfl), by decide +kernel⟩, (gT0_tb 811 (by decide +kernel) rfl), (gT0_tb 812 (by decide +kernel) rfl)⟩
set_option maxRecDepth 100000 in
theorem slX11_282 : gVl RX11 282 yX1_placeOf cX1_placeOf 3 (some .int) 1 := ⟨⟨Or.inl (gT0_tb 814 (by decide +kernel) rfl), (gT0_tb 13 (by decide +kernel) rfl), (gT0_tb 817 rfl rfl), by decide +kernel⟩, (gT0_tb 815 (by decide +kernel) rfl), (gT0_tb 816 (by decide +kernel) rfl)⟩
theorem kcX11_285 : Cond.constant RX11 285 (65535) ∈ gT0 := (gT0_tb 822 (by decide +kernel) rfl)
set_option maxRecDepth 100000 in
theorem slX11_286 : gVl RX11 286 yX2_countWords cX2_countWords 1 (some .int) 0 := ⟨⟨Or.inl (gT0_tb 827 (by decide +kernel) rfl), (gT0_tb 11 (by decide +kernel) rfl), (gT0_tb 830 rfl rfl), by decide +kernel⟩, (gT0_tb 828 (by decide +kernel) rfl), (gT0_tb 829 (by decide +kernel) rfl)⟩
set_option maxRecDepth 100000 in
theorem slX11_289 : gSl RX11 289 yJ9_min_7cf53 cJ9_min_7cf53 2 (some .int) 2 := ⟨⟨Or.inl (gT0_tb 836 (by decide +kernel) rfl), (gT0_tb 4 (by decide +kernel) rfl), (gT0_tb 407 rfl rfl), by decide +kernel⟩, (gT0_tb 406 (by decide +kernel) rfl)⟩
set_option maxRecDepth 100000 in
theorem slX11_292 : gVl RX11 292 yX2_wordInTurn cX2_wordInTurn 3 (some .int) 1 := ⟨⟨Or.inl (gT0_tb 837 (by decide +kernel) rfl), (gT0_tb 11 (by decide +kernel) rfl), (gT0_tb 840 rfl rfl), by decide +kernel⟩, (gT0_tb 838 (by decide +kernel) rfl), (gT0_tb 839 (by decide +kernel) rfl)⟩
set_option maxRecDepth 100000 in
theorem slX11_295 : gVl RX11 295 yX11_shiftInPlace cX11_shiftInPlace 6 (some .int) 1 := ⟨⟨Or.inl (gT0_tb 846 (by decide +kernel) rfl), (gT0_tb 1 (by decide +kernel) rfl), (gT0_tb 849 rfl rfl), by decide +kernel⟩, (gT0_tb 848 (by decide +kernel) rfl), (gT0_sl 23 (by decide +kernel) rfl)⟩
set_option maxRecDepth 100000 in
theorem slX11_298 : gVl RX11 298 yX1_size cX1_size 1 (some .int) 0 := ⟨⟨Or.inl (gT0_tb 858 (by decide +kernel) rfl), (gT0_tb 13 (by decide +kernel) rfl), (gT0_tb 861 rfl rfl), by decide +kernel⟩, (gT0_tb 859 (by decide +kernel) rfl), (gT0_tb 860 (by decide +kernel) rfl)⟩
theorem kcX11_299 : Cond.constant RX11 299 (1000000) ∈ gT0 := (gT0_tb 743 (by decide +kernel) rfl)
set_option maxRecDepth 100000 in
theorem slX11_300 : gVl RX11 300 yX5_countBelow cX5_countBelow 4 (some .int) 1 := ⟨⟨Or.inl (gT0_tb 574 (by decide +kernel) rfl), (gT0_tb 3 (by decide +kernel) rfl), (gT0_tb 577 rfl rfl), by decide +kernel⟩, (gT0_tb 575 (by decide +kernel) rfl), (gT0_tb 576 (by decide +kernel) rfl)⟩
set_option maxRecDepth 100000 in
theorem slX11_303 : gSl RX11 303 yX11_twiceMeanPlace cX11_twiceMeanPlace 2 (some .int) 2 := ⟨⟨Or.inl (gT0_tb 582 (by decide +kernel) rfl), (gT0_tb 1 (by decide +kernel) rfl), (gT0_tb 584 rfl rfl), by decide +kernel⟩, (gT0_tb 583 (by decide +kernel) rfl)⟩
set_option maxRecDepth 100000 in
theorem slX11_306 : gVl RX11 306 yX8_countAll cX8_countAll 1 (some .long) 0 := ⟨⟨Or.inl (gT0_tb 607 (by decide +kernel) rfl), (gT0_tb 8 (by decide +kernel) rfl), (gT0_tb 610 rfl rfl), by decide +kernel⟩, (gT0_tb 608 (by decide +kernel) rfl), (gT0_tb 609 (by decide +kernel) rfl)⟩
set_option maxRecDepth 100000 in
theorem slX11_310 : gVl RX11 310 yX8_upTo cX8_upTo 10 (some .long) 1 := ⟨⟨Or.inl (gT0_tb 611 (by decide +kernel) rfl), (gT0_tb 8 (by decide +kernel) rfl), (gT0_tb 614 rfl rfl), by decide +kernel⟩, (gT0_tb 612 (by decide +kernel) rfl), (gT0_tb 613 (by decide +kernel) rfl)⟩
set_option maxRecDepth 100000 in
theorem slX11_313 : gVl RX11 313 yX2_setLongs cX2_setLongs 5 none 2 := ⟨⟨Or.inl (gT0_tb 619 (by decide +kernel) rfl), (gT0_tb 11 (by decide +kernel) rfl), (gT0_tb 622 rfl rfl), by decide +kernel⟩, (gT0_tb 620 (by decide +kernel) rfl), (gT0_tb 621 (by decide +kernel) rfl)⟩
set_option maxRecDepth 100000 in
theorem slX11_317 : gSl RX11 317 yJ9_floorDiv_7cf53 cJ9_floorDiv_7cf53 3 (some .int) 2 := ⟨⟨Or.inl (gT0_tb 624 (by decide +kernel) rfl), (gT0_tb 4 (by decide +kernel) rfl), (gT0_tb 626 rfl rfl), by decide +kernel⟩, (gT0_tb 625 (by decide +kernel) rfl)⟩
set_option maxRecDepth 100000 in
theorem slX11_320 : gVl RX11 320 yX11_countShiftsUpTo cX11_countShiftsUpTo 4 (some .int) 1 := ⟨⟨Or.inl (gT0_tb 850 (by decide +kernel) rfl), (gT0_tb 1 (by decide +kernel) rfl), (gT0_tb 853 rfl rfl), by decide +kernel⟩, (gT0_tb 852 (by decide +kernel) rfl), (gT0_sl 24 (by decide +kernel) rfl)⟩
theorem oiX12_1 : Cond.methodLink RX12 1 Lib.objectInit ∈ gT0 := (gT0_tb 867 (by decide +kernel) rfl)
theorem lpX12_7 : gLp RX12 7 12 0 (.array .int) true := ⟨RX12, TX12, 47, tyX12, rfl, by decide, inX12, tyX12_ok, nmX12, rfl, tyX12_ok 0 (by decide), rfl, (gT0_tb 871 (by decide +kernel) rfl)⟩
theorem lpX12_13 : gLp RX12 13 12 1 (.array .int) true := ⟨RX12, TX12, 47, tyX12, rfl, by decide, inX12, tyX12_ok, nmX12, rfl, tyX12_ok 1 (by decide), rfl, (gT0_tb 872 (by decide +kernel) rfl)⟩
theorem lpX12_16 : gLp RX12 16 12 2 (.array .int) true := ⟨RX12, TX12, 47, tyX12, rfl, by decide, inX12, tyX12_ok, nmX12, rfl, tyX12_ok 2 (by decide), rfl, (gT0_tb 873 (by decide +kernel) rfl)⟩
theorem lpX12_19 : gLp RX12 19 12 3 (.array .int) true := ⟨RX12, TX12, 47, tyX12, rfl, by decide, inX12, tyX12_ok, nmX12, rfl, tyX12_ok 3 (by decide), rfl, (gT0_tb 874 (by decide +kernel) rfl)⟩
theorem lpX12_22 : gLp RX12 22 12 6 (.array .int) true := ⟨RX12, TX12, 47, tyX12, rfl, by decide, inX12, tyX12_ok, nmX12, rfl, tyX12_ok 6 (by decide), rfl, (gT0_tb 877 (by decide +kernel) rfl)⟩
theorem lpX12_25 : gLp RX12 25 12 8 (.array .int) true := ⟨RX12, TX12, 47, tyX12, rfl, by decide, inX12, tyX12_ok, nmX12, rfl, tyX12_ok 8 (by decide), rfl, (gT0_tb 879 (by decide +kernel) rfl)⟩
theorem lpX12_28 : gLp RX12 28 12 9 (.array .int) true := ⟨RX12, TX12, 47, tyX12, rfl, by decide, inX12, tyX12_ok, nmX12, rfl, tyX12_ok 9 (by decide), rfl, (gT0_tb 880 (by decide +kernel) rfl)⟩
theorem lpX12_31 : gLp RX12 31 12 10 (.array .int) true := ⟨RX12, TX12, 47, tyX12, rfl, by decide, inX12, tyX12_ok, nmX12, rfl, tyX12_ok 10 (by decide), rfl, (gT0_tb 881 (by decide +kernel) rfl)⟩
theorem lpX12_34 : gLp RX12 34 12 12 (.int) false := ⟨RX12, TX12, 47, tyX12, rfl, by decide, inX12, tyX12_ok, nmX12, rfl, tyX12_ok 12 (by decide), rfl, (gT0_tb 883 (by decide +kernel) rfl)⟩
theorem lpX12_38 : gLp RX12 38 12 15 (.array .int) true := ⟨RX12, TX12, 47, tyX12, rfl, by decide, inX12, tyX12_ok, nmX12, rfl, tyX12_ok 15 (by decide), rfl, (gT0_tb 886 (by decide +kernel) rfl)⟩
theorem lpX12_41 : gLp RX12 41 12 16 (.array .int) true := ⟨RX12, TX12, 47, tyX12, rfl, by decide, inX12, tyX12_ok, nmX12, rfl, tyX12_ok 16 (by decide), rfl, (gT0_tb 887 (by decide +kernel) rfl)⟩
theorem kcX12_44 : Cond.constant RX12 44 (60001) ∈ gT0 := (gT0_tb 868 (by decide +kernel) rfl)
theorem lpX12_45 : gLp RX12 45 12 17 (.array .long) true := ⟨RX12, TX12, 47, tyX12, rfl, by decide, inX12, tyX12_ok, nmX12, rfl, tyX12_ok 17 (by decide), rfl, (gT0_tb 888 (by decide +kernel) rfl)⟩
theorem lpX12_49 : gLp RX12 49 12 20 (.array .int) true := ⟨RX12, TX12, 47, tyX12, rfl, by decide, inX12, tyX12_ok, nmX12, rfl, tyX12_ok 20 (by decide), rfl, (gT0_tb 891 (by decide +kernel) rfl)⟩
theorem lpX12_52 : gLp RX12 52 12 21 (.array .int) true := ⟨RX12, TX12, 47, tyX12, rfl, by decide, inX12, tyX12_ok, nmX12, rfl, tyX12_ok 21 (by decide), rfl, (gT0_tb 892 (by decide +kernel) rfl)⟩
theorem lpX12_55 : gLp RX12 55 12 22 (.array .int) true := ⟨RX12, TX12, 47, tyX12, rfl, by decide, inX12, tyX12_ok, nmX12, rfl, tyX12_ok 22 (by decide), rfl, (gT0_tb 893 (by decide +kernel) rfl)⟩
theorem lpX12_58 : gLp RX12 58 12 23 (.array .int) true := ⟨RX12, TX12, 47, tyX12, rfl, by decide, inX12, tyX12_ok, nmX12, rfl, tyX12_ok 23 (by decide), rfl, (gT0_tb 894 (by decide +kernel) rfl)⟩
theorem kcX12_61 : Cond.constant RX12 61 (500000) ∈ gT0 := (gT0_tb 869 (by decide +kernel) rfl)
theorem lpX12_62 : gLp RX12 62 12 24 (.array .byte) true := ⟨RX12, TX12, 47, tyX12, rfl, by decide, inX12, tyX12_ok, nmX12, rfl, tyX12_ok 24 (by decide), rfl, (gT0_tb 895 (by decide +kernel) rfl)⟩
theorem lpX12_66 : gLp RX12 66 12 28 (.array .byte) true := ⟨RX12, TX12, 47, tyX12, rfl, by decide, inX12, tyX12_ok, nmX12, rfl, tyX12_ok 28 (by decide), rfl, (gT0_tb 899 (by decide +kernel) rfl)⟩
theorem lpX12_69 : gLp RX12 69 12 29 (.array .int) true := ⟨RX12, TX12, 47, tyX12, rfl, by decide, inX12, tyX12_ok, nmX12, rfl, tyX12_ok 29 (by decide), rfl, (gT0_tb 900 (by decide +kernel) rfl)⟩
theorem lpX12_72 : gLp RX12 72 12 30 (.array .int) true := ⟨RX12, TX12, 47, tyX12, rfl, by decide, inX12, tyX12_ok, nmX12, rfl, tyX12_ok 30 (by decide), rfl, (gT0_tb 901 (by decide +kernel) rfl)⟩
theorem lpX12_75 : gLp RX12 75 12 31 (.array .int) true := ⟨RX12, TX12, 47, tyX12, rfl, by decide, inX12, tyX12_ok, nmX12, rfl, tyX12_ok 31 (by decide), rfl, (gT0_tb 902 (by decide +kernel) rfl)⟩
theorem lpX12_78 : gLp RX12 78 12 32 (.array .int) true := ⟨RX12, TX12, 47, tyX12, rfl, by decide, inX12, tyX12_ok, nmX12, rfl, tyX12_ok 32 (by decide), rfl, (gT0_tb 903 (by decide +kernel) rfl)⟩
theorem lpX12_81 : gLp RX12 81 12 33 (.array .int) true := ⟨RX12, TX12, 47, tyX12, rfl, by decide, inX12, tyX12_ok, nmX12, rfl, tyX12_ok 33 (by decide), rfl, (gT0_tb 904 (by decide +kernel) rfl)⟩
theorem lpX12_84 : gLp RX12 84 12 35 (.array .int) true := ⟨RX12, TX12, 47, tyX12, rfl, by decide, inX12, tyX12_ok, nmX12, rfl, tyX12_ok 35 (by decide), rfl, (gT0_tb 906 (by decide +kernel) rfl)⟩
theorem kcX12_87 : Cond.constant RX12 87 (480016) ∈ gT0 := (gT0_tb 870 (by decide +kernel) rfl)
theorem lpX12_88 : gLp RX12 88 12 36 (.array .long) true := ⟨RX12, TX12, 47, tyX12, rfl, by decide, inX12, tyX12_ok, nmX12, rfl, tyX12_ok 36 (by decide), rfl, (gT0_tb 907 (by decide +kernel) rfl)⟩
theorem lpX12_91 : gLp RX12 91 12 37 (.array .int) true := ⟨RX12, TX12, 47, tyX12, rfl, by decide, inX12, tyX12_ok, nmX12, rfl, tyX12_ok 37 (by decide), rfl, (gT0_tb 908 (by decide +kernel) rfl)⟩
theorem lpX12_94 : gLp RX12 94 12 38 (.array .int) true := ⟨RX12, TX12, 47, tyX12, rfl, by decide, inX12, tyX12_ok, nmX12, rfl, tyX12_ok 38 (by decide), rfl, (gT0_tb 909 (by decide +kernel) rfl)⟩
theorem lpX12_97 : gLp RX12 97 12 39 (.array .int) true := ⟨RX12, TX12, 47, tyX12, rfl, by decide, inX12, tyX12_ok, nmX12, rfl, tyX12_ok 39 (by decide), rfl, (gT0_tb 910 (by decide +kernel) rfl)⟩
theorem lpX12_100 : gLp RX12 100 12 41 (.array .int) true := ⟨RX12, TX12, 47, tyX12, rfl, by decide, inX12, tyX12_ok, nmX12, rfl, tyX12_ok 41 (by decide), rfl, (gT0_tb 912 (by decide +kernel) rfl)⟩
theorem lpX12_103 : gLp RX12 103 12 42 (.array .int) true := ⟨RX12, TX12, 47, tyX12, rfl, by decide, inX12, tyX12_ok, nmX12, rfl, tyX12_ok 42 (by decide), rfl, (gT0_tb 913 (by decide +kernel) rfl)⟩
theorem lpX12_106 : gLp RX12 106 12 43 (.array .int) true := ⟨RX12, TX12, 47, tyX12, rfl, by decide, inX12, tyX12_ok, nmX12, rfl, tyX12_ok 43 (by decide), rfl, (gT0_tb 914 (by decide +kernel) rfl)⟩
theorem lpX12_109 : gLp RX12 109 12 44 (.array .int) true := ⟨RX12, TX12, 47, tyX12, rfl, by decide, inX12, tyX12_ok, nmX12, rfl, tyX12_ok 44 (by decide), rfl, (gT0_tb 915 (by decide +kernel) rfl)⟩
theorem lpX12_112 : gLp RX12 112 12 46 (.array .int) true := ⟨RX12, TX12, 47, tyX12, rfl, by decide, inX12, tyX12_ok, nmX12, rfl, tyX12_ok 46 (by decide), rfl, (gT0_tb 917 (by decide +kernel) rfl)⟩
theorem lpX12_115 : gLp RX12 115 12 4 (.int) false := ⟨RX12, TX12, 47, tyX12, rfl, by decide, inX12, tyX12_ok, nmX12, rfl, tyX12_ok 4 (by decide), rfl, (gT0_tb 875 (by decide +kernel) rfl)⟩
theorem lpX12_118 : gLp RX12 118 12 5 (.int) false := ⟨RX12, TX12, 47, tyX12, rfl, by decide, inX12, tyX12_ok, nmX12, rfl, tyX12_ok 5 (by decide), rfl, (gT0_tb 876 (by decide +kernel) rfl)⟩
theorem kcX12_121 : Cond.constantLong RX12 121 (16777215) ∈ gT0 := (gT0_tb 1081 (by decide +kernel) rfl)
theorem kcX12_123 : Cond.constant RX12 123 (16777215) ∈ gT0 := (gT0_tb 1110 (by decide +kernel) rfl)
theorem kcX12_124 : Cond.constant RX12 124 (16777216) ∈ gT0 := (gT0_tb 1135 (by decide +kernel) rfl)
theorem kcX12_125 : Cond.constantLong RX12 125 (16777216) ∈ gT0 := (gT0_tb 1099 (by decide +kernel) rfl)
theorem lkX12_7 : gLk RX12 7 12 0 := ⟨RX12, TX12, 47, rfl, by decide, inX12, Or.inl (gT0_tb 871 (by decide +kernel) rfl)⟩
set_option maxRecDepth 100000 in
theorem slX12_127 : gSl RX12 127 yX12_set cX12_set 7 none 3 := ⟨⟨Or.inl (gT0_tb 1078 (by decide +kernel) rfl), (gT0_tb 14 (by decide +kernel) rfl), (gT0_tb 1080 rfl rfl), by decide +kernel⟩, (gT0_tb 1079 (by decide +kernel) rfl)⟩
theorem lkX12_13 : gLk RX12 13 12 1 := ⟨RX12, TX12, 47, rfl, by decide, inX12, Or.inl (gT0_tb 872 (by decide +kernel) rfl)⟩
set_option maxRecDepth 100000 in
theorem slX12_131 : gSl RX12 131 yX12_bitsOf cX12_bitsOf 4 (some .int) 2 := ⟨⟨Or.inl (gT0_tb 1119 (by decide +kernel) rfl), (gT0_tb 14 (by decide +kernel) rfl), (gT0_tb 1121 rfl rfl), by decide +kernel⟩, (gT0_tb 1120 (by decide +kernel) rfl)⟩
set_option maxRecDepth 100000 in
theorem slX12_135 : gSl RX12 135 yX12_bitAt cX12_bitAt 3 (some .int) 3 := ⟨⟨Or.inl (gT0_tb 1126 (by decide +kernel) rfl), (gT0_tb 14 (by decide +kernel) rfl), (gT0_tb 1128 rfl rfl), by decide +kernel⟩, (gT0_tb 1127 (by decide +kernel) rfl)⟩
set_option maxRecDepth 100000 in
theorem slX12_139 : gSl RX12 139 yX12_twice cX12_twice 6 none 3 := ⟨⟨Or.inl (gT0_tb 1129 (by decide +kernel) rfl), (gT0_tb 14 (by decide +kernel) rfl), (gT0_tb 1131 rfl rfl), by decide +kernel⟩, (gT0_tb 1130 (by decide +kernel) rfl)⟩
set_option maxRecDepth 100000 in
theorem slX12_143 : gSl RX12 143 yX12_compare cX12_compare 5 (some .int) 4 := ⟨⟨Or.inl (gT0_tb 1104 (by decide +kernel) rfl), (gT0_tb 14 (by decide +kernel) rfl), (gT0_tb 1106 rfl rfl), by decide +kernel⟩, (gT0_tb 1105 (by decide +kernel) rfl)⟩
set_option maxRecDepth 100000 in
theorem slX12_147 : gSl RX12 147 yX12_subtract cX12_subtract 7 none 4 := ⟨⟨Or.inl (gT0_tb 1132 (by decide +kernel) rfl), (gT0_tb 14 (by decide +kernel) rfl), (gT0_tb 1134 rfl rfl), by decide +kernel⟩, (gT0_tb 1133 (by decide +kernel) rfl)⟩
theorem lkX12_16 : gLk RX12 16 12 2 := ⟨RX12, TX12, 47, rfl, by decide, inX12, Or.inl (gT0_tb 873 (by decide +kernel) rfl)⟩
set_option maxRecDepth 100000 in
theorem slX12_151 : gSl RX12 151 yX12_copy cX12_copy 5 none 4 := ⟨⟨Or.inl (gT0_tb 1093 (by decide +kernel) rfl), (gT0_tb 14 (by decide +kernel) rfl), (gT0_tb 1095 rfl rfl), by decide +kernel⟩, (gT0_tb 1094 (by decide +kernel) rfl)⟩
theorem lkX12_19 : gLk RX12 19 12 3 := ⟨RX12, TX12, 47, rfl, by decide, inX12, Or.inl (gT0_tb 874 (by decide +kernel) rfl)⟩
set_option maxRecDepth 100000 in
theorem slX12_154 : gVl RX12 154 yX12_part cX12_part 6 none 4 := ⟨⟨Or.inl (gT0_tb 1122 (by decide +kernel) rfl), (gT0_tb 14 (by decide +kernel) rfl), (gT0_tb 1125 rfl rfl), by decide +kernel⟩, (gT0_tb 1124 (by decide +kernel) rfl), (gT0_sl 37 (by decide +kernel) rfl)⟩
theorem kcX12_157 : Cond.constantLong RX12 157 (5) ∈ gT0 := (gT0_tb 1018 (by decide +kernel) rfl)
set_option maxRecDepth 100000 in
theorem slX12_159 : gSl RX12 159 yX12_in cX12_in 6 (some .boolean) 3 := ⟨⟨Or.inl (gT0_tb 1019 (by decide +kernel) rfl), (gT0_tb 14 (by decide +kernel) rfl), (gT0_tb 1021 rfl rfl), by decide +kernel⟩, (gT0_tb 1020 (by decide +kernel) rfl)⟩
theorem lkX12_22 : gLk RX12 22 12 6 := ⟨RX12, TX12, 47, rfl, by decide, inX12, Or.inl (gT0_tb 877 (by decide +kernel) rfl)⟩
theorem lpX12_163 : gLp RX12 163 12 7 (.int) false := ⟨RX12, TX12, 47, tyX12, rfl, by decide, inX12, tyX12_ok, nmX12, rfl, tyX12_ok 7 (by decide), rfl, (gT0_tb 878 (by decide +kernel) rfl)⟩
theorem lkX12_115 : gLk RX12 115 12 4 := ⟨RX12, TX12, 47, rfl, by decide, inX12, Or.inl (gT0_tb 875 (by decide +kernel) rfl)⟩
theorem lkX12_118 : gLk RX12 118 12 5 := ⟨RX12, TX12, 47, rfl, by decide, inX12, Or.inl (gT0_tb 876 (by decide +kernel) rfl)⟩
theorem kcX12_166 : Cond.constantLong RX12 166 (60) ∈ gT0 := (gT0_tb 1026 (by decide +kernel) rfl)
theorem lkX12_163 : gLk RX12 163 12 7 := ⟨RX12, TX12, 47, rfl, by decide, inX12, Or.inl (gT0_tb 878 (by decide +kernel) rfl)⟩
theorem kcX12_168 : Cond.constantLong RX12 168 (3) ∈ gT0 := (gT0_tb 1031 (by decide +kernel) rfl)
set_option maxRecDepth 100000 in
theorem slX12_170 : gVl RX12 170 yX12_marginOfRow cX12_marginOfRow 4 (some .int) 1 := ⟨⟨Or.inl (gT0_tb 1032 (by decide +kernel) rfl), (gT0_tb 14 (by decide +kernel) rfl), (gT0_tb 1035 rfl rfl), by decide +kernel⟩, (gT0_tb 1034 (by decide +kernel) rfl), (gT0_sl 25 (by decide +kernel) rfl)⟩
set_option maxRecDepth 100000 in
theorem slX12_174 : gVl RX12 174 yX12_marginOfColumn cX12_marginOfColumn 4 (some .int) 1 := ⟨⟨Or.inl (gT0_tb 1036 (by decide +kernel) rfl), (gT0_tb 14 (by decide +kernel) rfl), (gT0_tb 1039 rfl rfl), by decide +kernel⟩, (gT0_tb 1038 (by decide +kernel) rfl), (gT0_sl 26 (by decide +kernel) rfl)⟩
theorem kcX12_177 : Cond.constantLong RX12 177 (-1000) ∈ gT0 := (gT0_tb 1044 (by decide +kernel) rfl)
theorem kcX12_179 : Cond.constantLong RX12 179 (1000) ∈ gT0 := (gT0_tb 1045 (by decide +kernel) rfl)
theorem lkX12_28 : gLk RX12 28 12 9 := ⟨RX12, TX12, 47, rfl, by decide, inX12, Or.inl (gT0_tb 880 (by decide +kernel) rfl)⟩
theorem lkX12_25 : gLk RX12 25 12 8 := ⟨RX12, TX12, 47, rfl, by decide, inX12, Or.inl (gT0_tb 879 (by decide +kernel) rfl)⟩
theorem lkX12_181 : gLk RX12 181 12 11 := ⟨RX12, TX12, 47, rfl, by decide, inX12, Or.inl (gT0_tb 882 (by decide +kernel) rfl)⟩
theorem lkX12_31 : gLk RX12 31 12 10 := ⟨RX12, TX12, 47, rfl, by decide, inX12, Or.inl (gT0_tb 881 (by decide +kernel) rfl)⟩
theorem lpX12_181 : gLp RX12 181 12 11 (.int) false := ⟨RX12, TX12, 47, tyX12, rfl, by decide, inX12, tyX12_ok, nmX12, rfl, tyX12_ok 11 (by decide), rfl, (gT0_tb 882 (by decide +kernel) rfl)⟩
theorem lkX12_184 : gLk RX12 184 12 40 := ⟨RX12, TX12, 47, rfl, by decide, inX12, Or.inl (gT0_tb 911 (by decide +kernel) rfl)⟩
theorem lpX12_184 : gLp RX12 184 12 40 (.int) false := ⟨RX12, TX12, 47, tyX12, rfl, by decide, inX12, tyX12_ok, nmX12, rfl, tyX12_ok 40 (by decide), rfl, (gT0_tb 911 (by decide +kernel) rfl)⟩
theorem lkX12_187 : gLk RX12 187 12 45 := ⟨RX12, TX12, 47, rfl, by decide, inX12, Or.inl (gT0_tb 916 (by decide +kernel) rfl)⟩
theorem lpX12_187 : gLp RX12 187 12 45 (.int) false := ⟨RX12, TX12, 47, tyX12, rfl, by decide, inX12, tyX12_ok, nmX12, rfl, tyX12_ok 45 (by decide), rfl, (gT0_tb 916 (by decide +kernel) rfl)⟩
theorem lkX12_38 : gLk RX12 38 12 15 := ⟨RX12, TX12, 47, rfl, by decide, inX12, Or.inl (gT0_tb 886 (by decide +kernel) rfl)⟩
set_option maxRecDepth 100000 in
theorem slX12_190 : gVl RX12 190 yX12_findCommon cX12_findCommon 5 none 4 := ⟨⟨Or.inl (gT0_tb 1115 (by decide +kernel) rfl), (gT0_tb 14 (by decide +kernel) rfl), (gT0_tb 1118 rfl rfl), by decide +kernel⟩, (gT0_tb 1117 (by decide +kernel) rfl), (gT0_sl 36 (by decide +kernel) rfl)⟩
theorem lkX12_41 : gLk RX12 41 12 16 := ⟨RX12, TX12, 47, rfl, by decide, inX12, Or.inl (gT0_tb 887 (by decide +kernel) rfl)⟩
theorem lkX12_55 : gLk RX12 55 12 22 := ⟨RX12, TX12, 47, rfl, by decide, inX12, Or.inl (gT0_tb 893 (by decide +kernel) rfl)⟩
theorem lkX12_49 : gLk RX12 49 12 20 := ⟨RX12, TX12, 47, rfl, by decide, inX12, Or.inl (gT0_tb 891 (by decide +kernel) rfl)⟩
set_option maxRecDepth 100000 in
theorem slX12_193 : gVl RX12 193 yX12_columnLeft cX12_columnLeft 5 (some .int) 2 := ⟨⟨Or.inl (gT0_tb 1070 (by decide +kernel) rfl), (gT0_tb 14 (by decide +kernel) rfl), (gT0_tb 1073 rfl rfl), by decide +kernel⟩, (gT0_tb 1072 (by decide +kernel) rfl), (gT0_sl 30 (by decide +kernel) rfl)⟩
theorem lkX12_52 : gLk RX12 52 12 21 := ⟨RX12, TX12, 47, rfl, by decide, inX12, Or.inl (gT0_tb 892 (by decide +kernel) rfl)⟩
theorem lkX12_58 : gLk RX12 58 12 23 := ⟨RX12, TX12, 47, rfl, by decide, inX12, Or.inl (gT0_tb 894 (by decide +kernel) rfl)⟩
set_option maxRecDepth 100000 in
theorem slX12_197 : gVl RX12 197 yX12_openFrom cX12_openFrom 3 none 1 := ⟨⟨Or.inl (gT0_tb 1062 (by decide +kernel) rfl), (gT0_tb 14 (by decide +kernel) rfl), (gT0_tb 1065 rfl rfl), by decide +kernel⟩, (gT0_tb 1064 (by decide +kernel) rfl), (gT0_sl 28 (by decide +kernel) rfl)⟩
set_option maxRecDepth 100000 in
theorem slX12_201 : gVl RX12 201 yX12_open cX12_open 7 none 1 := ⟨⟨Or.inl (gT0_tb 1066 (by decide +kernel) rfl), (gT0_tb 14 (by decide +kernel) rfl), (gT0_tb 1069 rfl rfl), by decide +kernel⟩, (gT0_tb 1068 (by decide +kernel) rfl), (gT0_sl 29 (by decide +kernel) rfl)⟩
set_option maxRecDepth 100000 in
theorem slX12_204 : gSl RX12 204 yX12_multiply cX12_multiply 6 none 3 := ⟨⟨Or.inl (gT0_tb 1086 (by decide +kernel) rfl), (gT0_tb 14 (by decide +kernel) rfl), (gT0_tb 1088 rfl rfl), by decide +kernel⟩, (gT0_tb 1087 (by decide +kernel) rfl)⟩
theorem lkX12_69 : gLk RX12 69 12 29 := ⟨RX12, TX12, 47, rfl, by decide, inX12, Or.inl (gT0_tb 900 (by decide +kernel) rfl)⟩
set_option maxRecDepth 100000 in
theorem slX12_207 : gSl RX12 207 yX12_divide cX12_divide 6 none 3 := ⟨⟨Or.inl (gT0_tb 1096 (by decide +kernel) rfl), (gT0_tb 14 (by decide +kernel) rfl), (gT0_tb 1098 rfl rfl), by decide +kernel⟩, (gT0_tb 1097 (by decide +kernel) rfl)⟩
set_option maxRecDepth 100000 in
theorem slX12_210 : gVl RX12 210 yX12_firstTable cX12_firstTable 2 none 0 := ⟨⟨Or.inl (gT0_tb 1058 (by decide +kernel) rfl), (gT0_tb 14 (by decide +kernel) rfl), (gT0_tb 1061 rfl rfl), by decide +kernel⟩, (gT0_tb 1060 (by decide +kernel) rfl), (gT0_sl 27 (by decide +kernel) rfl)⟩
set_option maxRecDepth 100000 in
theorem slX12_213 : gVl RX12 213 yX12_nextTable cX12_nextTable 2 (some .boolean) 0 := ⟨⟨Or.inl (gT0_tb 1074 (by decide +kernel) rfl), (gT0_tb 14 (by decide +kernel) rfl), (gT0_tb 1077 rfl rfl), by decide +kernel⟩, (gT0_tb 1076 (by decide +kernel) rfl), (gT0_sl 31 (by decide +kernel) rfl)⟩
set_option maxRecDepth 100000 in
theorem slX12_217 : gVl RX12 217 yX12_timesFactorial cX12_timesFactorial 4 none 2 := ⟨⟨Or.inl (gT0_tb 1082 (by decide +kernel) rfl), (gT0_tb 14 (by decide +kernel) rfl), (gT0_tb 1085 rfl rfl), by decide +kernel⟩, (gT0_tb 1084 (by decide +kernel) rfl), (gT0_sl 32 (by decide +kernel) rfl)⟩
theorem lkX12_75 : gLk RX12 75 12 31 := ⟨RX12, TX12, 47, rfl, by decide, inX12, Or.inl (gT0_tb 902 (by decide +kernel) rfl)⟩
set_option maxRecDepth 100000 in
theorem slX12_221 : gVl RX12 221 yX12_weigh cX12_weigh 5 none 2 := ⟨⟨Or.inl (gT0_tb 1089 (by decide +kernel) rfl), (gT0_tb 14 (by decide +kernel) rfl), (gT0_tb 1092 rfl rfl), by decide +kernel⟩, (gT0_tb 1091 (by decide +kernel) rfl), (gT0_sl 33 (by decide +kernel) rfl)⟩
theorem lkX12_78 : gLk RX12 78 12 32 := ⟨RX12, TX12, 47, rfl, by decide, inX12, Or.inl (gT0_tb 903 (by decide +kernel) rfl)⟩
theorem lkX12_72 : gLk RX12 72 12 30 := ⟨RX12, TX12, 47, rfl, by decide, inX12, Or.inl (gT0_tb 901 (by decide +kernel) rfl)⟩
set_option maxRecDepth 100000 in
theorem slX12_225 : gVl RX12 225 yX12_keepCase cX12_keepCase 3 none 1 := ⟨⟨Or.inl (gT0_tb 1100 (by decide +kernel) rfl), (gT0_tb 14 (by decide +kernel) rfl), (gT0_tb 1103 rfl rfl), by decide +kernel⟩, (gT0_tb 1102 (by decide +kernel) rfl), (gT0_sl 34 (by decide +kernel) rfl)⟩
theorem lpX12_228 : gLp RX12 228 12 25 (.int) false := ⟨RX12, TX12, 47, tyX12, rfl, by decide, inX12, tyX12_ok, nmX12, rfl, tyX12_ok 25 (by decide), rfl, (gT0_tb 896 (by decide +kernel) rfl)⟩
theorem lpX12_231 : gLp RX12 231 12 26 (.int) false := ⟨RX12, TX12, 47, tyX12, rfl, by decide, inX12, tyX12_ok, nmX12, rfl, tyX12_ok 26 (by decide), rfl, (gT0_tb 897 (by decide +kernel) rfl)⟩
theorem lpX12_234 : gLp RX12 234 12 27 (.int) false := ⟨RX12, TX12, 47, tyX12, rfl, by decide, inX12, tyX12_ok, nmX12, rfl, tyX12_ok 27 (by decide), rfl, (gT0_tb 898 (by decide +kernel) rfl)⟩
theorem lpX12_237 : gLp RX12 237 12 13 (.int) false := ⟨RX12, TX12, 47, tyX12, rfl, by decide, inX12, tyX12_ok, nmX12, rfl, tyX12_ok 13 (by decide), rfl, (gT0_tb 884 (by decide +kernel) rfl)⟩
theorem lpX12_240 : gLp RX12 240 12 14 (.int) false := ⟨RX12, TX12, 47, tyX12, rfl, by decide, inX12, tyX12_ok, nmX12, rfl, tyX12_ok 14 (by decide), rfl, (gT0_tb 885 (by decide +kernel) rfl)⟩
set_option maxRecDepth 100000 in
theorem slX12_243 : gVl RX12 243 yX12_shorten cX12_shorten 3 none 1 := ⟨⟨Or.inl (gT0_tb 1111 (by decide +kernel) rfl), (gT0_tb 14 (by decide +kernel) rfl), (gT0_tb 1114 rfl rfl), by decide +kernel⟩, (gT0_tb 1113 (by decide +kernel) rfl), (gT0_sl 35 (by decide +kernel) rfl)⟩
theorem lkX12_62 : gLk RX12 62 12 24 := ⟨RX12, TX12, 47, rfl, by decide, inX12, Or.inl (gT0_tb 895 (by decide +kernel) rfl)⟩
theorem lkX12_66 : gLk RX12 66 12 28 := ⟨RX12, TX12, 47, rfl, by decide, inX12, Or.inl (gT0_tb 899 (by decide +kernel) rfl)⟩
set_option maxRecDepth 100000 in
theorem slX12_247 : gSl RX12 247 yX12_add cX12_add 7 none 4 := ⟨⟨Or.inl (gT0_tb 1107 (by decide +kernel) rfl), (gT0_tb 14 (by decide +kernel) rfl), (gT0_tb 1109 rfl rfl), by decide +kernel⟩, (gT0_tb 1108 (by decide +kernel) rfl)⟩
theorem lkX12_228 : gLk RX12 228 12 25 := ⟨RX12, TX12, 47, rfl, by decide, inX12, Or.inl (gT0_tb 896 (by decide +kernel) rfl)⟩
theorem lkX12_231 : gLk RX12 231 12 26 := ⟨RX12, TX12, 47, rfl, by decide, inX12, Or.inl (gT0_tb 897 (by decide +kernel) rfl)⟩
theorem lkX12_234 : gLk RX12 234 12 27 := ⟨RX12, TX12, 47, rfl, by decide, inX12, Or.inl (gT0_tb 898 (by decide +kernel) rfl)⟩
theorem lkX12_250 : gLk RX12 250 12 34 := ⟨RX12, TX12, 47, rfl, by decide, inX12, Or.inl (gT0_tb 905 (by decide +kernel) rfl)⟩
theorem lkX12_81 : gLk RX12 81 12 33 := ⟨RX12, TX12, 47, rfl, by decide, inX12, Or.inl (gT0_tb 904 (by decide +kernel) rfl)⟩
theorem lpX12_250 : gLp RX12 250 12 34 (.int) false := ⟨RX12, TX12, 47, tyX12, rfl, by decide, inX12, tyX12_ok, nmX12, rfl, tyX12_ok 34 (by decide), rfl, (gT0_tb 905 (by decide +kernel) rfl)⟩
set_option maxRecDepth 100000 in
theorem slX12_253 : gSl RX12 253 yX12_sizeOf cX12_sizeOf 1 (some .int) 1 := ⟨⟨Or.inl (gT0_tb 1153 (by decide +kernel) rfl), (gT0_tb 14 (by decide +kernel) rfl), (gT0_tb 1155 rfl rfl), by decide +kernel⟩, (gT0_tb 1154 (by decide +kernel) rfl)⟩
theorem kcX12_256 : Cond.constantLong RX12 256 (2) ∈ gT0 := (gT0_tb 1148 (by decide +kernel) rfl)
set_option maxRecDepth 100000 in
theorem slX12_258 : gVl RX12 258 yX12_takeSizes cX12_takeSizes 2 none 0 := ⟨⟨Or.inl (gT0_tb 1149 (by decide +kernel) rfl), (gT0_tb 14 (by decide +kernel) rfl), (gT0_tb 1152 rfl rfl), by decide +kernel⟩, (gT0_tb 1151 (by decide +kernel) rfl), (gT0_sl 38 (by decide +kernel) rfl)⟩
set_option maxRecDepth 100000 in
theorem slX12_261 : gVl RX12 261 yX12_rankOf cX12_rankOf 5 (some .int) 1 := ⟨⟨Or.inl (gT0_tb 1156 (by decide +kernel) rfl), (gT0_tb 14 (by decide +kernel) rfl), (gT0_tb 1159 rfl rfl), by decide +kernel⟩, (gT0_tb 1158 (by decide +kernel) rfl), (gT0_sl 39 (by decide +kernel) rfl)⟩
set_option maxRecDepth 100000 in
theorem slX12_264 : gVl RX12 264 yX12_takeSamples cX12_takeSamples 3 none 0 := ⟨⟨Or.inl (gT0_tb 1160 (by decide +kernel) rfl), (gT0_tb 14 (by decide +kernel) rfl), (gT0_tb 1163 rfl rfl), by decide +kernel⟩, (gT0_tb 1162 (by decide +kernel) rfl), (gT0_sl 40 (by decide +kernel) rfl)⟩
theorem kcX12_267 : Cond.constant RX12 267 (-1000000001) ∈ gT0 := (gT0_tb 1168 (by decide +kernel) rfl)
theorem kcX12_268 : Cond.constant RX12 268 (-1000000003) ∈ gT0 := (gT0_tb 1169 (by decide +kernel) rfl)
theorem lkX12_84 : gLk RX12 84 12 35 := ⟨RX12, TX12, 47, rfl, by decide, inX12, Or.inl (gT0_tb 906 (by decide +kernel) rfl)⟩
set_option maxRecDepth 100000 in
theorem slX12_269 : gVl RX12 269 yX12_countWays cX12_countWays 7 none 2 := ⟨⟨Or.inl (gT0_tb 1170 (by decide +kernel) rfl), (gT0_tb 14 (by decide +kernel) rfl), (gT0_tb 1173 rfl rfl), by decide +kernel⟩, (gT0_tb 1172 (by decide +kernel) rfl), (gT0_sl 41 (by decide +kernel) rfl)⟩
theorem lpX12_273 : gLp RX12 273 12 18 (.int) false := ⟨RX12, TX12, 47, tyX12, rfl, by decide, inX12, tyX12_ok, nmX12, rfl, tyX12_ok 18 (by decide), rfl, (gT0_tb 889 (by decide +kernel) rfl)⟩
theorem lpX12_276 : gLp RX12 276 12 19 (.int) false := ⟨RX12, TX12, 47, tyX12, rfl, by decide, inX12, tyX12_ok, nmX12, rfl, tyX12_ok 19 (by decide), rfl, (gT0_tb 890 (by decide +kernel) rfl)⟩
theorem lkX12_273 : gLk RX12 273 12 18 := ⟨RX12, TX12, 47, rfl, by decide, inX12, Or.inl (gT0_tb 889 (by decide +kernel) rfl)⟩
theorem lkX12_45 : gLk RX12 45 12 17 := ⟨RX12, TX12, 47, rfl, by decide, inX12, Or.inl (gT0_tb 888 (by decide +kernel) rfl)⟩
theorem lkX12_88 : gLk RX12 88 12 36 := ⟨RX12, TX12, 47, rfl, by decide, inX12, Or.inl (gT0_tb 907 (by decide +kernel) rfl)⟩
set_option maxRecDepth 100000 in
theorem slX12_279 : gVl RX12 279 yX12_findChances cX12_findChances 18 none 2 := ⟨⟨Or.inl (gT0_tb 1174 (by decide +kernel) rfl), (gT0_tb 14 (by decide +kernel) rfl), (gT0_tb 1177 rfl rfl), by decide +kernel⟩, (gT0_tb 1176 (by decide +kernel) rfl), (gT0_sl 42 (by decide +kernel) rfl)⟩
theorem kcX12_282 : Cond.constant RX12 282 (60000) ∈ gT0 := (gT0_tb 1182 (by decide +kernel) rfl)
theorem lkX12_237 : gLk RX12 237 12 13 := ⟨RX12, TX12, 47, rfl, by decide, inX12, Or.inl (gT0_tb 884 (by decide +kernel) rfl)⟩
theorem lkX12_276 : gLk RX12 276 12 19 := ⟨RX12, TX12, 47, rfl, by decide, inX12, Or.inl (gT0_tb 890 (by decide +kernel) rfl)⟩
theorem lkX12_34 : gLk RX12 34 12 12 := ⟨RX12, TX12, 47, rfl, by decide, inX12, Or.inl (gT0_tb 883 (by decide +kernel) rfl)⟩
theorem kcX12_283 : Cond.constantLong RX12 283 (-3) ∈ gT0 := (gT0_tb 1187 (by decide +kernel) rfl)
set_option maxRecDepth 100000 in
theorem slX12_285 : gSl RX12 285 yX12_isTail cX12_isTail 1 (some .boolean) 1 := ⟨⟨Or.inl (gT0_tb 1192 (by decide +kernel) rfl), (gT0_tb 14 (by decide +kernel) rfl), (gT0_tb 1194 rfl rfl), by decide +kernel⟩, (gT0_tb 1193 (by decide +kernel) rfl)⟩
theorem kcX12_289 : Cond.constantLong RX12 289 (16) ∈ gT0 := (gT0_tb 1202 (by decide +kernel) rfl)
theorem kcX12_291 : Cond.constantLong RX12 291 (960) ∈ gT0 := (gT0_tb 1203 (by decide +kernel) rfl)
set_option maxRecDepth 100000 in
theorem slX12_293 : gSl RX12 293 yX12_wordOf cX12_wordOf 8 (some .int) 3 := ⟨⟨Or.inl (gT0_tb 1199 (by decide +kernel) rfl), (gT0_tb 14 (by decide +kernel) rfl), (gT0_tb 1201 rfl rfl), by decide +kernel⟩, (gT0_tb 1200 (by decide +kernel) rfl)⟩
theorem lkX12_91 : gLk RX12 91 12 37 := ⟨RX12, TX12, 47, rfl, by decide, inX12, Or.inl (gT0_tb 908 (by decide +kernel) rfl)⟩
theorem kcX12_297 : Cond.constantLong RX12 297 (1000000) ∈ gT0 := (gT0_tb 1215 (by decide +kernel) rfl)
set_option maxRecDepth 100000 in
theorem slX12_299 : gSl RX12 299 yX12_isLevel cX12_isLevel 2 (some .boolean) 2 := ⟨⟨Or.inl (gT0_tb 1212 (by decide +kernel) rfl), (gT0_tb 14 (by decide +kernel) rfl), (gT0_tb 1214 rfl rfl), by decide +kernel⟩, (gT0_tb 1213 (by decide +kernel) rfl)⟩
set_option maxRecDepth 100000 in
theorem slX12_303 : gVl RX12 303 yX12_stands cX12_stands 8 (some .int) 7 := ⟨⟨Or.inl (gT0_tb 1216 (by decide +kernel) rfl), (gT0_tb 14 (by decide +kernel) rfl), (gT0_tb 1219 rfl rfl), by decide +kernel⟩, (gT0_tb 1218 (by decide +kernel) rfl), (gT0_sl 43 (by decide +kernel) rfl)⟩
theorem lkX12_240 : gLk RX12 240 12 14 := ⟨RX12, TX12, 47, rfl, by decide, inX12, Or.inl (gT0_tb 885 (by decide +kernel) rfl)⟩
theorem kcX12_307 : Cond.constant RX12 307 (-1000000002) ∈ gT0 := (gT0_tb 1224 (by decide +kernel) rfl)
theorem lkX12_94 : gLk RX12 94 12 38 := ⟨RX12, TX12, 47, rfl, by decide, inX12, Or.inl (gT0_tb 909 (by decide +kernel) rfl)⟩
theorem lkX12_97 : gLk RX12 97 12 39 := ⟨RX12, TX12, 47, rfl, by decide, inX12, Or.inl (gT0_tb 910 (by decide +kernel) rfl)⟩
theorem lkX12_103 : gLk RX12 103 12 42 := ⟨RX12, TX12, 47, rfl, by decide, inX12, Or.inl (gT0_tb 913 (by decide +kernel) rfl)⟩
set_option maxRecDepth 100000 in
theorem slX12_308 : gSl RX12 308 yX12_product cX12_product 9 none 5 := ⟨⟨Or.inl (gT0_tb 1241 (by decide +kernel) rfl), (gT0_tb 14 (by decide +kernel) rfl), (gT0_tb 1243 rfl rfl), by decide +kernel⟩, (gT0_tb 1242 (by decide +kernel) rfl)⟩
theorem lkX12_106 : gLk RX12 106 12 43 := ⟨RX12, TX12, 47, rfl, by decide, inX12, Or.inl (gT0_tb 914 (by decide +kernel) rfl)⟩
theorem lkX12_100 : gLk RX12 100 12 41 := ⟨RX12, TX12, 47, rfl, by decide, inX12, Or.inl (gT0_tb 912 (by decide +kernel) rfl)⟩
set_option maxRecDepth 100000 in
theorem slX12_312 : gVl RX12 312 yX12_isLess cX12_isLess 4 (some .boolean) 2 := ⟨⟨Or.inl (gT0_tb 1237 (by decide +kernel) rfl), (gT0_tb 14 (by decide +kernel) rfl), (gT0_tb 1240 rfl rfl), by decide +kernel⟩, (gT0_tb 1239 (by decide +kernel) rfl), (gT0_sl 45 (by decide +kernel) rfl)⟩
set_option maxRecDepth 100000 in
theorem slX12_315 : gVl RX12 315 yX12_findRejected cX12_findRejected 5 (some .int) 2 := ⟨⟨Or.inl (gT0_tb 1233 (by decide +kernel) rfl), (gT0_tb 14 (by decide +kernel) rfl), (gT0_tb 1236 rfl rfl), by decide +kernel⟩, (gT0_tb 1235 (by decide +kernel) rfl), (gT0_sl 44 (by decide +kernel) rfl)⟩
theorem kcX12_318 : Cond.constantLong RX12 318 (65535) ∈ gT0 := (gT0_tb 1252 (by decide +kernel) rfl)
theorem lkX12_109 : gLk RX12 109 12 44 := ⟨RX12, TX12, 47, rfl, by decide, inX12, Or.inl (gT0_tb 915 (by decide +kernel) rfl)⟩
theorem lkX12_112 : gLk RX12 112 12 46 := ⟨RX12, TX12, 47, rfl, by decide, inX12, Or.inl (gT0_tb 917 (by decide +kernel) rfl)⟩
theorem kcJ6_264 : Cond.constant RJ6 264 (65536) ∈ gT0 := (gT0_tb 707 (by decide +kernel) rfl)
set_option maxRecDepth 100000 in
theorem slJ13_308 : gSl RJ13 308 yJ6_numberOfLeadingZeros_0f7a4 cJ6_numberOfLeadingZeros_0f7a4 2 (some .int) 1 := ⟨⟨Or.inl (gT0_tb 704 (by decide +kernel) rfl), (gT0_tb 17 (by decide +kernel) rfl), (gT0_tb 706 rfl rfl), by decide +kernel⟩, (gT0_tb 705 (by decide +kernel) rfl)⟩
theorem clL_7 : Cond.classLink RL 7 RX11 ∈ gT0 := (gT0_tb 18 (by decide +kernel) rfl)
set_option maxRecDepth 100000 in
theorem slL_9 : gIl RL 9 yX11_init cX11_init 1 0 := ⟨⟨Or.inl (gT0_tb 20 (by decide +kernel) rfl), (gT0_tb 1 (by decide +kernel) rfl), (gT0_tb 22 rfl rfl), by decide +kernel⟩, rfl, (gT0_tb 21 (by decide +kernel) rfl)⟩
theorem clL_10 : Cond.classLink RL 10 RX12 ∈ gT0 := (gT0_tb 862 (by decide +kernel) rfl)
set_option maxRecDepth 100000 in
theorem slL_12 : gIl RL 12 yX12_init cX12_init 1 0 := ⟨⟨Or.inl (gT0_tb 864 (by decide +kernel) rfl), (gT0_tb 14 (by decide +kernel) rfl), (gT0_tb 866 rfl rfl), by decide +kernel⟩, rfl, (gT0_tb 865 (by decide +kernel) rfl)⟩
set_option maxRecDepth 100000 in
theorem slL_13 : gVl RL 13 yX11_table cX11_table 3 (some .int) 2 := ⟨⟨Or.inl (gT0_tb 310 (by decide +kernel) rfl), (gT0_tb 1 (by decide +kernel) rfl), (gT0_tb 313 rfl rfl), by decide +kernel⟩, (gT0_tb 311 (by decide +kernel) rfl), (gT0_tb 312 (by decide +kernel) rfl)⟩
set_option maxRecDepth 100000 in
theorem slL_17 : gVl RL 17 yX12_table cX12_table 4 (some .int) 2 := ⟨⟨Or.inl (gT0_tb 1014 (by decide +kernel) rfl), (gT0_tb 14 (by decide +kernel) rfl), (gT0_tb 1017 rfl rfl), by decide +kernel⟩, (gT0_tb 1015 (by decide +kernel) rfl), (gT0_tb 1016 (by decide +kernel) rfl)⟩
set_option maxRecDepth 100000 in
theorem slL_18 : gVl RL 18 yX11_cell cX11_cell 5 (some .int) 3 := ⟨⟨Or.inl (gT0_tb 321 (by decide +kernel) rfl), (gT0_tb 1 (by decide +kernel) rfl), (gT0_tb 324 rfl rfl), by decide +kernel⟩, (gT0_tb 322 (by decide +kernel) rfl), (gT0_tb 323 (by decide +kernel) rfl)⟩
set_option maxRecDepth 100000 in
theorem slL_22 : gVl RL 22 yX12_cell cX12_cell 6 (some .int) 3 := ⟨⟨Or.inl (gT0_tb 1022 (by decide +kernel) rfl), (gT0_tb 14 (by decide +kernel) rfl), (gT0_tb 1025 rfl rfl), by decide +kernel⟩, (gT0_tb 1023 (by decide +kernel) rfl), (gT0_tb 1024 (by decide +kernel) rfl)⟩
set_option maxRecDepth 100000 in
theorem slL_23 : gVl RL 23 yX11_about cX11_about 6 (some .int) 3 := ⟨⟨Or.inl (gT0_tb 347 (by decide +kernel) rfl), (gT0_tb 1 (by decide +kernel) rfl), (gT0_tb 350 rfl rfl), by decide +kernel⟩, (gT0_tb 348 (by decide +kernel) rfl), (gT0_tb 349 (by decide +kernel) rfl)⟩
set_option maxRecDepth 100000 in
theorem slL_26 : gVl RL 26 yX12_about cX12_about 4 (some .int) 3 := ⟨⟨Or.inl (gT0_tb 1027 (by decide +kernel) rfl), (gT0_tb 14 (by decide +kernel) rfl), (gT0_tb 1030 rfl rfl), by decide +kernel⟩, (gT0_tb 1028 (by decide +kernel) rfl), (gT0_tb 1029 (by decide +kernel) rfl)⟩
set_option maxRecDepth 100000 in
theorem slL_27 : gVl RL 27 yX11_sample cX11_sample 4 (some .int) 2 := ⟨⟨Or.inl (gT0_tb 360 (by decide +kernel) rfl), (gT0_tb 1 (by decide +kernel) rfl), (gT0_tb 363 rfl rfl), by decide +kernel⟩, (gT0_tb 361 (by decide +kernel) rfl), (gT0_tb 362 (by decide +kernel) rfl)⟩
set_option maxRecDepth 100000 in
theorem slL_30 : gVl RL 30 yX12_sample cX12_sample 3 (some .int) 2 := ⟨⟨Or.inl (gT0_tb 1040 (by decide +kernel) rfl), (gT0_tb 14 (by decide +kernel) rfl), (gT0_tb 1043 rfl rfl), by decide +kernel⟩, (gT0_tb 1041 (by decide +kernel) rfl), (gT0_tb 1042 (by decide +kernel) rfl)⟩
set_option maxRecDepth 100000 in
theorem slL_31 : gVl RL 31 yX11_pair cX11_pair 3 (some .int) 2 := ⟨⟨Or.inl (gT0_tb 373 (by decide +kernel) rfl), (gT0_tb 1 (by decide +kernel) rfl), (gT0_tb 376 rfl rfl), by decide +kernel⟩, (gT0_tb 374 (by decide +kernel) rfl), (gT0_tb 375 (by decide +kernel) rfl)⟩
set_option maxRecDepth 100000 in
theorem slL_34 : gVl RL 34 yX12_pair cX12_pair 3 (some .int) 2 := ⟨⟨Or.inl (gT0_tb 1046 (by decide +kernel) rfl), (gT0_tb 14 (by decide +kernel) rfl), (gT0_tb 1049 rfl rfl), by decide +kernel⟩, (gT0_tb 1047 (by decide +kernel) rfl), (gT0_tb 1048 (by decide +kernel) rfl)⟩
set_option maxRecDepth 100000 in
theorem slL_35 : gVl RL 35 yX11_clear cX11_clear 2 (some .int) 1 := ⟨⟨Or.inl (gT0_tb 377 (by decide +kernel) rfl), (gT0_tb 1 (by decide +kernel) rfl), (gT0_tb 380 rfl rfl), by decide +kernel⟩, (gT0_tb 378 (by decide +kernel) rfl), (gT0_tb 379 (by decide +kernel) rfl)⟩
set_option maxRecDepth 100000 in
theorem slL_39 : gVl RL 39 yX12_clear cX12_clear 3 (some .int) 1 := ⟨⟨Or.inl (gT0_tb 1050 (by decide +kernel) rfl), (gT0_tb 14 (by decide +kernel) rfl), (gT0_tb 1053 rfl rfl), by decide +kernel⟩, (gT0_tb 1051 (by decide +kernel) rfl), (gT0_tb 1052 (by decide +kernel) rfl)⟩
set_option maxRecDepth 100000 in
theorem slL_40 : gVl RL 40 yX11_tables cX11_tables 2 (some .int) 0 := ⟨⟨Or.inl (gT0_tb 389 (by decide +kernel) rfl), (gT0_tb 1 (by decide +kernel) rfl), (gT0_tb 392 rfl rfl), by decide +kernel⟩, (gT0_tb 390 (by decide +kernel) rfl), (gT0_tb 391 (by decide +kernel) rfl)⟩
set_option maxRecDepth 100000 in
theorem slL_44 : gVl RL 44 yX12_tables cX12_tables 4 (some .int) 0 := ⟨⟨Or.inl (gT0_tb 1054 (by decide +kernel) rfl), (gT0_tb 14 (by decide +kernel) rfl), (gT0_tb 1057 rfl rfl), by decide +kernel⟩, (gT0_tb 1055 (by decide +kernel) rfl), (gT0_tb 1056 (by decide +kernel) rfl)⟩
set_option maxRecDepth 100000 in
theorem slL_45 : gVl RL 45 yX11_labels cX11_labels 6 (some .int) 1 := ⟨⟨Or.inl (gT0_tb 535 (by decide +kernel) rfl), (gT0_tb 1 (by decide +kernel) rfl), (gT0_tb 538 rfl rfl), by decide +kernel⟩, (gT0_tb 536 (by decide +kernel) rfl), (gT0_tb 537 (by decide +kernel) rfl)⟩
set_option maxRecDepth 100000 in
theorem slL_48 : gVl RL 48 yX12_labels cX12_labels 9 (some .int) 1 := ⟨⟨Or.inl (gT0_tb 1164 (by decide +kernel) rfl), (gT0_tb 14 (by decide +kernel) rfl), (gT0_tb 1167 rfl rfl), by decide +kernel⟩, (gT0_tb 1165 (by decide +kernel) rfl), (gT0_tb 1166 (by decide +kernel) rfl)⟩
set_option maxRecDepth 100000 in
theorem slL_49 : gVl RL 49 yX11_signs cX11_signs 8 (some .int) 1 := ⟨⟨Or.inl (gT0_tb 627 (by decide +kernel) rfl), (gT0_tb 1 (by decide +kernel) rfl), (gT0_tb 630 rfl rfl), by decide +kernel⟩, (gT0_tb 628 (by decide +kernel) rfl), (gT0_tb 629 (by decide +kernel) rfl)⟩
set_option maxRecDepth 100000 in
theorem slL_52 : gVl RL 52 yX12_signs cX12_signs 8 (some .int) 1 := ⟨⟨Or.inl (gT0_tb 1178 (by decide +kernel) rfl), (gT0_tb 14 (by decide +kernel) rfl), (gT0_tb 1181 rfl rfl), by decide +kernel⟩, (gT0_tb 1179 (by decide +kernel) rfl), (gT0_tb 1180 (by decide +kernel) rfl)⟩
set_option maxRecDepth 100000 in
theorem slL_53 : gVl RL 53 yX11_rank cX11_rank 4 (some .int) 2 := ⟨⟨Or.inl (gT0_tb 646 (by decide +kernel) rfl), (gT0_tb 1 (by decide +kernel) rfl), (gT0_tb 649 rfl rfl), by decide +kernel⟩, (gT0_tb 647 (by decide +kernel) rfl), (gT0_tb 648 (by decide +kernel) rfl)⟩
set_option maxRecDepth 100000 in
theorem slL_56 : gVl RL 56 yX12_rank cX12_rank 3 (some .int) 2 := ⟨⟨Or.inl (gT0_tb 1144 (by decide +kernel) rfl), (gT0_tb 14 (by decide +kernel) rfl), (gT0_tb 1147 rfl rfl), by decide +kernel⟩, (gT0_tb 1145 (by decide +kernel) rfl), (gT0_tb 1146 (by decide +kernel) rfl)⟩
set_option maxRecDepth 100000 in
theorem slL_57 : gVl RL 57 yX11_caseAt cX11_caseAt 4 (some .int) 3 := ⟨⟨Or.inl (gT0_tb 651 (by decide +kernel) rfl), (gT0_tb 1 (by decide +kernel) rfl), (gT0_tb 654 rfl rfl), by decide +kernel⟩, (gT0_tb 652 (by decide +kernel) rfl), (gT0_tb 653 (by decide +kernel) rfl)⟩
set_option maxRecDepth 100000 in
theorem slL_60 : gVl RL 60 yX12_caseAt cX12_caseAt 4 (some .int) 3 := ⟨⟨Or.inl (gT0_tb 1136 (by decide +kernel) rfl), (gT0_tb 14 (by decide +kernel) rfl), (gT0_tb 1139 rfl rfl), by decide +kernel⟩, (gT0_tb 1137 (by decide +kernel) rfl), (gT0_tb 1138 (by decide +kernel) rfl)⟩
set_option maxRecDepth 100000 in
theorem slL_61 : gVl RL 61 yX11_weighs cX11_weighs 2 (some .int) 1 := ⟨⟨Or.inl (gT0_tb 673 (by decide +kernel) rfl), (gT0_tb 1 (by decide +kernel) rfl), (gT0_tb 676 rfl rfl), by decide +kernel⟩, (gT0_tb 674 (by decide +kernel) rfl), (gT0_tb 675 (by decide +kernel) rfl)⟩
set_option maxRecDepth 100000 in
theorem slL_64 : gVl RL 64 yX12_weighs cX12_weighs 2 (some .int) 1 := ⟨⟨Or.inl (gT0_tb 1140 (by decide +kernel) rfl), (gT0_tb 14 (by decide +kernel) rfl), (gT0_tb 1143 rfl rfl), by decide +kernel⟩, (gT0_tb 1141 (by decide +kernel) rfl), (gT0_tb 1142 (by decide +kernel) rfl)⟩
set_option maxRecDepth 100000 in
theorem slL_65 : gVl RL 65 yX11_bits cX11_bits 4 (some .int) 2 := ⟨⟨Or.inl (gT0_tb 681 (by decide +kernel) rfl), (gT0_tb 1 (by decide +kernel) rfl), (gT0_tb 684 rfl rfl), by decide +kernel⟩, (gT0_tb 682 (by decide +kernel) rfl), (gT0_tb 683 (by decide +kernel) rfl)⟩
set_option maxRecDepth 100000 in
theorem slL_68 : gVl RL 68 yX12_bits cX12_bits 3 (some .int) 2 := ⟨⟨Or.inl (gT0_tb 1188 (by decide +kernel) rfl), (gT0_tb 14 (by decide +kernel) rfl), (gT0_tb 1191 rfl rfl), by decide +kernel⟩, (gT0_tb 1189 (by decide +kernel) rfl), (gT0_tb 1190 (by decide +kernel) rfl)⟩
set_option maxRecDepth 100000 in
theorem slL_69 : gVl RL 69 yX11_word cX11_word 5 (some .int) 3 := ⟨⟨Or.inl (gT0_tb 708 (by decide +kernel) rfl), (gT0_tb 1 (by decide +kernel) rfl), (gT0_tb 711 rfl rfl), by decide +kernel⟩, (gT0_tb 709 (by decide +kernel) rfl), (gT0_tb 710 (by decide +kernel) rfl)⟩
set_option maxRecDepth 100000 in
theorem slL_72 : gVl RL 72 yX12_word cX12_word 4 (some .int) 3 := ⟨⟨Or.inl (gT0_tb 1195 (by decide +kernel) rfl), (gT0_tb 14 (by decide +kernel) rfl), (gT0_tb 1198 rfl rfl), by decide +kernel⟩, (gT0_tb 1196 (by decide +kernel) rfl), (gT0_tb 1197 (by decide +kernel) rfl)⟩
set_option maxRecDepth 100000 in
theorem slL_73 : gVl RL 73 yX11_figure cX11_figure 4 (some .int) 2 := ⟨⟨Or.inl (gT0_tb 717 (by decide +kernel) rfl), (gT0_tb 1 (by decide +kernel) rfl), (gT0_tb 720 rfl rfl), by decide +kernel⟩, (gT0_tb 718 (by decide +kernel) rfl), (gT0_tb 719 (by decide +kernel) rfl)⟩
set_option maxRecDepth 100000 in
theorem slL_76 : gVl RL 76 yX12_figure cX12_figure 4 (some .int) 2 := ⟨⟨Or.inl (gT0_tb 1204 (by decide +kernel) rfl), (gT0_tb 14 (by decide +kernel) rfl), (gT0_tb 1207 rfl rfl), by decide +kernel⟩, (gT0_tb 1205 (by decide +kernel) rfl), (gT0_tb 1206 (by decide +kernel) rfl)⟩
set_option maxRecDepth 100000 in
theorem slL_77 : gVl RL 77 yX11_against cX11_against 5 (some .int) 3 := ⟨⟨Or.inl (gT0_tb 736 (by decide +kernel) rfl), (gT0_tb 1 (by decide +kernel) rfl), (gT0_tb 739 rfl rfl), by decide +kernel⟩, (gT0_tb 737 (by decide +kernel) rfl), (gT0_tb 738 (by decide +kernel) rfl)⟩
set_option maxRecDepth 100000 in
theorem slL_80 : gVl RL 80 yX12_against cX12_against 4 (some .int) 3 := ⟨⟨Or.inl (gT0_tb 1208 (by decide +kernel) rfl), (gT0_tb 14 (by decide +kernel) rfl), (gT0_tb 1211 rfl rfl), by decide +kernel⟩, (gT0_tb 1209 (by decide +kernel) rfl), (gT0_tb 1210 (by decide +kernel) rfl)⟩
set_option maxRecDepth 100000 in
theorem slL_81 : gVl RL 81 yX11_result cX11_result 2 (some .int) 1 := ⟨⟨Or.inl (gT0_tb 748 (by decide +kernel) rfl), (gT0_tb 1 (by decide +kernel) rfl), (gT0_tb 751 rfl rfl), by decide +kernel⟩, (gT0_tb 749 (by decide +kernel) rfl), (gT0_tb 750 (by decide +kernel) rfl)⟩
set_option maxRecDepth 100000 in
theorem slL_84 : gVl RL 84 yX12_result cX12_result 2 (some .int) 1 := ⟨⟨Or.inl (gT0_tb 1220 (by decide +kernel) rfl), (gT0_tb 14 (by decide +kernel) rfl), (gT0_tb 1223 rfl rfl), by decide +kernel⟩, (gT0_tb 1221 (by decide +kernel) rfl), (gT0_tb 1222 (by decide +kernel) rfl)⟩
set_option maxRecDepth 100000 in
theorem slL_85 : gVl RL 85 yX11_ways cX11_ways 2 (some .long) 1 := ⟨⟨Or.inl (gT0_tb 765 (by decide +kernel) rfl), (gT0_tb 1 (by decide +kernel) rfl), (gT0_tb 768 rfl rfl), by decide +kernel⟩, (gT0_tb 766 (by decide +kernel) rfl), (gT0_tb 767 (by decide +kernel) rfl)⟩
set_option maxRecDepth 100000 in
theorem slL_89 : gVl RL 89 yX12_ways cX12_ways 2 (some .long) 1 := ⟨⟨Or.inl (gT0_tb 1183 (by decide +kernel) rfl), (gT0_tb 14 (by decide +kernel) rfl), (gT0_tb 1186 rfl rfl), by decide +kernel⟩, (gT0_tb 1184 (by decide +kernel) rfl), (gT0_tb 1185 (by decide +kernel) rfl)⟩
set_option maxRecDepth 100000 in
theorem slL_90 : gVl RL 90 yX11_note cX11_note 3 (some .int) 1 := ⟨⟨Or.inl (gT0_tb 772 (by decide +kernel) rfl), (gT0_tb 1 (by decide +kernel) rfl), (gT0_tb 775 rfl rfl), by decide +kernel⟩, (gT0_tb 773 (by decide +kernel) rfl), (gT0_tb 774 (by decide +kernel) rfl)⟩
set_option maxRecDepth 100000 in
theorem slL_93 : gVl RL 93 yX12_note cX12_note 2 (some .int) 1 := ⟨⟨Or.inl (gT0_tb 1225 (by decide +kernel) rfl), (gT0_tb 14 (by decide +kernel) rfl), (gT0_tb 1228 rfl rfl), by decide +kernel⟩, (gT0_tb 1226 (by decide +kernel) rfl), (gT0_tb 1227 (by decide +kernel) rfl)⟩
set_option maxRecDepth 100000 in
theorem slL_94 : gVl RL 94 yX11_rejected cX11_rejected 3 (some .int) 2 := ⟨⟨Or.inl (gT0_tb 797 (by decide +kernel) rfl), (gT0_tb 1 (by decide +kernel) rfl), (gT0_tb 800 rfl rfl), by decide +kernel⟩, (gT0_tb 798 (by decide +kernel) rfl), (gT0_tb 799 (by decide +kernel) rfl)⟩
set_option maxRecDepth 100000 in
theorem slL_97 : gVl RL 97 yX12_rejected cX12_rejected 3 (some .int) 2 := ⟨⟨Or.inl (gT0_tb 1229 (by decide +kernel) rfl), (gT0_tb 14 (by decide +kernel) rfl), (gT0_tb 1232 rfl rfl), by decide +kernel⟩, (gT0_tb 1230 (by decide +kernel) rfl), (gT0_tb 1231 (by decide +kernel) rfl)⟩
set_option maxRecDepth 100000 in
theorem slL_98 : gVl RL 98 yX11_isRejected cX11_isRejected 4 (some .int) 3 := ⟨⟨Or.inl (gT0_tb 806 (by decide +kernel) rfl), (gT0_tb 1 (by decide +kernel) rfl), (gT0_tb 809 rfl rfl), by decide +kernel⟩, (gT0_tb 807 (by decide +kernel) rfl), (gT0_tb 808 (by decide +kernel) rfl)⟩
set_option maxRecDepth 100000 in
theorem slL_101 : gVl RL 101 yX12_isRejected cX12_isRejected 7 (some .int) 3 := ⟨⟨Or.inl (gT0_tb 1244 (by decide +kernel) rfl), (gT0_tb 14 (by decide +kernel) rfl), (gT0_tb 1247 rfl rfl), by decide +kernel⟩, (gT0_tb 1245 (by decide +kernel) rfl), (gT0_tb 1246 (by decide +kernel) rfl)⟩
set_option maxRecDepth 100000 in
theorem slL_102 : gVl RL 102 yX11_claim cX11_claim 2 (some .int) 1 := ⟨⟨Or.inl (gT0_tb 818 (by decide +kernel) rfl), (gT0_tb 1 (by decide +kernel) rfl), (gT0_tb 821 rfl rfl), by decide +kernel⟩, (gT0_tb 819 (by decide +kernel) rfl), (gT0_tb 820 (by decide +kernel) rfl)⟩
set_option maxRecDepth 100000 in
theorem slL_105 : gVl RL 105 yX12_claim cX12_claim 2 (some .int) 1 := ⟨⟨Or.inl (gT0_tb 1248 (by decide +kernel) rfl), (gT0_tb 14 (by decide +kernel) rfl), (gT0_tb 1251 rfl rfl), by decide +kernel⟩, (gT0_tb 1249 (by decide +kernel) rfl), (gT0_tb 1250 (by decide +kernel) rfl)⟩
set_option maxRecDepth 100000 in
theorem slL_106 : gVl RL 106 yX11_check cX11_check 7 (some .int) 1 := ⟨⟨Or.inl (gT0_tb 823 (by decide +kernel) rfl), (gT0_tb 1 (by decide +kernel) rfl), (gT0_tb 826 rfl rfl), by decide +kernel⟩, (gT0_tb 824 (by decide +kernel) rfl), (gT0_tb 825 (by decide +kernel) rfl)⟩
set_option maxRecDepth 100000 in
theorem slL_109 : gVl RL 109 yX12_check cX12_check 6 (some .int) 1 := ⟨⟨Or.inl (gT0_tb 1253 (by decide +kernel) rfl), (gT0_tb 14 (by decide +kernel) rfl), (gT0_tb 1256 rfl rfl), by decide +kernel⟩, (gT0_tb 1254 (by decide +kernel) rfl), (gT0_tb 1255 (by decide +kernel) rfl)⟩
set_option maxRecDepth 100000 in
theorem slL_110 : gVl RL 110 yX11_shift cX11_shift 2 (some .int) 0 := ⟨⟨Or.inl (gT0_tb 842 (by decide +kernel) rfl), (gT0_tb 1 (by decide +kernel) rfl), (gT0_tb 845 rfl rfl), by decide +kernel⟩, (gT0_tb 843 (by decide +kernel) rfl), (gT0_tb 844 (by decide +kernel) rfl)⟩
set_option maxRecDepth 100000 in
theorem slL_113 : gVl RL 113 yX12_shift cX12_shift 6 (some .int) 0 := ⟨⟨Or.inl (gT0_tb 1257 (by decide +kernel) rfl), (gT0_tb 14 (by decide +kernel) rfl), (gT0_tb 1260 rfl rfl), by decide +kernel⟩, (gT0_tb 1258 (by decide +kernel) rfl), (gT0_tb 1259 (by decide +kernel) rfl)⟩
set_option maxRecDepth 100000 in
theorem slL_114 : gVl RL 114 yX11_told cX11_told 2 (some .int) 1 := ⟨⟨Or.inl (gT0_tb 854 (by decide +kernel) rfl), (gT0_tb 1 (by decide +kernel) rfl), (gT0_tb 857 rfl rfl), by decide +kernel⟩, (gT0_tb 855 (by decide +kernel) rfl), (gT0_tb 856 (by decide +kernel) rfl)⟩
set_option maxRecDepth 100000 in
theorem slL_117 : gVl RL 117 yX12_told cX12_told 2 (some .int) 1 := ⟨⟨Or.inl (gT0_tb 1261 (by decide +kernel) rfl), (gT0_tb 14 (by decide +kernel) rfl), (gT0_tb 1264 rfl rfl), by decide +kernel⟩, (gT0_tb 1262 (by decide +kernel) rfl), (gT0_tb 1263 (by decide +kernel) rfl)⟩
theorem isX0 : Cond.instantiable RX0 5 ∈ gT0 ∧ Cond.initialized RX0 ∈ gT0 := ⟨(gT0_tb 132 (by decide +kernel) rfl), (gT0_tb 7 (by decide +kernel) rfl)⟩
theorem isX1 : Cond.instantiable RX1 4 ∈ gT0 ∧ Cond.initialized RX1 ∈ gT0 := ⟨(gT0_tb 256 (by decide +kernel) rfl), (gT0_tb 13 (by decide +kernel) rfl)⟩
theorem isX2 : Cond.instantiable RX2 2 ∈ gT0 ∧ Cond.initialized RX2 ∈ gT0 := ⟨(gT0_tb 208 (by decide +kernel) rfl), (gT0_tb 11 (by decide +kernel) rfl)⟩
theorem isX3 : Cond.instantiable RX3 3 ∈ gT0 ∧ Cond.initialized RX3 ∈ gT0 := ⟨(gT0_tb 27 (by decide +kernel) rfl), (gT0_tb 2 (by decide +kernel) rfl)⟩
theorem isX4 : Cond.instantiable RX4 3 ∈ gT0 ∧ Cond.initialized RX4 ∈ gT0 := ⟨(gT0_tb 160 (by decide +kernel) rfl), (gT0_tb 9 (by decide +kernel) rfl)⟩
theorem isX5 : Cond.instantiable RX5 2 ∈ gT0 ∧ Cond.initialized RX5 ∈ gT0 := ⟨(gT0_tb 44 (by decide +kernel) rfl), (gT0_tb 3 (by decide +kernel) rfl)⟩
theorem isX6 : Cond.instantiable RX6 5 ∈ gT0 ∧ Cond.initialized RX6 ∈ gT0 := ⟨(gT0_tb 201 (by decide +kernel) rfl), (gT0_tb 10 (by decide +kernel) rfl)⟩
theorem isX7 : Cond.instantiable RX7 2 ∈ gT0 ∧ Cond.initialized RX7 ∈ gT0 := ⟨(gT0_tb 241 (by decide +kernel) rfl), (gT0_tb 12 (by decide +kernel) rfl)⟩
theorem isX8 : Cond.instantiable RX8 7 ∈ gT0 ∧ Cond.initialized RX8 ∈ gT0 := ⟨(gT0_tb 154 (by decide +kernel) rfl), (gT0_tb 8 (by decide +kernel) rfl)⟩
theorem isX9 : Cond.instantiable RX9 15 ∈ gT0 ∧ Cond.initialized RX9 ∈ gT0 := ⟨(gT0_tb 60 (by decide +kernel) rfl), (gT0_tb 5 (by decide +kernel) rfl)⟩
theorem isX10 : Cond.instantiable RX10 2 ∈ gT0 ∧ Cond.initialized RX10 ∈ gT0 := ⟨(gT0_tb 67 (by decide +kernel) rfl), (gT0_tb 6 (by decide +kernel) rfl)⟩
theorem isX11 : Cond.instantiable RX11 11 ∈ gT0 ∧ Cond.initialized RX11 ∈ gT0 := ⟨(gT0_tb 19 (by decide +kernel) rfl), (gT0_tb 1 (by decide +kernel) rfl)⟩
theorem isX12 : Cond.instantiable RX12 47 ∈ gT0 ∧ Cond.initialized RX12 ∈ gT0 := ⟨(gT0_tb 863 (by decide +kernel) rfl), (gT0_tb 14 (by decide +kernel) rfl)⟩
theorem ojI : Cond.instanceMethod Lib.objectInit ∈ gT0 := (gT0_tb 24 (by decide +kernel) rfl)
theorem ojC : Cond.code Lib.objectInit ⟨#[0xb1]⟩ 1 none ∈ gT0 := (gT0_tb 25 rfl rfl)
theorem ac_int : Cond.arrayClass .int ∈ gT0 := (gT0_tb 42 (by decide +kernel) rfl)
theorem ac_long : Cond.arrayClass .long ∈ gT0 := (gT0_tb 79 (by decide +kernel) rfl)
theorem ac_byte : Cond.arrayClass .byte ∈ gT0 := (gT0_tb 1013 (by decide +kernel) rfl)
