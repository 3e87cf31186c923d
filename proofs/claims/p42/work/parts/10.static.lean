/-! STATIC: the tables' words by their places (written by gen/static.py) -/
theorem xmem {w : Cond} {i : Nat} (h : lw_tbl[i]? = some w) (hg : xgood w = true) : w ∈ xall := List.mem_filter.mpr ⟨List.mem_of_getElem? h, hg⟩
theorem ly0_0 : u_lay RX0 TX0 0 ∈ xall := xmem (i := 155) (by decide +kernel) (by decide +kernel)
theorem ly0_1 : u_lay RX0 TX0 1 ∈ xall := xmem (i := 157) (by decide +kernel) (by decide +kernel)
theorem ly0_2 : u_lay RX0 TX0 2 ∈ xall := xmem (i := 159) (by decide +kernel) (by decide +kernel)
theorem ly0_3 : u_lay RX0 TX0 3 ∈ xall := xmem (i := 161) (by decide +kernel) (by decide +kernel)
theorem ly0_4 : u_lay RX0 TX0 4 ∈ xall := xmem (i := 163) (by decide +kernel) (by decide +kernel)
theorem ly0_5 : u_lay RX0 TX0 5 ∈ xall := xmem (i := 165) (by decide +kernel) (by decide +kernel)
theorem in0 : ∀ q ∈ u_ws RX0 TX0 6, q ∈ xall := by
  intro q hq
  obtain ⟨k, hk, rfl⟩ := List.mem_map.mp hq
  have hk := List.mem_range.mp hk
  match k, hk with
  | 0, _ => exact ly0_0
  | 1, _ => exact ly0_1
  | 2, _ => exact ly0_2
  | 3, _ => exact ly0_3
  | 4, _ => exact ly0_4
  | 5, _ => exact ly0_5
  | k + 6, h => exact absurd h (by omega)
theorem ly2_0 : u_lay RX2 TX2 0 ∈ xall := xmem (i := 222) (by decide +kernel) (by decide +kernel)
theorem in2 : ∀ q ∈ u_ws RX2 TX2 1, q ∈ xall := by
  intro q hq
  obtain ⟨k, hk, rfl⟩ := List.mem_map.mp hq
  have hk := List.mem_range.mp hk
  match k, hk with
  | 0, _ => exact ly2_0
  | k + 1, h => exact absurd h (by omega)
theorem ly3_0 : u_lay RX3 TX3 0 ∈ xall := xmem (i := 250) (by decide +kernel) (by decide +kernel)
theorem ly3_1 : u_lay RX3 TX3 1 ∈ xall := xmem (i := 252) (by decide +kernel) (by decide +kernel)
theorem ly3_2 : u_lay RX3 TX3 2 ∈ xall := xmem (i := 254) (by decide +kernel) (by decide +kernel)
theorem in3 : ∀ q ∈ u_ws RX3 TX3 3, q ∈ xall := by
  intro q hq
  obtain ⟨k, hk, rfl⟩ := List.mem_map.mp hq
  have hk := List.mem_range.mp hk
  match k, hk with
  | 0, _ => exact ly3_0
  | 1, _ => exact ly3_1
  | 2, _ => exact ly3_2
  | k + 3, h => exact absurd h (by omega)
theorem ly4_0 : u_lay RX4 TX4 0 ∈ xall := xmem (i := 120) (by decide +kernel) (by decide +kernel)
theorem ly4_1 : u_lay RX4 TX4 1 ∈ xall := xmem (i := 122) (by decide +kernel) (by decide +kernel)
theorem ly4_2 : u_lay RX4 TX4 2 ∈ xall := xmem (i := 124) (by decide +kernel) (by decide +kernel)
theorem ly4_3 : u_lay RX4 TX4 3 ∈ xall := xmem (i := 126) (by decide +kernel) (by decide +kernel)
theorem ly4_4 : u_lay RX4 TX4 4 ∈ xall := xmem (i := 128) (by decide +kernel) (by decide +kernel)
theorem ly4_5 : u_lay RX4 TX4 5 ∈ xall := xmem (i := 130) (by decide +kernel) (by decide +kernel)
theorem ly4_6 : u_lay RX4 TX4 6 ∈ xall := xmem (i := 132) (by decide +kernel) (by decide +kernel)
theorem ly4_7 : u_lay RX4 TX4 7 ∈ xall := xmem (i := 134) (by decide +kernel) (by decide +kernel)
theorem ly4_8 : u_lay RX4 TX4 8 ∈ xall := xmem (i := 136) (by decide +kernel) (by decide +kernel)
theorem ly4_9 : u_lay RX4 TX4 9 ∈ xall := xmem (i := 138) (by decide +kernel) (by decide +kernel)
theorem in4 : ∀ q ∈ u_ws RX4 TX4 10, q ∈ xall := by
  intro q hq
  obtain ⟨k, hk, rfl⟩ := List.mem_map.mp hq
  have hk := List.mem_range.mp hk
  match k, hk with
  | 0, _ => exact ly4_0
  | 1, _ => exact ly4_1
  | 2, _ => exact ly4_2
  | 3, _ => exact ly4_3
  | 4, _ => exact ly4_4
  | 5, _ => exact ly4_5
  | 6, _ => exact ly4_6
  | 7, _ => exact ly4_7
  | 8, _ => exact ly4_8
  | 9, _ => exact ly4_9
  | k + 10, h => exact absurd h (by omega)
theorem ly5_0 : u_lay RX5 TX5 0 ∈ xall := xmem (i := 186) (by decide +kernel) (by decide +kernel)
theorem ly5_1 : u_lay RX5 TX5 1 ∈ xall := xmem (i := 188) (by decide +kernel) (by decide +kernel)
theorem ly5_2 : u_lay RX5 TX5 2 ∈ xall := xmem (i := 190) (by decide +kernel) (by decide +kernel)
theorem ly5_3 : u_lay RX5 TX5 3 ∈ xall := xmem (i := 192) (by decide +kernel) (by decide +kernel)
theorem ly5_4 : u_lay RX5 TX5 4 ∈ xall := xmem (i := 194) (by decide +kernel) (by decide +kernel)
theorem ly5_5 : u_lay RX5 TX5 5 ∈ xall := xmem (i := 196) (by decide +kernel) (by decide +kernel)
theorem in5 : ∀ q ∈ u_ws RX5 TX5 6, q ∈ xall := by
  intro q hq
  obtain ⟨k, hk, rfl⟩ := List.mem_map.mp hq
  have hk := List.mem_range.mp hk
  match k, hk with
  | 0, _ => exact ly5_0
  | 1, _ => exact ly5_1
  | 2, _ => exact ly5_2
  | 3, _ => exact ly5_3
  | 4, _ => exact ly5_4
  | 5, _ => exact ly5_5
  | k + 6, h => exact absurd h (by omega)
theorem ly6_0 : u_lay RX6 TX6 0 ∈ xall := xmem (i := 265) (by decide +kernel) (by decide +kernel)
theorem ly6_1 : u_lay RX6 TX6 1 ∈ xall := xmem (i := 267) (by decide +kernel) (by decide +kernel)
theorem in6 : ∀ q ∈ u_ws RX6 TX6 2, q ∈ xall := by
  intro q hq
  obtain ⟨k, hk, rfl⟩ := List.mem_map.mp hq
  have hk := List.mem_range.mp hk
  match k, hk with
  | 0, _ => exact ly6_0
  | 1, _ => exact ly6_1
  | k + 2, h => exact absurd h (by omega)
theorem ly7_0 : u_lay RX7 TX7 0 ∈ xall := xmem (i := 74) (by decide +kernel) (by decide +kernel)
theorem ly7_1 : u_lay RX7 TX7 1 ∈ xall := xmem (i := 76) (by decide +kernel) (by decide +kernel)
theorem ly7_2 : u_lay RX7 TX7 2 ∈ xall := xmem (i := 78) (by decide +kernel) (by decide +kernel)
theorem ly7_3 : u_lay RX7 TX7 3 ∈ xall := xmem (i := 80) (by decide +kernel) (by decide +kernel)
theorem in7 : ∀ q ∈ u_ws RX7 TX7 4, q ∈ xall := by
  intro q hq
  obtain ⟨k, hk, rfl⟩ := List.mem_map.mp hq
  have hk := List.mem_range.mp hk
  match k, hk with
  | 0, _ => exact ly7_0
  | 1, _ => exact ly7_1
  | 2, _ => exact ly7_2
  | 3, _ => exact ly7_3
  | k + 4, h => exact absurd h (by omega)
theorem ly8_0 : u_lay RX8 TX8 0 ∈ xall := xmem (i := 208) (by decide +kernel) (by decide +kernel)
theorem ly8_1 : u_lay RX8 TX8 1 ∈ xall := xmem (i := 210) (by decide +kernel) (by decide +kernel)
theorem in8 : ∀ q ∈ u_ws RX8 TX8 2, q ∈ xall := by
  intro q hq
  obtain ⟨k, hk, rfl⟩ := List.mem_map.mp hq
  have hk := List.mem_range.mp hk
  match k, hk with
  | 0, _ => exact ly8_0
  | 1, _ => exact ly8_1
  | k + 2, h => exact absurd h (by omega)
theorem ly9_0 : u_lay RX9 TX9 0 ∈ xall := xmem (i := 234) (by decide +kernel) (by decide +kernel)
theorem in9 : ∀ q ∈ u_ws RX9 TX9 1, q ∈ xall := by
  intro q hq
  obtain ⟨k, hk, rfl⟩ := List.mem_map.mp hq
  have hk := List.mem_range.mp hk
  match k, hk with
  | 0, _ => exact ly9_0
  | k + 1, h => exact absurd h (by omega)
theorem ly10_0 : u_lay RX10 TX10 0 ∈ xall := xmem (i := 280) (by decide +kernel) (by decide +kernel)
theorem ly10_1 : u_lay RX10 TX10 1 ∈ xall := xmem (i := 282) (by decide +kernel) (by decide +kernel)
theorem ly10_2 : u_lay RX10 TX10 2 ∈ xall := xmem (i := 284) (by decide +kernel) (by decide +kernel)
theorem ly10_3 : u_lay RX10 TX10 3 ∈ xall := xmem (i := 286) (by decide +kernel) (by decide +kernel)
theorem ly10_4 : u_lay RX10 TX10 4 ∈ xall := xmem (i := 288) (by decide +kernel) (by decide +kernel)
theorem ly10_5 : u_lay RX10 TX10 5 ∈ xall := xmem (i := 290) (by decide +kernel) (by decide +kernel)
theorem ly10_6 : u_lay RX10 TX10 6 ∈ xall := xmem (i := 292) (by decide +kernel) (by decide +kernel)
theorem ly10_7 : u_lay RX10 TX10 7 ∈ xall := xmem (i := 294) (by decide +kernel) (by decide +kernel)
theorem ly10_8 : u_lay RX10 TX10 8 ∈ xall := xmem (i := 296) (by decide +kernel) (by decide +kernel)
theorem ly10_9 : u_lay RX10 TX10 9 ∈ xall := xmem (i := 298) (by decide +kernel) (by decide +kernel)
theorem in10 : ∀ q ∈ u_ws RX10 TX10 10, q ∈ xall := by
  intro q hq
  obtain ⟨k, hk, rfl⟩ := List.mem_map.mp hq
  have hk := List.mem_range.mp hk
  match k, hk with
  | 0, _ => exact ly10_0
  | 1, _ => exact ly10_1
  | 2, _ => exact ly10_2
  | 3, _ => exact ly10_3
  | 4, _ => exact ly10_4
  | 5, _ => exact ly10_5
  | 6, _ => exact ly10_6
  | 7, _ => exact ly10_7
  | 8, _ => exact ly10_8
  | 9, _ => exact ly10_9
  | k + 10, h => exact absurd h (by omega)
theorem iniL : Cond.initialized RL ∈ xall := xmem (i := 18) (by decide +kernel) (by decide +kernel)
theorem iniX10 : Cond.initialized RX10 ∈ xall := xmem (i := 19) (by decide +kernel) (by decide +kernel)
theorem iniX0 : Cond.initialized RX0 ∈ xall := xmem (i := 20) (by decide +kernel) (by decide +kernel)
theorem iniX7 : Cond.initialized RX7 ∈ xall := xmem (i := 21) (by decide +kernel) (by decide +kernel)
theorem iniX4 : Cond.initialized RX4 ∈ xall := xmem (i := 22) (by decide +kernel) (by decide +kernel)
theorem iniX5 : Cond.initialized RX5 ∈ xall := xmem (i := 23) (by decide +kernel) (by decide +kernel)
theorem iniX8 : Cond.initialized RX8 ∈ xall := xmem (i := 24) (by decide +kernel) (by decide +kernel)
theorem iniX2 : Cond.initialized RX2 ∈ xall := xmem (i := 25) (by decide +kernel) (by decide +kernel)
theorem iniX9 : Cond.initialized RX9 ∈ xall := xmem (i := 26) (by decide +kernel) (by decide +kernel)
theorem iniX3 : Cond.initialized RX3 ∈ xall := xmem (i := 27) (by decide +kernel) (by decide +kernel)
theorem iniX6 : Cond.initialized RX6 ∈ xall := xmem (i := 28) (by decide +kernel) (by decide +kernel)
theorem inijavalangThrowable : Cond.initialized "java/lang/Throwable" ∈ xall := xmem (i := 29) (by decide +kernel) (by decide +kernel)
theorem inijavalangException : Cond.initialized "java/lang/Exception" ∈ xall := xmem (i := 30) (by decide +kernel) (by decide +kernel)
theorem inijavalangRuntimeException : Cond.initialized "java/lang/RuntimeException" ∈ xall := xmem (i := 31) (by decide +kernel) (by decide +kernel)
theorem inijavalangIllegalArgumentException : Cond.initialized "java/lang/IllegalArgumentException" ∈ xall := xmem (i := 32) (by decide +kernel) (by decide +kernel)
theorem inijavalangIllegalStateException : Cond.initialized "java/lang/IllegalStateException" ∈ xall := xmem (i := 33) (by decide +kernel) (by decide +kernel)
theorem iniJ9 : Cond.initialized RJ9 ∈ xall := xmem (i := 34) (by decide +kernel) (by decide +kernel)
theorem inijavalangIndexOutOfBoundsException : Cond.initialized "java/lang/IndexOutOfBoundsException" ∈ xall := xmem (i := 35) (by decide +kernel) (by decide +kernel)
theorem iniX1 : Cond.initialized RX1 ∈ xall := xmem (i := 36) (by decide +kernel) (by decide +kernel)
theorem iniJ10 : Cond.initialized RJ10 ∈ xall := xmem (i := 37) (by decide +kernel) (by decide +kernel)
theorem inijavautilNoSuchElementException : Cond.initialized "java/util/NoSuchElementException" ∈ xall := xmem (i := 38) (by decide +kernel) (by decide +kernel)
theorem inijavalangUnsupportedOperationException : Cond.initialized "java/lang/UnsupportedOperationException" ∈ xall := xmem (i := 39) (by decide +kernel) (by decide +kernel)
theorem iniJxd2413 : Cond.initialized RJxd2413 ∈ xall := xmem (i := 40) (by decide +kernel) (by decide +kernel)
theorem iniJxf58ca : Cond.initialized RJxf58ca ∈ xall := xmem (i := 41) (by decide +kernel) (by decide +kernel)
theorem iniJxe99ae : Cond.initialized RJxe99ae ∈ xall := xmem (i := 42) (by decide +kernel) (by decide +kernel)
theorem cL_15 : Cond.classLink RL 15 RX10 ∈ xall := xmem (i := 43) (by decide +kernel) (by decide +kernel)
theorem instX10 : Cond.instantiable RX10 10 ∈ xall := xmem (i := 44) (by decide +kernel) (by decide +kernel)
theorem lL_145 : Cond.methodLink RL 145 yX10_init ∈ xall := xmem (i := 45) (by decide +kernel) (by decide +kernel)
theorem iX10_init : Cond.instanceMethod yX10_init ∈ xall := xmem (i := 46) (by decide +kernel) (by decide +kernel)
theorem lX10_1 : Cond.methodLink RX10 1 ⟨"java/lang/Object", "<init>", "()V"⟩ ∈ xall := xmem (i := 48) (by decide +kernel) (by decide +kernel)
theorem ijavalangObject_initV : Cond.instanceMethod ⟨"java/lang/Object", "<init>", "()V"⟩ ∈ xall := xmem (i := 49) (by decide +kernel) (by decide +kernel)
theorem cX10_7 : Cond.classLink RX10 7 RX0 ∈ xall := xmem (i := 51) (by decide +kernel) (by decide +kernel)
theorem instX0 : Cond.instantiable RX0 6 ∈ xall := xmem (i := 52) (by decide +kernel) (by decide +kernel)
theorem nX10_9 : Cond.methodLinkNest RX10 9 yX0_init "BillOfMaterials" ∈ xall := xmem (i := 53) (by decide +kernel) (by decide +kernel)
theorem iX0_init : Cond.instanceMethod yX0_init ∈ xall := xmem (i := 54) (by decide +kernel) (by decide +kernel)
theorem lX0_3 : Cond.methodLink RX0 3 ⟨"java/lang/Object", "<init>", "()V"⟩ ∈ xall := xmem (i := 56) (by decide +kernel) (by decide +kernel)
theorem cX0_9 : Cond.classLink RX0 9 RX7 ∈ xall := xmem (i := 57) (by decide +kernel) (by decide +kernel)
theorem instX7 : Cond.instantiable RX7 4 ∈ xall := xmem (i := 58) (by decide +kernel) (by decide +kernel)
theorem nX0_11 : Cond.methodLinkNest RX0 11 yX7_init "BillOfMaterials" ∈ xall := xmem (i := 59) (by decide +kernel) (by decide +kernel)
theorem iX7_init : Cond.instanceMethod yX7_init ∈ xall := xmem (i := 60) (by decide +kernel) (by decide +kernel)
theorem lX7_3 : Cond.methodLink RX7 3 ⟨"java/lang/Object", "<init>", "()V"⟩ ∈ xall := xmem (i := 62) (by decide +kernel) (by decide +kernel)
theorem fX7_9 : Cond.fieldLink RX7 9 (TX7 0).1 (TX7 0).2.1 (TX7 0).2.2.1 ∈ xall := xmem (i := 63) (by decide +kernel) (by decide +kernel)
theorem fX10_110 : Cond.fieldLink RX10 110 (TX7 0).1 (TX7 0).2.1 (TX7 0).2.2.1 ∈ xall := xmem (i := 64) (by decide +kernel) (by decide +kernel)
theorem fX7_15 : Cond.fieldLink RX7 15 (TX7 1).1 (TX7 1).2.1 (TX7 1).2.2.1 ∈ xall := xmem (i := 65) (by decide +kernel) (by decide +kernel)
theorem fX10_103 : Cond.fieldLink RX10 103 (TX7 1).1 (TX7 1).2.1 (TX7 1).2.2.1 ∈ xall := xmem (i := 66) (by decide +kernel) (by decide +kernel)
theorem fX7_19 : Cond.fieldLink RX7 19 (TX7 2).1 (TX7 2).2.1 (TX7 2).2.2.1 ∈ xall := xmem (i := 67) (by decide +kernel) (by decide +kernel)
theorem fX7_22 : Cond.fieldLink RX7 22 (TX7 3).1 (TX7 3).2.1 (TX7 3).2.2.1 ∈ xall := xmem (i := 68) (by decide +kernel) (by decide +kernel)
theorem fX2_21 : Cond.fieldLink RX2 21 (TX7 3).1 (TX7 3).2.1 (TX7 3).2.2.1 ∈ xall := xmem (i := 69) (by decide +kernel) (by decide +kernel)
theorem fX9_21 : Cond.fieldLink RX9 21 (TX7 3).1 (TX7 3).2.1 (TX7 3).2.2.1 ∈ xall := xmem (i := 70) (by decide +kernel) (by decide +kernel)
theorem fX10_84 : Cond.fieldLink RX10 84 (TX7 3).1 (TX7 3).2.1 (TX7 3).2.2.1 ∈ xall := xmem (i := 71) (by decide +kernel) (by decide +kernel)
theorem fX8_32 : Cond.fieldLink RX8 32 (TX7 3).1 (TX7 3).2.1 (TX7 3).2.2.1 ∈ xall := xmem (i := 72) (by decide +kernel) (by decide +kernel)
theorem fX0_70 : Cond.fieldLink RX0 70 (TX7 3).1 (TX7 3).2.1 (TX7 3).2.2.1 ∈ xall := xmem (i := 73) (by decide +kernel) (by decide +kernel)
theorem arr_char : Cond.arrayClass .char ∈ xall := xmem (i := 83) (by decide +kernel) (by decide +kernel)
theorem arr_int : Cond.arrayClass .int ∈ xall := xmem (i := 84) (by decide +kernel) (by decide +kernel)
theorem cX0_18 : Cond.classLink RX0 18 RX4 ∈ xall := xmem (i := 85) (by decide +kernel) (by decide +kernel)
theorem instX4 : Cond.instantiable RX4 10 ∈ xall := xmem (i := 86) (by decide +kernel) (by decide +kernel)
theorem nX0_20 : Cond.methodLinkNest RX0 20 yX4_init "BillOfMaterials" ∈ xall := xmem (i := 87) (by decide +kernel) (by decide +kernel)
theorem iX4_init : Cond.instanceMethod yX4_init ∈ xall := xmem (i := 88) (by decide +kernel) (by decide +kernel)
theorem lX4_3 : Cond.methodLink RX4 3 ⟨"java/lang/Object", "<init>", "()V"⟩ ∈ xall := xmem (i := 90) (by decide +kernel) (by decide +kernel)
theorem fX4_9 : Cond.fieldLink RX4 9 (TX4 0).1 (TX4 0).2.1 (TX4 0).2.2.1 ∈ xall := xmem (i := 91) (by decide +kernel) (by decide +kernel)
theorem fX0_50 : Cond.fieldLink RX0 50 (TX4 0).1 (TX4 0).2.1 (TX4 0).2.2.1 ∈ xall := xmem (i := 92) (by decide +kernel) (by decide +kernel)
theorem fX10_159 : Cond.fieldLink RX10 159 (TX4 0).1 (TX4 0).2.1 (TX4 0).2.2.1 ∈ xall := xmem (i := 93) (by decide +kernel) (by decide +kernel)
theorem fX4_15 : Cond.fieldLink RX4 15 (TX4 1).1 (TX4 1).2.1 (TX4 1).2.2.1 ∈ xall := xmem (i := 94) (by decide +kernel) (by decide +kernel)
theorem fX0_53 : Cond.fieldLink RX0 53 (TX4 1).1 (TX4 1).2.1 (TX4 1).2.2.1 ∈ xall := xmem (i := 95) (by decide +kernel) (by decide +kernel)
theorem fX10_162 : Cond.fieldLink RX10 162 (TX4 1).1 (TX4 1).2.1 (TX4 1).2.2.1 ∈ xall := xmem (i := 96) (by decide +kernel) (by decide +kernel)
theorem fX4_18 : Cond.fieldLink RX4 18 (TX4 2).1 (TX4 2).2.1 (TX4 2).2.2.1 ∈ xall := xmem (i := 97) (by decide +kernel) (by decide +kernel)
theorem fX9_53 : Cond.fieldLink RX9 53 (TX4 2).1 (TX4 2).2.1 (TX4 2).2.2.1 ∈ xall := xmem (i := 98) (by decide +kernel) (by decide +kernel)
theorem fX0_60 : Cond.fieldLink RX0 60 (TX4 2).1 (TX4 2).2.1 (TX4 2).2.2.1 ∈ xall := xmem (i := 99) (by decide +kernel) (by decide +kernel)
theorem fX8_50 : Cond.fieldLink RX8 50 (TX4 2).1 (TX4 2).2.1 (TX4 2).2.2.1 ∈ xall := xmem (i := 100) (by decide +kernel) (by decide +kernel)
theorem fX2_50 : Cond.fieldLink RX2 50 (TX4 2).1 (TX4 2).2.1 (TX4 2).2.2.1 ∈ xall := xmem (i := 101) (by decide +kernel) (by decide +kernel)
theorem fX10_422 : Cond.fieldLink RX10 422 (TX4 2).1 (TX4 2).2.1 (TX4 2).2.2.1 ∈ xall := xmem (i := 102) (by decide +kernel) (by decide +kernel)
theorem fX4_21 : Cond.fieldLink RX4 21 (TX4 3).1 (TX4 3).2.1 (TX4 3).2.2.1 ∈ xall := xmem (i := 103) (by decide +kernel) (by decide +kernel)
theorem fX9_47 : Cond.fieldLink RX9 47 (TX4 3).1 (TX4 3).2.1 (TX4 3).2.2.1 ∈ xall := xmem (i := 104) (by decide +kernel) (by decide +kernel)
theorem fX8_56 : Cond.fieldLink RX8 56 (TX4 3).1 (TX4 3).2.1 (TX4 3).2.2.1 ∈ xall := xmem (i := 105) (by decide +kernel) (by decide +kernel)
theorem fX10_425 : Cond.fieldLink RX10 425 (TX4 3).1 (TX4 3).2.1 (TX4 3).2.2.1 ∈ xall := xmem (i := 106) (by decide +kernel) (by decide +kernel)
theorem fX4_24 : Cond.fieldLink RX4 24 (TX4 4).1 (TX4 4).2.1 (TX4 4).2.2.1 ∈ xall := xmem (i := 107) (by decide +kernel) (by decide +kernel)
theorem fX10_174 : Cond.fieldLink RX10 174 (TX4 4).1 (TX4 4).2.1 (TX4 4).2.2.1 ∈ xall := xmem (i := 108) (by decide +kernel) (by decide +kernel)
theorem fX4_27 : Cond.fieldLink RX4 27 (TX4 5).1 (TX4 5).2.1 (TX4 5).2.2.1 ∈ xall := xmem (i := 109) (by decide +kernel) (by decide +kernel)
theorem fX10_351 : Cond.fieldLink RX10 351 (TX4 5).1 (TX4 5).2.1 (TX4 5).2.2.1 ∈ xall := xmem (i := 110) (by decide +kernel) (by decide +kernel)
theorem fX4_30 : Cond.fieldLink RX4 30 (TX4 6).1 (TX4 6).2.1 (TX4 6).2.2.1 ∈ xall := xmem (i := 111) (by decide +kernel) (by decide +kernel)
theorem fX10_165 : Cond.fieldLink RX10 165 (TX4 6).1 (TX4 6).2.1 (TX4 6).2.2.1 ∈ xall := xmem (i := 112) (by decide +kernel) (by decide +kernel)
theorem fX4_33 : Cond.fieldLink RX4 33 (TX4 7).1 (TX4 7).2.1 (TX4 7).2.2.1 ∈ xall := xmem (i := 113) (by decide +kernel) (by decide +kernel)
theorem fX10_168 : Cond.fieldLink RX10 168 (TX4 7).1 (TX4 7).2.1 (TX4 7).2.2.1 ∈ xall := xmem (i := 114) (by decide +kernel) (by decide +kernel)
theorem fX4_36 : Cond.fieldLink RX4 36 (TX4 8).1 (TX4 8).2.1 (TX4 8).2.2.1 ∈ xall := xmem (i := 115) (by decide +kernel) (by decide +kernel)
theorem fX10_171 : Cond.fieldLink RX10 171 (TX4 8).1 (TX4 8).2.1 (TX4 8).2.2.1 ∈ xall := xmem (i := 116) (by decide +kernel) (by decide +kernel)
theorem fX4_39 : Cond.fieldLink RX4 39 (TX4 9).1 (TX4 9).2.1 (TX4 9).2.2.1 ∈ xall := xmem (i := 117) (by decide +kernel) (by decide +kernel)
theorem fX0_42 : Cond.fieldLink RX0 42 (TX4 9).1 (TX4 9).2.1 (TX4 9).2.2.1 ∈ xall := xmem (i := 118) (by decide +kernel) (by decide +kernel)
theorem fX10_186 : Cond.fieldLink RX10 186 (TX4 9).1 (TX4 9).2.1 (TX4 9).2.2.1 ∈ xall := xmem (i := 119) (by decide +kernel) (by decide +kernel)
theorem fX0_12 : Cond.fieldLink RX0 12 (TX0 0).1 (TX0 0).2.1 (TX0 0).2.2.1 ∈ xall := xmem (i := 141) (by decide +kernel) (by decide +kernel)
theorem fX2_15 : Cond.fieldLink RX2 15 (TX0 0).1 (TX0 0).2.1 (TX0 0).2.2.1 ∈ xall := xmem (i := 142) (by decide +kernel) (by decide +kernel)
theorem fX9_15 : Cond.fieldLink RX9 15 (TX0 0).1 (TX0 0).2.1 (TX0 0).2.2.1 ∈ xall := xmem (i := 143) (by decide +kernel) (by decide +kernel)
theorem fX10_80 : Cond.fieldLink RX10 80 (TX0 0).1 (TX0 0).2.1 (TX0 0).2.2.1 ∈ xall := xmem (i := 144) (by decide +kernel) (by decide +kernel)
theorem fX8_26 : Cond.fieldLink RX8 26 (TX0 0).1 (TX0 0).2.1 (TX0 0).2.2.1 ∈ xall := xmem (i := 145) (by decide +kernel) (by decide +kernel)
theorem fX0_21 : Cond.fieldLink RX0 21 (TX0 1).1 (TX0 1).2.1 (TX0 1).2.2.1 ∈ xall := xmem (i := 146) (by decide +kernel) (by decide +kernel)
theorem fX9_43 : Cond.fieldLink RX9 43 (TX0 1).1 (TX0 1).2.1 (TX0 1).2.2.1 ∈ xall := xmem (i := 147) (by decide +kernel) (by decide +kernel)
theorem fX8_46 : Cond.fieldLink RX8 46 (TX0 1).1 (TX0 1).2.1 (TX0 1).2.2.1 ∈ xall := xmem (i := 148) (by decide +kernel) (by decide +kernel)
theorem fX2_46 : Cond.fieldLink RX2 46 (TX0 1).1 (TX0 1).2.1 (TX0 1).2.2.1 ∈ xall := xmem (i := 149) (by decide +kernel) (by decide +kernel)
theorem fX10_137 : Cond.fieldLink RX10 137 (TX0 1).1 (TX0 1).2.1 (TX0 1).2.2.1 ∈ xall := xmem (i := 150) (by decide +kernel) (by decide +kernel)
theorem fX0_25 : Cond.fieldLink RX0 25 (TX0 2).1 (TX0 2).2.1 (TX0 2).2.2.1 ∈ xall := xmem (i := 151) (by decide +kernel) (by decide +kernel)
theorem fX0_29 : Cond.fieldLink RX0 29 (TX0 3).1 (TX0 3).2.1 (TX0 3).2.2.1 ∈ xall := xmem (i := 152) (by decide +kernel) (by decide +kernel)
theorem fX0_32 : Cond.fieldLink RX0 32 (TX0 4).1 (TX0 4).2.1 (TX0 4).2.2.1 ∈ xall := xmem (i := 153) (by decide +kernel) (by decide +kernel)
theorem fX0_35 : Cond.fieldLink RX0 35 (TX0 5).1 (TX0 5).2.1 (TX0 5).2.2.1 ∈ xall := xmem (i := 154) (by decide +kernel) (by decide +kernel)
theorem cX10_16 : Cond.classLink RX10 16 RX5 ∈ xall := xmem (i := 168) (by decide +kernel) (by decide +kernel)
theorem instX5 : Cond.instantiable RX5 6 ∈ xall := xmem (i := 169) (by decide +kernel) (by decide +kernel)
theorem nX10_18 : Cond.methodLinkNest RX10 18 yX5_init "BillOfMaterials" ∈ xall := xmem (i := 170) (by decide +kernel) (by decide +kernel)
theorem iX5_init : Cond.instanceMethod yX5_init ∈ xall := xmem (i := 171) (by decide +kernel) (by decide +kernel)
theorem lX5_3 : Cond.methodLink RX5 3 ⟨"java/lang/Object", "<init>", "()V"⟩ ∈ xall := xmem (i := 173) (by decide +kernel) (by decide +kernel)
theorem fX5_9 : Cond.fieldLink RX5 9 (TX5 0).1 (TX5 0).2.1 (TX5 0).2.2.1 ∈ xall := xmem (i := 174) (by decide +kernel) (by decide +kernel)
theorem fX10_311 : Cond.fieldLink RX10 311 (TX5 0).1 (TX5 0).2.1 (TX5 0).2.2.1 ∈ xall := xmem (i := 175) (by decide +kernel) (by decide +kernel)
theorem fX5_15 : Cond.fieldLink RX5 15 (TX5 1).1 (TX5 1).2.1 (TX5 1).2.2.1 ∈ xall := xmem (i := 176) (by decide +kernel) (by decide +kernel)
theorem fX10_314 : Cond.fieldLink RX10 314 (TX5 1).1 (TX5 1).2.1 (TX5 1).2.2.1 ∈ xall := xmem (i := 177) (by decide +kernel) (by decide +kernel)
theorem fX5_18 : Cond.fieldLink RX5 18 (TX5 2).1 (TX5 2).2.1 (TX5 2).2.2.1 ∈ xall := xmem (i := 178) (by decide +kernel) (by decide +kernel)
theorem fX10_320 : Cond.fieldLink RX10 320 (TX5 2).1 (TX5 2).2.1 (TX5 2).2.2.1 ∈ xall := xmem (i := 179) (by decide +kernel) (by decide +kernel)
theorem fX5_21 : Cond.fieldLink RX5 21 (TX5 3).1 (TX5 3).2.1 (TX5 3).2.2.1 ∈ xall := xmem (i := 180) (by decide +kernel) (by decide +kernel)
theorem fX10_317 : Cond.fieldLink RX10 317 (TX5 3).1 (TX5 3).2.1 (TX5 3).2.2.1 ∈ xall := xmem (i := 181) (by decide +kernel) (by decide +kernel)
theorem fX5_24 : Cond.fieldLink RX5 24 (TX5 4).1 (TX5 4).2.1 (TX5 4).2.2.1 ∈ xall := xmem (i := 182) (by decide +kernel) (by decide +kernel)
theorem fX10_301 : Cond.fieldLink RX10 301 (TX5 4).1 (TX5 4).2.1 (TX5 4).2.2.1 ∈ xall := xmem (i := 183) (by decide +kernel) (by decide +kernel)
theorem fX5_28 : Cond.fieldLink RX5 28 (TX5 5).1 (TX5 5).2.1 (TX5 5).2.2.1 ∈ xall := xmem (i := 184) (by decide +kernel) (by decide +kernel)
theorem fX10_294 : Cond.fieldLink RX10 294 (TX5 5).1 (TX5 5).2.1 (TX5 5).2.2.1 ∈ xall := xmem (i := 185) (by decide +kernel) (by decide +kernel)
theorem arr_boolean : Cond.arrayClass .boolean ∈ xall := xmem (i := 199) (by decide +kernel) (by decide +kernel)
theorem cX10_23 : Cond.classLink RX10 23 RX8 ∈ xall := xmem (i := 200) (by decide +kernel) (by decide +kernel)
theorem instX8 : Cond.instantiable RX8 2 ∈ xall := xmem (i := 201) (by decide +kernel) (by decide +kernel)
theorem nX10_25 : Cond.methodLinkNest RX10 25 yX8_init "BillOfMaterials" ∈ xall := xmem (i := 202) (by decide +kernel) (by decide +kernel)
theorem iX8_init : Cond.instanceMethod yX8_init ∈ xall := xmem (i := 203) (by decide +kernel) (by decide +kernel)
theorem lX8_3 : Cond.methodLink RX8 3 ⟨"java/lang/Object", "<init>", "()V"⟩ ∈ xall := xmem (i := 205) (by decide +kernel) (by decide +kernel)
theorem fX8_9 : Cond.fieldLink RX8 9 (TX8 0).1 (TX8 0).2.1 (TX8 0).2.2.1 ∈ xall := xmem (i := 206) (by decide +kernel) (by decide +kernel)
theorem fX8_15 : Cond.fieldLink RX8 15 (TX8 1).1 (TX8 1).2.1 (TX8 1).2.2.1 ∈ xall := xmem (i := 207) (by decide +kernel) (by decide +kernel)
theorem arr_long : Cond.arrayClass .long ∈ xall := xmem (i := 213) (by decide +kernel) (by decide +kernel)
theorem cX10_30 : Cond.classLink RX10 30 RX2 ∈ xall := xmem (i := 214) (by decide +kernel) (by decide +kernel)
theorem instX2 : Cond.instantiable RX2 1 ∈ xall := xmem (i := 215) (by decide +kernel) (by decide +kernel)
theorem nX10_32 : Cond.methodLinkNest RX10 32 yX2_init "BillOfMaterials" ∈ xall := xmem (i := 216) (by decide +kernel) (by decide +kernel)
theorem iX2_init : Cond.instanceMethod yX2_init ∈ xall := xmem (i := 217) (by decide +kernel) (by decide +kernel)
theorem lX2_3 : Cond.methodLink RX2 3 ⟨"java/lang/Object", "<init>", "()V"⟩ ∈ xall := xmem (i := 219) (by decide +kernel) (by decide +kernel)
theorem fX2_9 : Cond.fieldLink RX2 9 (TX2 0).1 (TX2 0).2.1 (TX2 0).2.2.1 ∈ xall := xmem (i := 220) (by decide +kernel) (by decide +kernel)
theorem fX10_287 : Cond.fieldLink RX10 287 (TX2 0).1 (TX2 0).2.1 (TX2 0).2.2.1 ∈ xall := xmem (i := 221) (by decide +kernel) (by decide +kernel)
theorem arr_float : Cond.arrayClass .float ∈ xall := xmem (i := 225) (by decide +kernel) (by decide +kernel)
theorem cX10_37 : Cond.classLink RX10 37 RX9 ∈ xall := xmem (i := 226) (by decide +kernel) (by decide +kernel)
theorem instX9 : Cond.instantiable RX9 1 ∈ xall := xmem (i := 227) (by decide +kernel) (by decide +kernel)
theorem nX10_39 : Cond.methodLinkNest RX10 39 yX9_init "BillOfMaterials" ∈ xall := xmem (i := 228) (by decide +kernel) (by decide +kernel)
theorem iX9_init : Cond.instanceMethod yX9_init ∈ xall := xmem (i := 229) (by decide +kernel) (by decide +kernel)
theorem lX9_3 : Cond.methodLink RX9 3 ⟨"java/lang/Object", "<init>", "()V"⟩ ∈ xall := xmem (i := 231) (by decide +kernel) (by decide +kernel)
theorem fX9_9 : Cond.fieldLink RX9 9 (TX9 0).1 (TX9 0).2.1 (TX9 0).2.2.1 ∈ xall := xmem (i := 232) (by decide +kernel) (by decide +kernel)
theorem fX10_415 : Cond.fieldLink RX10 415 (TX9 0).1 (TX9 0).2.1 (TX9 0).2.2.1 ∈ xall := xmem (i := 233) (by decide +kernel) (by decide +kernel)
theorem arr_double : Cond.arrayClass .double ∈ xall := xmem (i := 237) (by decide +kernel) (by decide +kernel)
theorem cX10_44 : Cond.classLink RX10 44 RX3 ∈ xall := xmem (i := 238) (by decide +kernel) (by decide +kernel)
theorem instX3 : Cond.instantiable RX3 3 ∈ xall := xmem (i := 239) (by decide +kernel) (by decide +kernel)
theorem nX10_46 : Cond.methodLinkNest RX10 46 yX3_init "BillOfMaterials" ∈ xall := xmem (i := 240) (by decide +kernel) (by decide +kernel)
theorem iX3_init : Cond.instanceMethod yX3_init ∈ xall := xmem (i := 241) (by decide +kernel) (by decide +kernel)
theorem lX3_1 : Cond.methodLink RX3 1 ⟨"java/lang/Object", "<init>", "()V"⟩ ∈ xall := xmem (i := 243) (by decide +kernel) (by decide +kernel)
theorem fX3_7 : Cond.fieldLink RX3 7 (TX3 0).1 (TX3 0).2.1 (TX3 0).2.2.1 ∈ xall := xmem (i := 244) (by decide +kernel) (by decide +kernel)
theorem fX10_211 : Cond.fieldLink RX10 211 (TX3 0).1 (TX3 0).2.1 (TX3 0).2.2.1 ∈ xall := xmem (i := 245) (by decide +kernel) (by decide +kernel)
theorem fX3_13 : Cond.fieldLink RX3 13 (TX3 1).1 (TX3 1).2.1 (TX3 1).2.2.1 ∈ xall := xmem (i := 246) (by decide +kernel) (by decide +kernel)
theorem fX10_214 : Cond.fieldLink RX10 214 (TX3 1).1 (TX3 1).2.1 (TX3 1).2.2.1 ∈ xall := xmem (i := 247) (by decide +kernel) (by decide +kernel)
theorem fX3_17 : Cond.fieldLink RX3 17 (TX3 2).1 (TX3 2).2.1 (TX3 2).2.2.1 ∈ xall := xmem (i := 248) (by decide +kernel) (by decide +kernel)
theorem fX10_205 : Cond.fieldLink RX10 205 (TX3 2).1 (TX3 2).2.1 (TX3 2).2.2.1 ∈ xall := xmem (i := 249) (by decide +kernel) (by decide +kernel)
theorem cX10_51 : Cond.classLink RX10 51 RX6 ∈ xall := xmem (i := 257) (by decide +kernel) (by decide +kernel)
theorem instX6 : Cond.instantiable RX6 2 ∈ xall := xmem (i := 258) (by decide +kernel) (by decide +kernel)
theorem nX10_53 : Cond.methodLinkNest RX10 53 yX6_init "BillOfMaterials" ∈ xall := xmem (i := 259) (by decide +kernel) (by decide +kernel)
theorem iX6_init : Cond.instanceMethod yX6_init ∈ xall := xmem (i := 260) (by decide +kernel) (by decide +kernel)
theorem lX6_3 : Cond.methodLink RX6 3 ⟨"java/lang/Object", "<init>", "()V"⟩ ∈ xall := xmem (i := 262) (by decide +kernel) (by decide +kernel)
theorem fX6_9 : Cond.fieldLink RX6 9 (TX6 0).1 (TX6 0).2.1 (TX6 0).2.2.1 ∈ xall := xmem (i := 263) (by decide +kernel) (by decide +kernel)
theorem fX6_15 : Cond.fieldLink RX6 15 (TX6 1).1 (TX6 1).2.1 (TX6 1).2.2.1 ∈ xall := xmem (i := 264) (by decide +kernel) (by decide +kernel)
theorem fX10_10 : Cond.fieldLink RX10 10 (TX10 0).1 (TX10 0).2.1 (TX10 0).2.2.1 ∈ xall := xmem (i := 270) (by decide +kernel) (by decide +kernel)
theorem fX10_19 : Cond.fieldLink RX10 19 (TX10 1).1 (TX10 1).2.1 (TX10 1).2.2.1 ∈ xall := xmem (i := 271) (by decide +kernel) (by decide +kernel)
theorem fX10_26 : Cond.fieldLink RX10 26 (TX10 2).1 (TX10 2).2.1 (TX10 2).2.2.1 ∈ xall := xmem (i := 272) (by decide +kernel) (by decide +kernel)
theorem fX10_33 : Cond.fieldLink RX10 33 (TX10 3).1 (TX10 3).2.1 (TX10 3).2.2.1 ∈ xall := xmem (i := 273) (by decide +kernel) (by decide +kernel)
theorem fX10_40 : Cond.fieldLink RX10 40 (TX10 4).1 (TX10 4).2.1 (TX10 4).2.2.1 ∈ xall := xmem (i := 274) (by decide +kernel) (by decide +kernel)
theorem fX10_47 : Cond.fieldLink RX10 47 (TX10 5).1 (TX10 5).2.1 (TX10 5).2.2.1 ∈ xall := xmem (i := 275) (by decide +kernel) (by decide +kernel)
theorem fX10_54 : Cond.fieldLink RX10 54 (TX10 6).1 (TX10 6).2.1 (TX10 6).2.2.1 ∈ xall := xmem (i := 276) (by decide +kernel) (by decide +kernel)
theorem fX10_58 : Cond.fieldLink RX10 58 (TX10 7).1 (TX10 7).2.1 (TX10 7).2.2.1 ∈ xall := xmem (i := 277) (by decide +kernel) (by decide +kernel)
theorem fX10_62 : Cond.fieldLink RX10 62 (TX10 8).1 (TX10 8).2.1 (TX10 8).2.2.1 ∈ xall := xmem (i := 278) (by decide +kernel) (by decide +kernel)
theorem fX10_66 : Cond.fieldLink RX10 66 (TX10 9).1 (TX10 9).2.1 (TX10 9).2.2.1 ∈ xall := xmem (i := 279) (by decide +kernel) (by decide +kernel)
theorem lL_201 : Cond.methodLink RL 201 yX10_lines ∈ xall := xmem (i := 301) (by decide +kernel) (by decide +kernel)
theorem iX10_lines : Cond.instanceMethod yX10_lines ∈ xall := xmem (i := 302) (by decide +kernel) (by decide +kernel)
theorem lL_209 : Cond.methodLink RL 209 yX10_isConsistent ∈ xall := xmem (i := 305) (by decide +kernel) (by decide +kernel)
theorem iX10_isConsistent : Cond.instanceMethod yX10_isConsistent ∈ xall := xmem (i := 306) (by decide +kernel) (by decide +kernel)
theorem lX10_323 : Cond.methodLink RX10 323 yX7_isSound ∈ xall := xmem (i := 309) (by decide +kernel) (by decide +kernel)
theorem iX7_isSound : Cond.instanceMethod yX7_isSound ∈ xall := xmem (i := 310) (by decide +kernel) (by decide +kernel)
theorem nX7_29 : Cond.methodLinkNest RX7 29 yX10_isBetween "BillOfMaterials" ∈ xall := xmem (i := 313) (by decide +kernel) (by decide +kernel)
theorem sX10_isBetween : Cond.static yX10_isBetween ∈ xall := xmem (i := 314) (by decide +kernel) (by decide +kernel)
theorem nX7_33 : Cond.methodLinkNest RX7 33 yX10_isKind "BillOfMaterials" ∈ xall := xmem (i := 316) (by decide +kernel) (by decide +kernel)
theorem sX10_isKind : Cond.static yX10_isKind ∈ xall := xmem (i := 317) (by decide +kernel) (by decide +kernel)
theorem kX7_37 : Cond.constant RX7 37 (99999 : Int32) ∈ xall := xmem (i := 319) (by decide +kernel) (by decide +kernel)
theorem lX10_327 : Cond.methodLink RX10 327 yX4_isSound ∈ xall := xmem (i := 320) (by decide +kernel) (by decide +kernel)
theorem iX4_isSound : Cond.instanceMethod yX4_isSound ∈ xall := xmem (i := 321) (by decide +kernel) (by decide +kernel)
theorem nX4_47 : Cond.methodLinkNest RX4 47 yX10_isBetween "BillOfMaterials" ∈ xall := xmem (i := 324) (by decide +kernel) (by decide +kernel)
theorem lX4_52 : Cond.methodLink RX4 52 yX4_isSoundLine ∈ xall := xmem (i := 325) (by decide +kernel) (by decide +kernel)
theorem iX4_isSoundLine : Cond.instanceMethod yX4_isSoundLine ∈ xall := xmem (i := 326) (by decide +kernel) (by decide +kernel)
theorem lX10_330 : Cond.methodLink RX10 330 yX4_isUnique ∈ xall := xmem (i := 329) (by decide +kernel) (by decide +kernel)
theorem iX4_isUnique : Cond.instanceMethod yX4_isUnique ∈ xall := xmem (i := 330) (by decide +kernel) (by decide +kernel)
theorem lX4_56 : Cond.methodLink RX4 56 yX4_isAt ∈ xall := xmem (i := 333) (by decide +kernel) (by decide +kernel)
theorem iX4_isAt : Cond.instanceMethod yX4_isAt ∈ xall := xmem (i := 334) (by decide +kernel) (by decide +kernel)
theorem lX4_59 : Cond.methodLink RX4 59 yX4_overlaps ∈ xall := xmem (i := 337) (by decide +kernel) (by decide +kernel)
theorem iX4_overlaps : Cond.instanceMethod yX4_overlaps ∈ xall := xmem (i := 338) (by decide +kernel) (by decide +kernel)
theorem lX4_62 : Cond.methodLink RX4 62 yX4_sharesConfiguration ∈ xall := xmem (i := 341) (by decide +kernel) (by decide +kernel)
theorem iX4_sharesConfiguration : Cond.instanceMethod yX4_sharesConfiguration ∈ xall := xmem (i := 342) (by decide +kernel) (by decide +kernel)
theorem lX10_333 : Cond.methodLink RX10 333 yX0_hasSoundSets ∈ xall := xmem (i := 345) (by decide +kernel) (by decide +kernel)
theorem iX0_hasSoundSets : Cond.instanceMethod yX0_hasSoundSets ∈ xall := xmem (i := 346) (by decide +kernel) (by decide +kernel)
theorem lX10_336 : Cond.methodLink RX10 336 yX0_isShallow ∈ xall := xmem (i := 349) (by decide +kernel) (by decide +kernel)
theorem iX0_isShallow : Cond.instanceMethod yX0_isShallow ∈ xall := xmem (i := 350) (by decide +kernel) (by decide +kernel)
theorem lX0_71 : Cond.methodLink RX0 71 yX0_levelsBelow ∈ xall := xmem (i := 353) (by decide +kernel) (by decide +kernel)
theorem iX0_levelsBelow : Cond.instanceMethod yX0_levelsBelow ∈ xall := xmem (i := 354) (by decide +kernel) (by decide +kernel)
theorem lX0_63 : Cond.methodLink RX0 63 yX0_stepsFrom ∈ xall := xmem (i := 357) (by decide +kernel) (by decide +kernel)
theorem sX0_stepsFrom : Cond.static yX0_stepsFrom ∈ xall := xmem (i := 358) (by decide +kernel) (by decide +kernel)
theorem lX0_67 : Cond.methodLink RX0 67 yX0_unionOf ∈ xall := xmem (i := 360) (by decide +kernel) (by decide +kernel)
theorem sX0_unionOf : Cond.static yX0_unionOf ∈ xall := xmem (i := 361) (by decide +kernel) (by decide +kernel)
theorem lX10_339 : Cond.methodLink RX10 339 yX5_isSound ∈ xall := xmem (i := 363) (by decide +kernel) (by decide +kernel)
theorem iX5_isSound : Cond.instanceMethod yX5_isSound ∈ xall := xmem (i := 364) (by decide +kernel) (by decide +kernel)
theorem nX5_32 : Cond.methodLinkNest RX5 32 yX10_isBetween "BillOfMaterials" ∈ xall := xmem (i := 367) (by decide +kernel) (by decide +kernel)
theorem nX5_36 : Cond.methodLinkNest RX5 36 yX10_isConfiguration "BillOfMaterials" ∈ xall := xmem (i := 368) (by decide +kernel) (by decide +kernel)
theorem sX10_isConfiguration : Cond.static yX10_isConfiguration ∈ xall := xmem (i := 369) (by decide +kernel) (by decide +kernel)
theorem lX10_177 : Cond.methodLink RX10 177 yX10_isBetween ∈ xall := xmem (i := 371) (by decide +kernel) (by decide +kernel)
theorem lX10_340 : Cond.methodLink RX10 340 yX10_isConfiguration ∈ xall := xmem (i := 372) (by decide +kernel) (by decide +kernel)
theorem lL_146 : Cond.methodLink RL 146 yL_pick ∈ xall := xmem (i := 373) (by decide +kernel) (by decide +kernel)
theorem sL_pick : Cond.static yL_pick ∈ xall := xmem (i := 374) (by decide +kernel) (by decide +kernel)
theorem lL_8 : Cond.methodLink RL 8 yL_cell ∈ xall := xmem (i := 376) (by decide +kernel) (by decide +kernel)
theorem sL_cell : Cond.static yL_cell ∈ xall := xmem (i := 377) (by decide +kernel) (by decide +kernel)
theorem kL_7 : Cond.constant RL 7 (40503 : Int32) ∈ xall := xmem (i := 379) (by decide +kernel) (by decide +kernel)
theorem lL_150 : Cond.methodLink RL 150 yL_addPart ∈ xall := xmem (i := 380) (by decide +kernel) (by decide +kernel)
theorem sL_addPart : Cond.static yL_addPart ∈ xall := xmem (i := 381) (by decide +kernel) (by decide +kernel)
theorem cL_20 : Cond.classLink RL 20 "java/lang/IllegalArgumentException" ∈ xall := xmem (i := 383) (by decide +kernel) (by decide +kernel)
theorem cL_22 : Cond.classLink RL 22 "java/lang/IllegalStateException" ∈ xall := xmem (i := 384) (by decide +kernel) (by decide +kernel)
theorem lL_14 : Cond.methodLink RL 14 yX10_addPart ∈ xall := xmem (i := 385) (by decide +kernel) (by decide +kernel)
theorem iX10_addPart : Cond.instanceMethod yX10_addPart ∈ xall := xmem (i := 386) (by decide +kernel) (by decide +kernel)
theorem lX10_69 : Cond.methodLink RX10 69 yX10_checkKind ∈ xall := xmem (i := 389) (by decide +kernel) (by decide +kernel)
theorem sX10_checkKind : Cond.static yX10_checkKind ∈ xall := xmem (i := 390) (by decide +kernel) (by decide +kernel)
theorem lX10_386 : Cond.methodLink RX10 386 yX10_isKind ∈ xall := xmem (i := 392) (by decide +kernel) (by decide +kernel)
theorem cX10_181 : Cond.classLink RX10 181 "java/lang/IllegalArgumentException" ∈ xall := xmem (i := 393) (by decide +kernel) (by decide +kernel)
theorem cast_IllegalArgumentException : Cond.castable "java/lang/IllegalArgumentException" "java/lang/IllegalArgumentException" ∈ xall := xmem (i := 395) (by decide +kernel) (by decide +kernel)
theorem lX10_185 : Cond.methodLink RX10 185 ⟨"java/lang/IllegalArgumentException", "<init>", "(Ljava/lang/String;)V"⟩ ∈ xall := xmem (i := 437) (by decide +kernel) (by decide +kernel)
theorem arr_byte : Cond.arrayClass .byte ∈ xall := xmem (i := 462) (by decide +kernel) (by decide +kernel)
theorem lX10_73 : Cond.methodLink RX10 73 yX10_checkCents ∈ xall := xmem (i := 463) (by decide +kernel) (by decide +kernel)
theorem sX10_checkCents : Cond.static yX10_checkCents ∈ xall := xmem (i := 464) (by decide +kernel) (by decide +kernel)
theorem kX10_392 : Cond.constant RX10 392 (99999 : Int32) ∈ xall := xmem (i := 466) (by decide +kernel) (by decide +kernel)
theorem lX10_77 : Cond.methodLink RX10 77 yX10_checkGrams ∈ xall := xmem (i := 468) (by decide +kernel) (by decide +kernel)
theorem sX10_checkGrams : Cond.static yX10_checkGrams ∈ xall := xmem (i := 469) (by decide +kernel) (by decide +kernel)
theorem cX10_89 : Cond.classLink RX10 89 "java/lang/IllegalStateException" ∈ xall := xmem (i := 472) (by decide +kernel) (by decide +kernel)
theorem cast_IllegalStateException : Cond.castable "java/lang/IllegalStateException" "java/lang/IllegalStateException" ∈ xall := xmem (i := 474) (by decide +kernel) (by decide +kernel)
theorem lX10_93 : Cond.methodLink RX10 93 ⟨"java/lang/IllegalStateException", "<init>", "(Ljava/lang/String;)V"⟩ ∈ xall := xmem (i := 482) (by decide +kernel) (by decide +kernel)
theorem lX10_96 : Cond.methodLink RX10 96 yX7_add ∈ xall := xmem (i := 488) (by decide +kernel) (by decide +kernel)
theorem iX7_add : Cond.instanceMethod yX7_add ∈ xall := xmem (i := 489) (by decide +kernel) (by decide +kernel)
theorem lL_187 : Cond.methodLink RL 187 yL_setPrice ∈ xall := xmem (i := 492) (by decide +kernel) (by decide +kernel)
theorem sL_setPrice : Cond.static yL_setPrice ∈ xall := xmem (i := 493) (by decide +kernel) (by decide +kernel)
theorem cL_28 : Cond.classLink RL 28 "java/lang/IndexOutOfBoundsException" ∈ xall := xmem (i := 495) (by decide +kernel) (by decide +kernel)
theorem lL_24 : Cond.methodLink RL 24 yX10_setPrice ∈ xall := xmem (i := 496) (by decide +kernel) (by decide +kernel)
theorem iX10_setPrice : Cond.instanceMethod yX10_setPrice ∈ xall := xmem (i := 497) (by decide +kernel) (by decide +kernel)
theorem lX10_100 : Cond.methodLink RX10 100 yX10_checkPart ∈ xall := xmem (i := 500) (by decide +kernel) (by decide +kernel)
theorem iX10_checkPart : Cond.instanceMethod yX10_checkPart ∈ xall := xmem (i := 502) (by decide +kernel) (by decide +kernel)
theorem cX10_229 : Cond.classLink RX10 229 "java/lang/IndexOutOfBoundsException" ∈ xall := xmem (i := 504) (by decide +kernel) (by decide +kernel)
theorem cast_IndexOutOfBoundsException : Cond.castable "java/lang/IndexOutOfBoundsException" "java/lang/IndexOutOfBoundsException" ∈ xall := xmem (i := 506) (by decide +kernel) (by decide +kernel)
theorem lX10_233 : Cond.methodLink RX10 233 ⟨"java/lang/IndexOutOfBoundsException", "<init>", "(Ljava/lang/String;)V"⟩ ∈ xall := xmem (i := 514) (by decide +kernel) (by decide +kernel)
theorem lL_162 : Cond.methodLink RL 162 yL_addLine ∈ xall := xmem (i := 520) (by decide +kernel) (by decide +kernel)
theorem sL_addLine : Cond.static yL_addLine ∈ xall := xmem (i := 521) (by decide +kernel) (by decide +kernel)
theorem cL_38 : Cond.classLink RL 38 "java/lang/UnsupportedOperationException" ∈ xall := xmem (i := 523) (by decide +kernel) (by decide +kernel)
theorem lL_34 : Cond.methodLink RL 34 yX10_addLine ∈ xall := xmem (i := 524) (by decide +kernel) (by decide +kernel)
theorem iX10_addLine : Cond.instanceMethod yX10_addLine ∈ xall := xmem (i := 525) (by decide +kernel) (by decide +kernel)
theorem lX10_114 : Cond.methodLink RX10 114 yX10_checkPosition ∈ xall := xmem (i := 528) (by decide +kernel) (by decide +kernel)
theorem sX10_checkPosition : Cond.static yX10_checkPosition ∈ xall := xmem (i := 529) (by decide +kernel) (by decide +kernel)
theorem lX10_117 : Cond.methodLink RX10 117 yX10_checkQuantity ∈ xall := xmem (i := 532) (by decide +kernel) (by decide +kernel)
theorem sX10_checkQuantity : Cond.static yX10_checkQuantity ∈ xall := xmem (i := 533) (by decide +kernel) (by decide +kernel)
theorem lX10_120 : Cond.methodLink RX10 120 yX10_checkRange ∈ xall := xmem (i := 536) (by decide +kernel) (by decide +kernel)
theorem sX10_checkRange : Cond.static yX10_checkRange ∈ xall := xmem (i := 537) (by decide +kernel) (by decide +kernel)
theorem lX10_124 : Cond.methodLink RX10 124 yX10_checkNoCircle ∈ xall := xmem (i := 540) (by decide +kernel) (by decide +kernel)
theorem iX10_checkNoCircle : Cond.instanceMethod yX10_checkNoCircle ∈ xall := xmem (i := 542) (by decide +kernel) (by decide +kernel)
theorem lX10_356 : Cond.methodLink RX10 356 yX0_isWithin ∈ xall := xmem (i := 544) (by decide +kernel) (by decide +kernel)
theorem iX0_isWithin : Cond.instanceMethod yX0_isWithin ∈ xall := xmem (i := 545) (by decide +kernel) (by decide +kernel)
theorem cX10_360 : Cond.classLink RX10 360 "java/lang/UnsupportedOperationException" ∈ xall := xmem (i := 548) (by decide +kernel) (by decide +kernel)
theorem cast_UnsupportedOperationException : Cond.castable "java/lang/UnsupportedOperationException" "java/lang/UnsupportedOperationException" ∈ xall := xmem (i := 550) (by decide +kernel) (by decide +kernel)
theorem lX10_364 : Cond.methodLink RX10 364 ⟨"java/lang/UnsupportedOperationException", "<init>", "(Ljava/lang/String;)V"⟩ ∈ xall := xmem (i := 558) (by decide +kernel) (by decide +kernel)
theorem lX10_127 : Cond.methodLink RX10 127 yX10_checkRoomForLine ∈ xall := xmem (i := 564) (by decide +kernel) (by decide +kernel)
theorem iX10_checkRoomForLine : Cond.instanceMethod yX10_checkRoomForLine ∈ xall := xmem (i := 566) (by decide +kernel) (by decide +kernel)
theorem lX10_365 : Cond.methodLink RX10 365 yX0_levelsAbove ∈ xall := xmem (i := 568) (by decide +kernel) (by decide +kernel)
theorem iX0_levelsAbove : Cond.instanceMethod yX0_levelsAbove ∈ xall := xmem (i := 569) (by decide +kernel) (by decide +kernel)
theorem lX10_368 : Cond.methodLink RX10 368 yX0_levelsBelow ∈ xall := xmem (i := 572) (by decide +kernel) (by decide +kernel)
theorem lX10_130 : Cond.methodLink RX10 130 yX10_checkUnique ∈ xall := xmem (i := 575) (by decide +kernel) (by decide +kernel)
theorem iX10_checkUnique : Cond.instanceMethod yX10_checkUnique ∈ xall := xmem (i := 577) (by decide +kernel) (by decide +kernel)
theorem lX10_375 : Cond.methodLink RX10 375 yX4_isAt ∈ xall := xmem (i := 579) (by decide +kernel) (by decide +kernel)
theorem lX10_378 : Cond.methodLink RX10 378 yX4_overlaps ∈ xall := xmem (i := 580) (by decide +kernel) (by decide +kernel)
theorem lX10_381 : Cond.methodLink RX10 381 yX4_sharesConfiguration ∈ xall := xmem (i := 581) (by decide +kernel) (by decide +kernel)
theorem lX10_134 : Cond.methodLink RX10 134 yX0_add ∈ xall := xmem (i := 583) (by decide +kernel) (by decide +kernel)
theorem iX0_add : Cond.instanceMethod yX0_add ∈ xall := xmem (i := 584) (by decide +kernel) (by decide +kernel)
theorem lX0_38 : Cond.methodLink RX0 38 yX4_add ∈ xall := xmem (i := 587) (by decide +kernel) (by decide +kernel)
theorem iX4_add : Cond.instanceMethod yX4_add ∈ xall := xmem (i := 588) (by decide +kernel) (by decide +kernel)
theorem lX10_141 : Cond.methodLink RX10 141 yX4_setRange ∈ xall := xmem (i := 591) (by decide +kernel) (by decide +kernel)
theorem iX4_setRange : Cond.instanceMethod yX4_setRange ∈ xall := xmem (i := 592) (by decide +kernel) (by decide +kernel)
theorem lX10_147 : Cond.methodLink RX10 147 yX4_setCondition ∈ xall := xmem (i := 595) (by decide +kernel) (by decide +kernel)
theorem iX4_setCondition : Cond.instanceMethod yX4_setCondition ∈ xall := xmem (i := 596) (by decide +kernel) (by decide +kernel)
theorem lL_165 : Cond.methodLink RL 165 yL_addVariant ∈ xall := xmem (i := 599) (by decide +kernel) (by decide +kernel)
theorem sL_addVariant : Cond.static yL_addVariant ∈ xall := xmem (i := 600) (by decide +kernel) (by decide +kernel)
theorem lL_40 : Cond.methodLink RL 40 yX10_addVariant ∈ xall := xmem (i := 602) (by decide +kernel) (by decide +kernel)
theorem iX10_addVariant : Cond.instanceMethod yX10_addVariant ∈ xall := xmem (i := 603) (by decide +kernel) (by decide +kernel)
theorem lX10_150 : Cond.methodLink RX10 150 yX10_checkCondition ∈ xall := xmem (i := 606) (by decide +kernel) (by decide +kernel)
theorem sX10_checkCondition : Cond.static yX10_checkCondition ∈ xall := xmem (i := 607) (by decide +kernel) (by decide +kernel)
theorem lL_170 : Cond.methodLink RL 170 yL_replaceFrom ∈ xall := xmem (i := 610) (by decide +kernel) (by decide +kernel)
theorem sL_replaceFrom : Cond.static yL_replaceFrom ∈ xall := xmem (i := 611) (by decide +kernel) (by decide +kernel)
theorem lL_43 : Cond.methodLink RL 43 yX10_replaceFrom ∈ xall := xmem (i := 613) (by decide +kernel) (by decide +kernel)
theorem iX10_replaceFrom : Cond.instanceMethod yX10_replaceFrom ∈ xall := xmem (i := 614) (by decide +kernel) (by decide +kernel)
theorem lX10_153 : Cond.methodLink RX10 153 yX10_checkLine ∈ xall := xmem (i := 617) (by decide +kernel) (by decide +kernel)
theorem iX10_checkLine : Cond.instanceMethod yX10_checkLine ∈ xall := xmem (i := 619) (by decide +kernel) (by decide +kernel)
theorem lX10_156 : Cond.methodLink RX10 156 yX10_checkCut ∈ xall := xmem (i := 622) (by decide +kernel) (by decide +kernel)
theorem iX10_checkCut : Cond.instanceMethod yX10_checkCut ∈ xall := xmem (i := 624) (by decide +kernel) (by decide +kernel)
theorem lL_179 : Cond.methodLink RL 179 yL_endBefore ∈ xall := xmem (i := 627) (by decide +kernel) (by decide +kernel)
theorem sL_endBefore : Cond.static yL_endBefore ∈ xall := xmem (i := 628) (by decide +kernel) (by decide +kernel)
theorem lL_47 : Cond.methodLink RL 47 yX10_endBefore ∈ xall := xmem (i := 630) (by decide +kernel) (by decide +kernel)
theorem iX10_endBefore : Cond.instanceMethod yX10_endBefore ∈ xall := xmem (i := 631) (by decide +kernel) (by decide +kernel)
theorem lL_181 : Cond.methodLink RL 181 yL_setScrap ∈ xall := xmem (i := 634) (by decide +kernel) (by decide +kernel)
theorem sL_setScrap : Cond.static yL_setScrap ∈ xall := xmem (i := 635) (by decide +kernel) (by decide +kernel)
theorem lL_50 : Cond.methodLink RL 50 yX10_setScrap ∈ xall := xmem (i := 637) (by decide +kernel) (by decide +kernel)
theorem iX10_setScrap : Cond.instanceMethod yX10_setScrap ∈ xall := xmem (i := 638) (by decide +kernel) (by decide +kernel)
theorem lL_173 : Cond.methodLink RL 173 yL_lastSerial ∈ xall := xmem (i := 642) (by decide +kernel) (by decide +kernel)
theorem sL_lastSerial : Cond.static yL_lastSerial ∈ xall := xmem (i := 643) (by decide +kernel) (by decide +kernel)
theorem lL_53 : Cond.methodLink RL 53 yX10_lastSerial ∈ xall := xmem (i := 645) (by decide +kernel) (by decide +kernel)
theorem iX10_lastSerial : Cond.instanceMethod yX10_lastSerial ∈ xall := xmem (i := 646) (by decide +kernel) (by decide +kernel)
theorem lL_176 : Cond.methodLink RL 176 yL_holds ∈ xall := xmem (i := 649) (by decide +kernel) (by decide +kernel)
theorem sL_holds : Cond.static yL_holds ∈ xall := xmem (i := 650) (by decide +kernel) (by decide +kernel)
theorem lL_57 : Cond.methodLink RL 57 yX10_holds ∈ xall := xmem (i := 652) (by decide +kernel) (by decide +kernel)
theorem iX10_holds : Cond.instanceMethod yX10_holds ∈ xall := xmem (i := 653) (by decide +kernel) (by decide +kernel)
theorem lX10_187 : Cond.methodLink RX10 187 yX10_checkSerial ∈ xall := xmem (i := 656) (by decide +kernel) (by decide +kernel)
theorem sX10_checkSerial : Cond.static yX10_checkSerial ∈ xall := xmem (i := 657) (by decide +kernel) (by decide +kernel)
theorem lX10_190 : Cond.methodLink RX10 190 yX4_isHolding ∈ xall := xmem (i := 660) (by decide +kernel) (by decide +kernel)
theorem iX4_isHolding : Cond.instanceMethod yX4_isHolding ∈ xall := xmem (i := 661) (by decide +kernel) (by decide +kernel)
theorem nX4_43 : Cond.methodLinkNest RX4 43 yX10_choiceIn "BillOfMaterials" ∈ xall := xmem (i := 664) (by decide +kernel) (by decide +kernel)
theorem sX10_choiceIn : Cond.static yX10_choiceIn ∈ xall := xmem (i := 665) (by decide +kernel) (by decide +kernel)
theorem lL_183 : Cond.methodLink RL 183 yL_setChoice ∈ xall := xmem (i := 667) (by decide +kernel) (by decide +kernel)
theorem sL_setChoice : Cond.static yL_setChoice ∈ xall := xmem (i := 668) (by decide +kernel) (by decide +kernel)
theorem lL_61 : Cond.methodLink RL 61 yX10_setChoice ∈ xall := xmem (i := 670) (by decide +kernel) (by decide +kernel)
theorem iX10_setChoice : Cond.instanceMethod yX10_setChoice ∈ xall := xmem (i := 671) (by decide +kernel) (by decide +kernel)
theorem lX10_193 : Cond.methodLink RX10 193 yX10_checkOption ∈ xall := xmem (i := 674) (by decide +kernel) (by decide +kernel)
theorem sX10_checkOption : Cond.static yX10_checkOption ∈ xall := xmem (i := 675) (by decide +kernel) (by decide +kernel)
theorem lX10_198 : Cond.methodLink RX10 198 yX10_choiceIn ∈ xall := xmem (i := 679) (by decide +kernel) (by decide +kernel)
theorem lL_185 : Cond.methodLink RL 185 yL_choice ∈ xall := xmem (i := 680) (by decide +kernel) (by decide +kernel)
theorem sL_choice : Cond.static yL_choice ∈ xall := xmem (i := 681) (by decide +kernel) (by decide +kernel)
theorem lL_64 : Cond.methodLink RL 64 yX10_choice ∈ xall := xmem (i := 683) (by decide +kernel) (by decide +kernel)
theorem iX10_choice : Cond.instanceMethod yX10_choice ∈ xall := xmem (i := 684) (by decide +kernel) (by decide +kernel)
theorem lL_167 : Cond.methodLink RL 167 yL_quantity ∈ xall := xmem (i := 687) (by decide +kernel) (by decide +kernel)
theorem sL_quantity : Cond.static yL_quantity ∈ xall := xmem (i := 688) (by decide +kernel) (by decide +kernel)
theorem lL_86 : Cond.methodLink RL 86 yX10_quantity ∈ xall := xmem (i := 690) (by decide +kernel) (by decide +kernel)
theorem iX10_quantity : Cond.instanceMethod yX10_quantity ∈ xall := xmem (i := 691) (by decide +kernel) (by decide +kernel)
theorem lX10_237 : Cond.methodLink RX10 237 yX0_select ∈ xall := xmem (i := 694) (by decide +kernel) (by decide +kernel)
theorem iX0_select : Cond.instanceMethod yX0_select ∈ xall := xmem (i := 695) (by decide +kernel) (by decide +kernel)
theorem lX0_46 : Cond.methodLink RX0 46 yX4_isHolding ∈ xall := xmem (i := 698) (by decide +kernel) (by decide +kernel)
theorem lX0_56 : Cond.methodLink RX0 56 yX0_placeOf ∈ xall := xmem (i := 699) (by decide +kernel) (by decide +kernel)
theorem sX0_placeOf : Cond.static yX0_placeOf ∈ xall := xmem (i := 700) (by decide +kernel) (by decide +kernel)
theorem lX10_240 : Cond.methodLink RX10 240 yX8_count ∈ xall := xmem (i := 702) (by decide +kernel) (by decide +kernel)
theorem iX8_count : Cond.instanceMethod yX8_count ∈ xall := xmem (i := 703) (by decide +kernel) (by decide +kernel)
theorem lX8_18 : Cond.methodLink RX8 18 yX8_clear ∈ xall := xmem (i := 706) (by decide +kernel) (by decide +kernel)
theorem sX8_clear : Cond.static yX8_clear ∈ xall := xmem (i := 707) (by decide +kernel) (by decide +kernel)
theorem lX8_22 : Cond.methodLink RX8 22 yX8_goDown ∈ xall := xmem (i := 709) (by decide +kernel) (by decide +kernel)
theorem iX8_goDown : Cond.instanceMethod yX8_goDown ∈ xall := xmem (i := 711) (by decide +kernel) (by decide +kernel)
theorem lX8_38 : Cond.methodLink RX8 38 yX8_addChildrenOf ∈ xall := xmem (i := 713) (by decide +kernel) (by decide +kernel)
theorem iX8_addChildrenOf : Cond.instanceMethod yX8_addChildrenOf ∈ xall := xmem (i := 715) (by decide +kernel) (by decide +kernel)
theorem lX8_42 : Cond.methodLink RX8 42 yX0_heldLine ∈ xall := xmem (i := 717) (by decide +kernel) (by decide +kernel)
theorem iX0_heldLine : Cond.instanceMethod yX0_heldLine ∈ xall := xmem (i := 718) (by decide +kernel) (by decide +kernel)
theorem kL_80 : Cond.constantLong RL 80 (-77 : Int64) ∈ xall := xmem (i := 721) (by decide +kernel) (by decide +kernel)
theorem kL_82 : Cond.constantLong RL 82 (-78 : Int64) ∈ xall := xmem (i := 722) (by decide +kernel) (by decide +kernel)
theorem lL_189 : Cond.methodLink RL 189 yL_markCosts ∈ xall := xmem (i := 723) (by decide +kernel) (by decide +kernel)
theorem sL_markCosts : Cond.static yL_markCosts ∈ xall := xmem (i := 724) (by decide +kernel) (by decide +kernel)
theorem lL_128 : Cond.methodLink RL 128 yX10_markCosts ∈ xall := xmem (i := 726) (by decide +kernel) (by decide +kernel)
theorem iX10_markCosts : Cond.instanceMethod yX10_markCosts ∈ xall := xmem (i := 727) (by decide +kernel) (by decide +kernel)
theorem lX10_266 : Cond.methodLink RX10 266 yX2_rollUp ∈ xall := xmem (i := 730) (by decide +kernel) (by decide +kernel)
theorem iX2_rollUp : Cond.instanceMethod yX2_rollUp ∈ xall := xmem (i := 731) (by decide +kernel) (by decide +kernel)
theorem lX2_27 : Cond.methodLink RX2 27 yX0_hasHeldChildrenIn ∈ xall := xmem (i := 734) (by decide +kernel) (by decide +kernel)
theorem iX0_hasHeldChildrenIn : Cond.instanceMethod yX0_hasHeldChildrenIn ∈ xall := xmem (i := 735) (by decide +kernel) (by decide +kernel)
theorem lX2_31 : Cond.methodLink RX2 31 yX2_costOf ∈ xall := xmem (i := 738) (by decide +kernel) (by decide +kernel)
theorem iX2_costOf : Cond.instanceMethod yX2_costOf ∈ xall := xmem (i := 740) (by decide +kernel) (by decide +kernel)
theorem lX2_42 : Cond.methodLink RX2 42 yX7_ownCost ∈ xall := xmem (i := 742) (by decide +kernel) (by decide +kernel)
theorem iX7_ownCost : Cond.instanceMethod yX7_ownCost ∈ xall := xmem (i := 743) (by decide +kernel) (by decide +kernel)
theorem kX7_26 : Cond.constantFloat RX7 26 (1120403456 : UInt32) ∈ xall := xmem (i := 746) (by decide +kernel) (by decide +kernel)
theorem lX2_35 : Cond.methodLink RX2 35 yX0_heldLine ∈ xall := xmem (i := 747) (by decide +kernel) (by decide +kernel)
theorem lX2_39 : Cond.methodLink RX2 39 yX2_addedBy ∈ xall := xmem (i := 748) (by decide +kernel) (by decide +kernel)
theorem iX2_addedBy : Cond.instanceMethod yX2_addedBy ∈ xall := xmem (i := 750) (by decide +kernel) (by decide +kernel)
theorem lX2_56 : Cond.methodLink RX2 56 yX4_addedCost ∈ xall := xmem (i := 752) (by decide +kernel) (by decide +kernel)
theorem iX4_addedCost : Cond.instanceMethod yX4_addedCost ∈ xall := xmem (i := 753) (by decide +kernel) (by decide +kernel)
theorem kX4_51 : Cond.constantFloat RX4 51 (1120403456 : UInt32) ∈ xall := xmem (i := 756) (by decide +kernel) (by decide +kernel)
theorem lL_191 : Cond.methodLink RL 191 yL_costChange ∈ xall := xmem (i := 757) (by decide +kernel) (by decide +kernel)
theorem sL_costChange : Cond.static yL_costChange ∈ xall := xmem (i := 758) (by decide +kernel) (by decide +kernel)
theorem cL_74 : Cond.classLink RL 74 "java/util/NoSuchElementException" ∈ xall := xmem (i := 760) (by decide +kernel) (by decide +kernel)
theorem lL_131 : Cond.methodLink RL 131 yX10_costChange ∈ xall := xmem (i := 761) (by decide +kernel) (by decide +kernel)
theorem iX10_costChange : Cond.instanceMethod yX10_costChange ∈ xall := xmem (i := 762) (by decide +kernel) (by decide +kernel)
theorem cX10_274 : Cond.classLink RX10 274 "java/util/NoSuchElementException" ∈ xall := xmem (i := 765) (by decide +kernel) (by decide +kernel)
theorem cast_NoSuchElementException : Cond.castable "java/util/NoSuchElementException" "java/util/NoSuchElementException" ∈ xall := xmem (i := 767) (by decide +kernel) (by decide +kernel)
theorem lX10_278 : Cond.methodLink RX10 278 ⟨"java/util/NoSuchElementException", "<init>", "(Ljava/lang/String;)V"⟩ ∈ xall := xmem (i := 775) (by decide +kernel) (by decide +kernel)
theorem lX10_251 : Cond.methodLink RX10 251 yX10_rolledUpCost ∈ xall := xmem (i := 781) (by decide +kernel) (by decide +kernel)
theorem iX10_rolledUpCost : Cond.instanceMethod yX10_rolledUpCost ∈ xall := xmem (i := 783) (by decide +kernel) (by decide +kernel)
theorem kL_102 : Cond.constantFloat RL 102 (3264872448 : UInt32) ∈ xall := xmem (i := 785) (by decide +kernel) (by decide +kernel)
theorem kL_103 : Cond.constantFloat RL 103 (3265003520 : UInt32) ∈ xall := xmem (i := 786) (by decide +kernel) (by decide +kernel)
theorem kL_134 : Cond.constantFloat RL 134 (3264610304 : UInt32) ∈ xall := xmem (i := 787) (by decide +kernel) (by decide +kernel)
theorem lL_196 : Cond.methodLink RL 196 yL_order ∈ xall := xmem (i := 788) (by decide +kernel) (by decide +kernel)
theorem sL_order : Cond.static yL_order ∈ xall := xmem (i := 789) (by decide +kernel) (by decide +kernel)
theorem lL_135 : Cond.methodLink RL 135 yX10_order ∈ xall := xmem (i := 791) (by decide +kernel) (by decide +kernel)
theorem iX10_order : Cond.instanceMethod yX10_order ∈ xall := xmem (i := 792) (by decide +kernel) (by decide +kernel)
theorem lX10_297 : Cond.methodLink RX10 297 yX5_add ∈ xall := xmem (i := 797) (by decide +kernel) (by decide +kernel)
theorem iX5_add : Cond.instanceMethod yX5_add ∈ xall := xmem (i := 798) (by decide +kernel) (by decide +kernel)
theorem lL_199 : Cond.methodLink RL 199 yL_cancel ∈ xall := xmem (i := 801) (by decide +kernel) (by decide +kernel)
theorem sL_cancel : Cond.static yL_cancel ∈ xall := xmem (i := 802) (by decide +kernel) (by decide +kernel)
theorem lL_138 : Cond.methodLink RL 138 yX10_cancel ∈ xall := xmem (i := 804) (by decide +kernel) (by decide +kernel)
theorem iX10_cancel : Cond.instanceMethod yX10_cancel ∈ xall := xmem (i := 805) (by decide +kernel) (by decide +kernel)
theorem lX10_298 : Cond.methodLink RX10 298 yX10_checkOrder ∈ xall := xmem (i := 808) (by decide +kernel) (by decide +kernel)
theorem iX10_checkOrder : Cond.instanceMethod yX10_checkOrder ∈ xall := xmem (i := 810) (by decide +kernel) (by decide +kernel)
theorem lX10_307 : Cond.methodLink RX10 307 yX5_countOpen ∈ xall := xmem (i := 814) (by decide +kernel) (by decide +kernel)
theorem iX5_countOpen : Cond.instanceMethod yX5_countOpen ∈ xall := xmem (i := 815) (by decide +kernel) (by decide +kernel)
theorem lL_194 : Cond.methodLink RL 194 yL_need ∈ xall := xmem (i := 818) (by decide +kernel) (by decide +kernel)
theorem sL_need : Cond.static yL_need ∈ xall := xmem (i := 819) (by decide +kernel) (by decide +kernel)
theorem lL_141 : Cond.methodLink RL 141 yX10_need ∈ xall := xmem (i := 821) (by decide +kernel) (by decide +kernel)
theorem iX10_need : Cond.instanceMethod yX10_need ∈ xall := xmem (i := 822) (by decide +kernel) (by decide +kernel)
theorem lL_158 : Cond.methodLink RL 158 yL_sum ∈ xall := xmem (i := 825) (by decide +kernel) (by decide +kernel)
theorem sL_sum : Cond.static yL_sum ∈ xall := xmem (i := 826) (by decide +kernel) (by decide +kernel)
theorem kL_213 : Cond.constantLong RL 213 (31 : Int64) ∈ xall := xmem (i := 828) (by decide +kernel) (by decide +kernel)
theorem kL_215 : Cond.constantLong RL 215 (7 : Int64) ∈ xall := xmem (i := 829) (by decide +kernel) (by decide +kernel)
theorem lL_217 : Cond.methodLink RL 217 yL_costBits ∈ xall := xmem (i := 830) (by decide +kernel) (by decide +kernel)
theorem sL_costBits : Cond.static yL_costBits ∈ xall := xmem (i := 831) (by decide +kernel) (by decide +kernel)
theorem lL_107 : Cond.methodLink RL 107 yX10_costBits ∈ xall := xmem (i := 833) (by decide +kernel) (by decide +kernel)
theorem iX10_costBits : Cond.instanceMethod yX10_costBits ∈ xall := xmem (i := 834) (by decide +kernel) (by decide +kernel)
theorem lX10_259 : Cond.methodLink RX10 259 yX1_ofFloat ∈ xall := xmem (i := 837) (by decide +kernel) (by decide +kernel)
theorem sX1_ofFloat : Cond.static yX1_ofFloat ∈ xall := xmem (i := 838) (by decide +kernel) (by decide +kernel)
theorem kX1_7 : Cond.constantFloat RX1 7 (1258291200 : UInt32) ∈ xall := xmem (i := 840) (by decide +kernel) (by decide +kernel)
theorem kL_219 : Cond.constantLong RL 219 (11 : Int64) ∈ xall := xmem (i := 841) (by decide +kernel) (by decide +kernel)
theorem lL_221 : Cond.methodLink RL 221 yL_weightBits ∈ xall := xmem (i := 842) (by decide +kernel) (by decide +kernel)
theorem sL_weightBits : Cond.static yL_weightBits ∈ xall := xmem (i := 843) (by decide +kernel) (by decide +kernel)
theorem lL_124 : Cond.methodLink RL 124 yX10_weightBits ∈ xall := xmem (i := 845) (by decide +kernel) (by decide +kernel)
theorem iX10_weightBits : Cond.instanceMethod yX10_weightBits ∈ xall := xmem (i := 846) (by decide +kernel) (by decide +kernel)
theorem lX10_279 : Cond.methodLink RX10 279 yX10_rolledUpWeight ∈ xall := xmem (i := 849) (by decide +kernel) (by decide +kernel)
theorem iX10_rolledUpWeight : Cond.instanceMethod yX10_rolledUpWeight ∈ xall := xmem (i := 851) (by decide +kernel) (by decide +kernel)
theorem lX10_414 : Cond.methodLink RX10 414 yX9_rollUp ∈ xall := xmem (i := 853) (by decide +kernel) (by decide +kernel)
theorem iX9_rollUp : Cond.instanceMethod yX9_rollUp ∈ xall := xmem (i := 854) (by decide +kernel) (by decide +kernel)
theorem lX9_27 : Cond.methodLink RX9 27 yX0_hasHeldChildrenIn ∈ xall := xmem (i := 857) (by decide +kernel) (by decide +kernel)
theorem lX9_31 : Cond.methodLink RX9 31 yX9_weightOf ∈ xall := xmem (i := 858) (by decide +kernel) (by decide +kernel)
theorem iX9_weightOf : Cond.instanceMethod yX9_weightOf ∈ xall := xmem (i := 860) (by decide +kernel) (by decide +kernel)
theorem lX9_35 : Cond.methodLink RX9 35 yX7_ownWeight ∈ xall := xmem (i := 862) (by decide +kernel) (by decide +kernel)
theorem iX7_ownWeight : Cond.instanceMethod yX7_ownWeight ∈ xall := xmem (i := 863) (by decide +kernel) (by decide +kernel)
theorem kX7_27 : Cond.constantDouble RX7 27 (4652007308841189376 : UInt64) ∈ xall := xmem (i := 866) (by decide +kernel) (by decide +kernel)
theorem lX9_39 : Cond.methodLink RX9 39 yX0_heldLine ∈ xall := xmem (i := 867) (by decide +kernel) (by decide +kernel)
theorem lX10_283 : Cond.methodLink RX10 283 yX1_ofDouble ∈ xall := xmem (i := 868) (by decide +kernel) (by decide +kernel)
theorem sX1_ofDouble : Cond.static yX1_ofDouble ∈ xall := xmem (i := 869) (by decide +kernel) (by decide +kernel)
theorem kX1_8 : Cond.constantDouble RX1 8 (4611686018427387904 : UInt64) ∈ xall := xmem (i := 871) (by decide +kernel) (by decide +kernel)
theorem kX1_10 : Cond.constantDouble RX1 10 (4841369599423283200 : UInt64) ∈ xall := xmem (i := 872) (by decide +kernel) (by decide +kernel)
theorem kL_224 : Cond.constantLong RL 224 (13 : Int64) ∈ xall := xmem (i := 873) (by decide +kernel) (by decide +kernel)
theorem lL_226 : Cond.methodLink RL 226 yL_listSize ∈ xall := xmem (i := 874) (by decide +kernel) (by decide +kernel)
theorem sL_listSize : Cond.static yL_listSize ∈ xall := xmem (i := 875) (by decide +kernel) (by decide +kernel)
theorem lL_67 : Cond.methodLink RL 67 yX10_listSize ∈ xall := xmem (i := 877) (by decide +kernel) (by decide +kernel)
theorem iX10_listSize : Cond.instanceMethod yX10_listSize ∈ xall := xmem (i := 878) (by decide +kernel) (by decide +kernel)
theorem lX10_202 : Cond.methodLink RX10 202 yX10_makeDirectList ∈ xall := xmem (i := 881) (by decide +kernel) (by decide +kernel)
theorem iX10_makeDirectList : Cond.instanceMethod yX10_makeDirectList ∈ xall := xmem (i := 883) (by decide +kernel) (by decide +kernel)
theorem lX10_409 : Cond.methodLink RX10 409 yX3_clear ∈ xall := xmem (i := 885) (by decide +kernel) (by decide +kernel)
theorem iX3_clear : Cond.instanceMethod yX3_clear ∈ xall := xmem (i := 886) (by decide +kernel) (by decide +kernel)
theorem lX10_410 : Cond.methodLink RX10 410 yX10_collectEntries ∈ xall := xmem (i := 889) (by decide +kernel) (by decide +kernel)
theorem sX10_collectEntries : Cond.static yX10_collectEntries ∈ xall := xmem (i := 890) (by decide +kernel) (by decide +kernel)
theorem lX10_419 : Cond.methodLink RX10 419 yX0_heldLine ∈ xall := xmem (i := 892) (by decide +kernel) (by decide +kernel)
theorem lX10_428 : Cond.methodLink RX10 428 yX3_add ∈ xall := xmem (i := 893) (by decide +kernel) (by decide +kernel)
theorem iX3_add : Cond.instanceMethod yX3_add ∈ xall := xmem (i := 894) (by decide +kernel) (by decide +kernel)
theorem lX3_21 : Cond.methodLink RX3 21 yX3_grow ∈ xall := xmem (i := 897) (by decide +kernel) (by decide +kernel)
theorem iX3_grow : Cond.instanceMethod yX3_grow ∈ xall := xmem (i := 899) (by decide +kernel) (by decide +kernel)
theorem lX3_24 : Cond.methodLink RX3 24 ⟨"java/lang/System", "arraycopy", "(Ljava/lang/Object;ILjava/lang/Object;II)V"⟩ ∈ xall := xmem (i := 901) (by decide +kernel) (by decide +kernel)
theorem sjavalangSystem_arraycopyLjavalangObjectILjavalangObjectIIV : Cond.static ⟨"java/lang/System", "arraycopy", "(Ljava/lang/Object;ILjava/lang/Object;II)V"⟩ ∈ xall := xmem (i := 902) (by decide +kernel) (by decide +kernel)
theorem natjavalangSystem_arraycopyLjavalangObjectILjavalangObjectIIV : Cond.native ⟨"java/lang/System", "arraycopy", "(Ljava/lang/Object;ILjava/lang/Object;II)V"⟩ ∈ xall := xmem (i := 903) (by decide +kernel) (by decide +kernel)
theorem lL_228 : Cond.methodLink RL 228 yL_dearest ∈ xall := xmem (i := 904) (by decide +kernel) (by decide +kernel)
theorem sL_dearest : Cond.static yL_dearest ∈ xall := xmem (i := 905) (by decide +kernel) (by decide +kernel)
theorem lL_113 : Cond.methodLink RL 113 yX10_dearest ∈ xall := xmem (i := 907) (by decide +kernel) (by decide +kernel)
theorem iX10_dearest : Cond.instanceMethod yX10_dearest ∈ xall := xmem (i := 908) (by decide +kernel) (by decide +kernel)
theorem lX10_270 : Cond.methodLink RX10 270 yX2_dearestLine ∈ xall := xmem (i := 911) (by decide +kernel) (by decide +kernel)
theorem iX2_dearestLine : Cond.instanceMethod yX2_dearestLine ∈ xall := xmem (i := 912) (by decide +kernel) (by decide +kernel)
theorem lL_205 : Cond.methodLink RL 205 yL_areRight ∈ xall := xmem (i := 916) (by decide +kernel) (by decide +kernel)
theorem sL_areRight : Cond.static yL_areRight ∈ xall := xmem (i := 917) (by decide +kernel) (by decide +kernel)
theorem lL_230 : Cond.methodLink RL 230 yL_kind ∈ xall := xmem (i := 919) (by decide +kernel) (by decide +kernel)
theorem sL_kind : Cond.static yL_kind ∈ xall := xmem (i := 920) (by decide +kernel) (by decide +kernel)
theorem lL_30 : Cond.methodLink RL 30 yX10_kind ∈ xall := xmem (i := 922) (by decide +kernel) (by decide +kernel)
theorem iX10_kind : Cond.instanceMethod yX10_kind ∈ xall := xmem (i := 923) (by decide +kernel) (by decide +kernel)
theorem lL_232 : Cond.methodLink RL 232 yL_levels ∈ xall := xmem (i := 926) (by decide +kernel) (by decide +kernel)
theorem sL_levels : Cond.static yL_levels ∈ xall := xmem (i := 927) (by decide +kernel) (by decide +kernel)
theorem lL_95 : Cond.methodLink RL 95 yX10_levels ∈ xall := xmem (i := 929) (by decide +kernel) (by decide +kernel)
theorem iX10_levels : Cond.instanceMethod yX10_levels ∈ xall := xmem (i := 930) (by decide +kernel) (by decide +kernel)
theorem lX10_247 : Cond.methodLink RX10 247 yX0_heldLevelsBelow ∈ xall := xmem (i := 933) (by decide +kernel) (by decide +kernel)
theorem iX0_heldLevelsBelow : Cond.instanceMethod yX0_heldLevelsBelow ∈ xall := xmem (i := 934) (by decide +kernel) (by decide +kernel)
theorem lL_234 : Cond.methodLink RL 234 yL_quantityByWalking ∈ xall := xmem (i := 937) (by decide +kernel) (by decide +kernel)
theorem sL_quantityByWalking : Cond.static yL_quantityByWalking ∈ xall := xmem (i := 938) (by decide +kernel) (by decide +kernel)
theorem lL_89 : Cond.methodLink RL 89 yX10_quantityByWalking ∈ xall := xmem (i := 940) (by decide +kernel) (by decide +kernel)
theorem iX10_quantityByWalking : Cond.instanceMethod yX10_quantityByWalking ∈ xall := xmem (i := 941) (by decide +kernel) (by decide +kernel)
theorem lX10_243 : Cond.methodLink RX10 243 yX10_walkQuantity ∈ xall := xmem (i := 944) (by decide +kernel) (by decide +kernel)
theorem sX10_walkQuantity : Cond.static yX10_walkQuantity ∈ xall := xmem (i := 945) (by decide +kernel) (by decide +kernel)
theorem lL_236 : Cond.methodLink RL 236 yL_costByWalking ∈ xall := xmem (i := 947) (by decide +kernel) (by decide +kernel)
theorem sL_costByWalking : Cond.static yL_costByWalking ∈ xall := xmem (i := 948) (by decide +kernel) (by decide +kernel)
theorem lL_104 : Cond.methodLink RL 104 yX10_costByWalking ∈ xall := xmem (i := 950) (by decide +kernel) (by decide +kernel)
theorem iX10_costByWalking : Cond.instanceMethod yX10_costByWalking ∈ xall := xmem (i := 951) (by decide +kernel) (by decide +kernel)
theorem lX10_255 : Cond.methodLink RX10 255 yX10_walkCost ∈ xall := xmem (i := 954) (by decide +kernel) (by decide +kernel)
theorem sX10_walkCost : Cond.static yX10_walkCost ∈ xall := xmem (i := 955) (by decide +kernel) (by decide +kernel)
theorem lX10_431 : Cond.methodLink RX10 431 yX7_ownCost ∈ xall := xmem (i := 957) (by decide +kernel) (by decide +kernel)
theorem lX10_435 : Cond.methodLink RX10 435 yX4_addedCost ∈ xall := xmem (i := 958) (by decide +kernel) (by decide +kernel)
theorem lL_238 : Cond.methodLink RL 238 yJxf58ca_floatToIntBits_5c35a ∈ xall := xmem (i := 959) (by decide +kernel) (by decide +kernel)
theorem sJxf58ca_floatToIntBits_5c35a : Cond.static yJxf58ca_floatToIntBits_5c35a ∈ xall := xmem (i := 960) (by decide +kernel) (by decide +kernel)
theorem lJxf58ca_59 : Cond.methodLink RJxf58ca 59 yJxf58ca_isNaN_12338 ∈ xall := xmem (i := 962) (by decide +kernel) (by decide +kernel)
theorem sJxf58ca_isNaN_12338 : Cond.static yJxf58ca_isNaN_12338 ∈ xall := xmem (i := 963) (by decide +kernel) (by decide +kernel)
theorem lJxf58ca_74 : Cond.methodLink RJxf58ca 74 ⟨"java/lang/Float", "floatToRawIntBits", "(F)I"⟩ ∈ xall := xmem (i := 965) (by decide +kernel) (by decide +kernel)
theorem sjavalangFloat_floatToRawIntBitsFI : Cond.static ⟨"java/lang/Float", "floatToRawIntBits", "(F)I"⟩ ∈ xall := xmem (i := 966) (by decide +kernel) (by decide +kernel)
theorem natjavalangFloat_floatToRawIntBitsFI : Cond.native ⟨"java/lang/Float", "floatToRawIntBits", "(F)I"⟩ ∈ xall := xmem (i := 967) (by decide +kernel) (by decide +kernel)
theorem kJxf58ca_77 : Cond.constant RJxf58ca 77 (2143289344 : Int32) ∈ xall := xmem (i := 968) (by decide +kernel) (by decide +kernel)
theorem lL_244 : Cond.methodLink RL 244 yL_cost ∈ xall := xmem (i := 969) (by decide +kernel) (by decide +kernel)
theorem sL_cost : Cond.static yL_cost ∈ xall := xmem (i := 970) (by decide +kernel) (by decide +kernel)
theorem lL_98 : Cond.methodLink RL 98 yX10_cost ∈ xall := xmem (i := 972) (by decide +kernel) (by decide +kernel)
theorem iX10_cost : Cond.instanceMethod yX10_cost ∈ xall := xmem (i := 973) (by decide +kernel) (by decide +kernel)
theorem lL_246 : Cond.methodLink RL 246 yL_costCents ∈ xall := xmem (i := 976) (by decide +kernel) (by decide +kernel)
theorem sL_costCents : Cond.static yL_costCents ∈ xall := xmem (i := 977) (by decide +kernel) (by decide +kernel)
theorem lL_110 : Cond.methodLink RL 110 yX10_costCents ∈ xall := xmem (i := 979) (by decide +kernel) (by decide +kernel)
theorem iX10_costCents : Cond.instanceMethod yX10_costCents ∈ xall := xmem (i := 980) (by decide +kernel) (by decide +kernel)
theorem kX10_265 : Cond.constantFloat RX10 265 (1120403456 : UInt32) ∈ xall := xmem (i := 983) (by decide +kernel) (by decide +kernel)
theorem kL_248 : Cond.constantFloat RL 248 (1120403456 : UInt32) ∈ xall := xmem (i := 984) (by decide +kernel) (by decide +kernel)
theorem lL_249 : Cond.methodLink RL 249 yL_weight ∈ xall := xmem (i := 985) (by decide +kernel) (by decide +kernel)
theorem sL_weight : Cond.static yL_weight ∈ xall := xmem (i := 986) (by decide +kernel) (by decide +kernel)
theorem lL_116 : Cond.methodLink RL 116 yX10_weight ∈ xall := xmem (i := 988) (by decide +kernel) (by decide +kernel)
theorem iX10_weight : Cond.instanceMethod yX10_weight ∈ xall := xmem (i := 989) (by decide +kernel) (by decide +kernel)
theorem kL_120 : Cond.constantDouble RL 120 (13858490847093325824 : UInt64) ∈ xall := xmem (i := 992) (by decide +kernel) (by decide +kernel)
theorem kL_122 : Cond.constantDouble RL 122 (13858561215837503488 : UInt64) ∈ xall := xmem (i := 993) (by decide +kernel) (by decide +kernel)
theorem lL_252 : Cond.methodLink RL 252 yJxe99ae_doubleToLongBits_ccdee ∈ xall := xmem (i := 994) (by decide +kernel) (by decide +kernel)
theorem sJxe99ae_doubleToLongBits_ccdee : Cond.static yJxe99ae_doubleToLongBits_ccdee ∈ xall := xmem (i := 995) (by decide +kernel) (by decide +kernel)
theorem lJxe99ae_122 : Cond.methodLink RJxe99ae 122 yJxe99ae_isNaN_b9ae7 ∈ xall := xmem (i := 997) (by decide +kernel) (by decide +kernel)
theorem sJxe99ae_isNaN_b9ae7 : Cond.static yJxe99ae_isNaN_b9ae7 ∈ xall := xmem (i := 998) (by decide +kernel) (by decide +kernel)
theorem lJxe99ae_134 : Cond.methodLink RJxe99ae 134 ⟨"java/lang/Double", "doubleToRawLongBits", "(D)J"⟩ ∈ xall := xmem (i := 1000) (by decide +kernel) (by decide +kernel)
theorem sjavalangDouble_doubleToRawLongBitsDJ : Cond.static ⟨"java/lang/Double", "doubleToRawLongBits", "(D)J"⟩ ∈ xall := xmem (i := 1001) (by decide +kernel) (by decide +kernel)
theorem natjavalangDouble_doubleToRawLongBitsDJ : Cond.native ⟨"java/lang/Double", "doubleToRawLongBits", "(D)J"⟩ ∈ xall := xmem (i := 1002) (by decide +kernel) (by decide +kernel)
theorem kJxe99ae_137 : Cond.constantLong RJxe99ae 137 (9221120237041090560 : Int64) ∈ xall := xmem (i := 1003) (by decide +kernel) (by decide +kernel)
theorem lL_258 : Cond.methodLink RL 258 yL_listQuantity ∈ xall := xmem (i := 1004) (by decide +kernel) (by decide +kernel)
theorem sL_listQuantity : Cond.static yL_listQuantity ∈ xall := xmem (i := 1005) (by decide +kernel) (by decide +kernel)
theorem lL_76 : Cond.methodLink RL 76 yX10_listQuantity ∈ xall := xmem (i := 1007) (by decide +kernel) (by decide +kernel)
theorem iX10_listQuantity : Cond.instanceMethod yX10_listQuantity ∈ xall := xmem (i := 1008) (by decide +kernel) (by decide +kernel)
theorem lX10_208 : Cond.methodLink RX10 208 yX10_checkEntry ∈ xall := xmem (i := 1011) (by decide +kernel) (by decide +kernel)
theorem iX10_checkEntry : Cond.instanceMethod yX10_checkEntry ∈ xall := xmem (i := 1013) (by decide +kernel) (by decide +kernel)
theorem kL_84 : Cond.constantLong RL 84 (-75 : Int64) ∈ xall := xmem (i := 1016) (by decide +kernel) (by decide +kernel)
theorem lL_260 : Cond.methodLink RL 260 yL_listPart ∈ xall := xmem (i := 1017) (by decide +kernel) (by decide +kernel)
theorem sL_listPart : Cond.static yL_listPart ∈ xall := xmem (i := 1018) (by decide +kernel) (by decide +kernel)
theorem lL_70 : Cond.methodLink RL 70 yX10_listPart ∈ xall := xmem (i := 1020) (by decide +kernel) (by decide +kernel)
theorem iX10_listPart : Cond.instanceMethod yX10_listPart ∈ xall := xmem (i := 1021) (by decide +kernel) (by decide +kernel)
theorem lL_262 : Cond.methodLink RL 262 yL_areUsed ∈ xall := xmem (i := 1024) (by decide +kernel) (by decide +kernel)
theorem sL_areUsed : Cond.static yL_areUsed ∈ xall := xmem (i := 1025) (by decide +kernel) (by decide +kernel)
theorem lL_266 : Cond.methodLink RL 266 yL_whereUsed ∈ xall := xmem (i := 1027) (by decide +kernel) (by decide +kernel)
theorem sL_whereUsed : Cond.static yL_whereUsed ∈ xall := xmem (i := 1028) (by decide +kernel) (by decide +kernel)
theorem lL_92 : Cond.methodLink RL 92 yX10_whereUsed ∈ xall := xmem (i := 1030) (by decide +kernel) (by decide +kernel)
theorem iX10_whereUsed : Cond.instanceMethod yX10_whereUsed ∈ xall := xmem (i := 1031) (by decide +kernel) (by decide +kernel)
theorem lL_153 : Cond.methodLink RL 153 yJ9_max_7cf53 ∈ xall := xmem (i := 1034) (by decide +kernel) (by decide +kernel)
theorem sJ9_max_7cf53 : Cond.static yJ9_max_7cf53 ∈ xall := xmem (i := 1035) (by decide +kernel) (by decide +kernel)
theorem vX10_checkPart : Cond.selects RX10 yX10_checkPart yX10_checkPart ∈ xall := xmem (i := 1) (by decide +kernel) (by decide +kernel)
theorem vX10_checkNoCircle : Cond.selects RX10 yX10_checkNoCircle yX10_checkNoCircle ∈ xall := xmem (i := 2) (by decide +kernel) (by decide +kernel)
theorem vX10_checkRoomForLine : Cond.selects RX10 yX10_checkRoomForLine yX10_checkRoomForLine ∈ xall := xmem (i := 3) (by decide +kernel) (by decide +kernel)
theorem vX10_checkUnique : Cond.selects RX10 yX10_checkUnique yX10_checkUnique ∈ xall := xmem (i := 4) (by decide +kernel) (by decide +kernel)
theorem vX10_checkLine : Cond.selects RX10 yX10_checkLine yX10_checkLine ∈ xall := xmem (i := 5) (by decide +kernel) (by decide +kernel)
theorem vX10_checkCut : Cond.selects RX10 yX10_checkCut yX10_checkCut ∈ xall := xmem (i := 6) (by decide +kernel) (by decide +kernel)
theorem vX8_goDown : Cond.selects RX8 yX8_goDown yX8_goDown ∈ xall := xmem (i := 7) (by decide +kernel) (by decide +kernel)
theorem vX8_addChildrenOf : Cond.selects RX8 yX8_addChildrenOf yX8_addChildrenOf ∈ xall := xmem (i := 8) (by decide +kernel) (by decide +kernel)
theorem vX2_costOf : Cond.selects RX2 yX2_costOf yX2_costOf ∈ xall := xmem (i := 9) (by decide +kernel) (by decide +kernel)
theorem vX2_addedBy : Cond.selects RX2 yX2_addedBy yX2_addedBy ∈ xall := xmem (i := 10) (by decide +kernel) (by decide +kernel)
theorem vX10_rolledUpCost : Cond.selects RX10 yX10_rolledUpCost yX10_rolledUpCost ∈ xall := xmem (i := 11) (by decide +kernel) (by decide +kernel)
theorem vX10_checkOrder : Cond.selects RX10 yX10_checkOrder yX10_checkOrder ∈ xall := xmem (i := 12) (by decide +kernel) (by decide +kernel)
theorem vX10_rolledUpWeight : Cond.selects RX10 yX10_rolledUpWeight yX10_rolledUpWeight ∈ xall := xmem (i := 13) (by decide +kernel) (by decide +kernel)
theorem vX9_weightOf : Cond.selects RX9 yX9_weightOf yX9_weightOf ∈ xall := xmem (i := 14) (by decide +kernel) (by decide +kernel)
theorem vX10_makeDirectList : Cond.selects RX10 yX10_makeDirectList yX10_makeDirectList ∈ xall := xmem (i := 15) (by decide +kernel) (by decide +kernel)
theorem vX3_grow : Cond.selects RX3 yX3_grow yX3_grow ∈ xall := xmem (i := 16) (by decide +kernel) (by decide +kernel)
theorem vX10_checkEntry : Cond.selects RX10 yX10_checkEntry yX10_checkEntry ∈ xall := xmem (i := 17) (by decide +kernel) (by decide +kernel)
theorem vX10_lines : Cond.selects RX10 yX10_lines yX10_lines ∈ xall := xmem (i := 303) (by decide +kernel) (by decide +kernel)
theorem vX10_isConsistent : Cond.selects RX10 yX10_isConsistent yX10_isConsistent ∈ xall := xmem (i := 307) (by decide +kernel) (by decide +kernel)
theorem vX7_isSound : Cond.selects RX7 yX7_isSound yX7_isSound ∈ xall := xmem (i := 311) (by decide +kernel) (by decide +kernel)
theorem vX4_isSound : Cond.selects RX4 yX4_isSound yX4_isSound ∈ xall := xmem (i := 322) (by decide +kernel) (by decide +kernel)
theorem vX4_isSoundLine : Cond.selects RX4 yX4_isSoundLine yX4_isSoundLine ∈ xall := xmem (i := 327) (by decide +kernel) (by decide +kernel)
theorem vX4_isUnique : Cond.selects RX4 yX4_isUnique yX4_isUnique ∈ xall := xmem (i := 331) (by decide +kernel) (by decide +kernel)
theorem vX4_isAt : Cond.selects RX4 yX4_isAt yX4_isAt ∈ xall := xmem (i := 335) (by decide +kernel) (by decide +kernel)
theorem vX4_overlaps : Cond.selects RX4 yX4_overlaps yX4_overlaps ∈ xall := xmem (i := 339) (by decide +kernel) (by decide +kernel)
theorem vX4_sharesConfiguration : Cond.selects RX4 yX4_sharesConfiguration yX4_sharesConfiguration ∈ xall := xmem (i := 343) (by decide +kernel) (by decide +kernel)
theorem vX0_hasSoundSets : Cond.selects RX0 yX0_hasSoundSets yX0_hasSoundSets ∈ xall := xmem (i := 347) (by decide +kernel) (by decide +kernel)
theorem vX0_isShallow : Cond.selects RX0 yX0_isShallow yX0_isShallow ∈ xall := xmem (i := 351) (by decide +kernel) (by decide +kernel)
theorem vX0_levelsBelow : Cond.selects RX0 yX0_levelsBelow yX0_levelsBelow ∈ xall := xmem (i := 355) (by decide +kernel) (by decide +kernel)
theorem vX5_isSound : Cond.selects RX5 yX5_isSound yX5_isSound ∈ xall := xmem (i := 365) (by decide +kernel) (by decide +kernel)
theorem vX10_addPart : Cond.selects RX10 yX10_addPart yX10_addPart ∈ xall := xmem (i := 387) (by decide +kernel) (by decide +kernel)
theorem vX7_add : Cond.selects RX7 yX7_add yX7_add ∈ xall := xmem (i := 490) (by decide +kernel) (by decide +kernel)
theorem vX10_setPrice : Cond.selects RX10 yX10_setPrice yX10_setPrice ∈ xall := xmem (i := 498) (by decide +kernel) (by decide +kernel)
theorem vX10_addLine : Cond.selects RX10 yX10_addLine yX10_addLine ∈ xall := xmem (i := 526) (by decide +kernel) (by decide +kernel)
theorem vX0_isWithin : Cond.selects RX0 yX0_isWithin yX0_isWithin ∈ xall := xmem (i := 546) (by decide +kernel) (by decide +kernel)
theorem vX0_levelsAbove : Cond.selects RX0 yX0_levelsAbove yX0_levelsAbove ∈ xall := xmem (i := 570) (by decide +kernel) (by decide +kernel)
theorem vX0_add : Cond.selects RX0 yX0_add yX0_add ∈ xall := xmem (i := 585) (by decide +kernel) (by decide +kernel)
theorem vX4_add : Cond.selects RX4 yX4_add yX4_add ∈ xall := xmem (i := 589) (by decide +kernel) (by decide +kernel)
theorem vX4_setRange : Cond.selects RX4 yX4_setRange yX4_setRange ∈ xall := xmem (i := 593) (by decide +kernel) (by decide +kernel)
theorem vX4_setCondition : Cond.selects RX4 yX4_setCondition yX4_setCondition ∈ xall := xmem (i := 597) (by decide +kernel) (by decide +kernel)
theorem vX10_addVariant : Cond.selects RX10 yX10_addVariant yX10_addVariant ∈ xall := xmem (i := 604) (by decide +kernel) (by decide +kernel)
theorem vX10_replaceFrom : Cond.selects RX10 yX10_replaceFrom yX10_replaceFrom ∈ xall := xmem (i := 615) (by decide +kernel) (by decide +kernel)
theorem vX10_endBefore : Cond.selects RX10 yX10_endBefore yX10_endBefore ∈ xall := xmem (i := 632) (by decide +kernel) (by decide +kernel)
theorem vX10_setScrap : Cond.selects RX10 yX10_setScrap yX10_setScrap ∈ xall := xmem (i := 639) (by decide +kernel) (by decide +kernel)
theorem vX10_lastSerial : Cond.selects RX10 yX10_lastSerial yX10_lastSerial ∈ xall := xmem (i := 647) (by decide +kernel) (by decide +kernel)
theorem vX10_holds : Cond.selects RX10 yX10_holds yX10_holds ∈ xall := xmem (i := 654) (by decide +kernel) (by decide +kernel)
theorem vX4_isHolding : Cond.selects RX4 yX4_isHolding yX4_isHolding ∈ xall := xmem (i := 662) (by decide +kernel) (by decide +kernel)
theorem vX10_setChoice : Cond.selects RX10 yX10_setChoice yX10_setChoice ∈ xall := xmem (i := 672) (by decide +kernel) (by decide +kernel)
theorem vX10_choice : Cond.selects RX10 yX10_choice yX10_choice ∈ xall := xmem (i := 685) (by decide +kernel) (by decide +kernel)
theorem vX10_quantity : Cond.selects RX10 yX10_quantity yX10_quantity ∈ xall := xmem (i := 692) (by decide +kernel) (by decide +kernel)
theorem vX0_select : Cond.selects RX0 yX0_select yX0_select ∈ xall := xmem (i := 696) (by decide +kernel) (by decide +kernel)
theorem vX8_count : Cond.selects RX8 yX8_count yX8_count ∈ xall := xmem (i := 704) (by decide +kernel) (by decide +kernel)
theorem vX0_heldLine : Cond.selects RX0 yX0_heldLine yX0_heldLine ∈ xall := xmem (i := 719) (by decide +kernel) (by decide +kernel)
theorem vX10_markCosts : Cond.selects RX10 yX10_markCosts yX10_markCosts ∈ xall := xmem (i := 728) (by decide +kernel) (by decide +kernel)
theorem vX2_rollUp : Cond.selects RX2 yX2_rollUp yX2_rollUp ∈ xall := xmem (i := 732) (by decide +kernel) (by decide +kernel)
theorem vX0_hasHeldChildrenIn : Cond.selects RX0 yX0_hasHeldChildrenIn yX0_hasHeldChildrenIn ∈ xall := xmem (i := 736) (by decide +kernel) (by decide +kernel)
theorem vX7_ownCost : Cond.selects RX7 yX7_ownCost yX7_ownCost ∈ xall := xmem (i := 744) (by decide +kernel) (by decide +kernel)
theorem vX4_addedCost : Cond.selects RX4 yX4_addedCost yX4_addedCost ∈ xall := xmem (i := 754) (by decide +kernel) (by decide +kernel)
theorem vX10_costChange : Cond.selects RX10 yX10_costChange yX10_costChange ∈ xall := xmem (i := 763) (by decide +kernel) (by decide +kernel)
theorem vX10_order : Cond.selects RX10 yX10_order yX10_order ∈ xall := xmem (i := 793) (by decide +kernel) (by decide +kernel)
theorem vX5_add : Cond.selects RX5 yX5_add yX5_add ∈ xall := xmem (i := 799) (by decide +kernel) (by decide +kernel)
theorem vX10_cancel : Cond.selects RX10 yX10_cancel yX10_cancel ∈ xall := xmem (i := 806) (by decide +kernel) (by decide +kernel)
theorem vX5_countOpen : Cond.selects RX5 yX5_countOpen yX5_countOpen ∈ xall := xmem (i := 816) (by decide +kernel) (by decide +kernel)
theorem vX10_need : Cond.selects RX10 yX10_need yX10_need ∈ xall := xmem (i := 823) (by decide +kernel) (by decide +kernel)
theorem vX10_costBits : Cond.selects RX10 yX10_costBits yX10_costBits ∈ xall := xmem (i := 835) (by decide +kernel) (by decide +kernel)
theorem vX10_weightBits : Cond.selects RX10 yX10_weightBits yX10_weightBits ∈ xall := xmem (i := 847) (by decide +kernel) (by decide +kernel)
theorem vX9_rollUp : Cond.selects RX9 yX9_rollUp yX9_rollUp ∈ xall := xmem (i := 855) (by decide +kernel) (by decide +kernel)
theorem vX7_ownWeight : Cond.selects RX7 yX7_ownWeight yX7_ownWeight ∈ xall := xmem (i := 864) (by decide +kernel) (by decide +kernel)
theorem vX10_listSize : Cond.selects RX10 yX10_listSize yX10_listSize ∈ xall := xmem (i := 879) (by decide +kernel) (by decide +kernel)
theorem vX3_clear : Cond.selects RX3 yX3_clear yX3_clear ∈ xall := xmem (i := 887) (by decide +kernel) (by decide +kernel)
theorem vX3_add : Cond.selects RX3 yX3_add yX3_add ∈ xall := xmem (i := 895) (by decide +kernel) (by decide +kernel)
theorem vX10_dearest : Cond.selects RX10 yX10_dearest yX10_dearest ∈ xall := xmem (i := 909) (by decide +kernel) (by decide +kernel)
theorem vX2_dearestLine : Cond.selects RX2 yX2_dearestLine yX2_dearestLine ∈ xall := xmem (i := 913) (by decide +kernel) (by decide +kernel)
theorem vX10_kind : Cond.selects RX10 yX10_kind yX10_kind ∈ xall := xmem (i := 924) (by decide +kernel) (by decide +kernel)
theorem vX10_levels : Cond.selects RX10 yX10_levels yX10_levels ∈ xall := xmem (i := 931) (by decide +kernel) (by decide +kernel)
theorem vX0_heldLevelsBelow : Cond.selects RX0 yX0_heldLevelsBelow yX0_heldLevelsBelow ∈ xall := xmem (i := 935) (by decide +kernel) (by decide +kernel)
theorem vX10_quantityByWalking : Cond.selects RX10 yX10_quantityByWalking yX10_quantityByWalking ∈ xall := xmem (i := 942) (by decide +kernel) (by decide +kernel)
theorem vX10_costByWalking : Cond.selects RX10 yX10_costByWalking yX10_costByWalking ∈ xall := xmem (i := 952) (by decide +kernel) (by decide +kernel)
theorem vX10_cost : Cond.selects RX10 yX10_cost yX10_cost ∈ xall := xmem (i := 974) (by decide +kernel) (by decide +kernel)
theorem vX10_costCents : Cond.selects RX10 yX10_costCents yX10_costCents ∈ xall := xmem (i := 981) (by decide +kernel) (by decide +kernel)
theorem vX10_weight : Cond.selects RX10 yX10_weight yX10_weight ∈ xall := xmem (i := 990) (by decide +kernel) (by decide +kernel)
theorem vX10_listQuantity : Cond.selects RX10 yX10_listQuantity yX10_listQuantity ∈ xall := xmem (i := 1009) (by decide +kernel) (by decide +kernel)
theorem vX10_listPart : Cond.selects RX10 yX10_listPart yX10_listPart ∈ xall := xmem (i := 1022) (by decide +kernel) (by decide +kernel)
theorem vX10_whereUsed : Cond.selects RX10 yX10_whereUsed yX10_whereUsed ∈ xall := xmem (i := 1032) (by decide +kernel) (by decide +kernel)
abbrev mX0_init : Mth := (RX0, yX0_init, cX0_init, 1, none, [])
theorem kmX0_init : KM mX0_init 0 := ⟨xmem (i := 55) (by decide +kernel) (by decide +kernel), xmem (i := 20) (by decide +kernel) (by decide +kernel), by decide +kernel, by decide +kernel, by decide +kernel, rfl, by decide⟩
abbrev mX0_add : Mth := (RX0, yX0_add, cX0_add, 5, some .int, [])
theorem kmX0_add : KM mX0_add 4 := ⟨xmem (i := 586) (by decide +kernel) (by decide +kernel), xmem (i := 20) (by decide +kernel) (by decide +kernel), by decide +kernel, by decide +kernel, by decide +kernel, rfl, by decide⟩
abbrev mX0_select : Mth := (RX0, yX0_select, cX0_select, 5, none, [])
theorem kmX0_select : KM mX0_select 2 := ⟨xmem (i := 697) (by decide +kernel) (by decide +kernel), xmem (i := 20) (by decide +kernel) (by decide +kernel), by decide +kernel, by decide +kernel, by decide +kernel, rfl, by decide⟩
abbrev mX0_heldLine : Mth := (RX0, yX0_heldLine, cX0_heldLine, 3, some .int, [])
theorem kmX0_heldLine : KM mX0_heldLine 2 := ⟨xmem (i := 720) (by decide +kernel) (by decide +kernel), xmem (i := 20) (by decide +kernel) (by decide +kernel), by decide +kernel, by decide +kernel, by decide +kernel, rfl, by decide⟩
abbrev mX0_hasHeldChildrenIn : Mth := (RX0, yX0_hasHeldChildrenIn, cX0_hasHeldChildrenIn, 3, some .boolean, [])
theorem kmX0_hasHeldChildrenIn : KM mX0_hasHeldChildrenIn 2 := ⟨xmem (i := 737) (by decide +kernel) (by decide +kernel), xmem (i := 20) (by decide +kernel) (by decide +kernel), by decide +kernel, by decide +kernel, by decide +kernel, rfl, by decide⟩
abbrev mX0_levelsBelow : Mth := (RX0, yX0_levelsBelow, cX0_levelsBelow, 2, some .int, [])
theorem kmX0_levelsBelow : KM mX0_levelsBelow 1 := ⟨xmem (i := 356) (by decide +kernel) (by decide +kernel), xmem (i := 20) (by decide +kernel) (by decide +kernel), by decide +kernel, by decide +kernel, by decide +kernel, rfl, by decide⟩
abbrev mX0_levelsAbove : Mth := (RX0, yX0_levelsAbove, cX0_levelsAbove, 2, some .int, [])
theorem kmX0_levelsAbove : KM mX0_levelsAbove 1 := ⟨xmem (i := 571) (by decide +kernel) (by decide +kernel), xmem (i := 20) (by decide +kernel) (by decide +kernel), by decide +kernel, by decide +kernel, by decide +kernel, rfl, by decide⟩
abbrev mX0_heldLevelsBelow : Mth := (RX0, yX0_heldLevelsBelow, cX0_heldLevelsBelow, 2, some .int, [])
theorem kmX0_heldLevelsBelow : KM mX0_heldLevelsBelow 1 := ⟨xmem (i := 936) (by decide +kernel) (by decide +kernel), xmem (i := 20) (by decide +kernel) (by decide +kernel), by decide +kernel, by decide +kernel, by decide +kernel, rfl, by decide⟩
abbrev mX0_isWithin : Mth := (RX0, yX0_isWithin, cX0_isWithin, 5, some .boolean, [])
theorem kmX0_isWithin : KM mX0_isWithin 2 := ⟨xmem (i := 547) (by decide +kernel) (by decide +kernel), xmem (i := 20) (by decide +kernel) (by decide +kernel), by decide +kernel, by decide +kernel, by decide +kernel, rfl, by decide⟩
abbrev mX0_isShallow : Mth := (RX0, yX0_isShallow, cX0_isShallow, 2, some .boolean, [])
theorem kmX0_isShallow : KM mX0_isShallow 0 := ⟨xmem (i := 352) (by decide +kernel) (by decide +kernel), xmem (i := 20) (by decide +kernel) (by decide +kernel), by decide +kernel, by decide +kernel, by decide +kernel, rfl, by decide⟩
abbrev mX0_hasSoundSets : Mth := (RX0, yX0_hasSoundSets, cX0_hasSoundSets, 5, some .boolean, [])
theorem kmX0_hasSoundSets : KM mX0_hasSoundSets 0 := ⟨xmem (i := 348) (by decide +kernel) (by decide +kernel), xmem (i := 20) (by decide +kernel) (by decide +kernel), by decide +kernel, by decide +kernel, by decide +kernel, rfl, by decide⟩
abbrev mX0_placeOf : Mth := (RX0, yX0_placeOf, cX0_placeOf, 2, some .int, [])
theorem kmX0_placeOf : KM mX0_placeOf 2 := ⟨xmem (i := 701) (by decide +kernel) (by decide +kernel), xmem (i := 20) (by decide +kernel) (by decide +kernel), by decide +kernel, by decide +kernel, by decide +kernel, rfl, by decide⟩
abbrev mX0_stepsFrom : Mth := (RX0, yX0_stepsFrom, cX0_stepsFrom, 4, some .int, [])
theorem kmX0_stepsFrom : KM mX0_stepsFrom 2 := ⟨xmem (i := 359) (by decide +kernel) (by decide +kernel), xmem (i := 20) (by decide +kernel) (by decide +kernel), by decide +kernel, by decide +kernel, by decide +kernel, rfl, by decide⟩
abbrev mX0_unionOf : Mth := (RX0, yX0_unionOf, cX0_unionOf, 4, some .int, [])
theorem kmX0_unionOf : KM mX0_unionOf 2 := ⟨xmem (i := 362) (by decide +kernel) (by decide +kernel), xmem (i := 20) (by decide +kernel) (by decide +kernel), by decide +kernel, by decide +kernel, by decide +kernel, rfl, by decide⟩
abbrev mX1_ofFloat : Mth := (RX1, yX1_ofFloat, cX1_ofFloat, 3, some .int, [])
theorem kmX1_ofFloat : KM mX1_ofFloat 1 := ⟨xmem (i := 839) (by decide +kernel) (by decide +kernel), xmem (i := 36) (by decide +kernel) (by decide +kernel), by decide +kernel, by decide +kernel, by decide +kernel, rfl, by decide⟩
abbrev mX1_ofDouble : Mth := (RX1, yX1_ofDouble, cX1_ofDouble, 5, some .long, [])
theorem kmX1_ofDouble : KM mX1_ofDouble 1 := ⟨xmem (i := 870) (by decide +kernel) (by decide +kernel), xmem (i := 36) (by decide +kernel) (by decide +kernel), by decide +kernel, by decide +kernel, by decide +kernel, rfl, by decide⟩
abbrev mX2_init : Mth := (RX2, yX2_init, cX2_init, 1, none, [])
theorem kmX2_init : KM mX2_init 0 := ⟨xmem (i := 218) (by decide +kernel) (by decide +kernel), xmem (i := 25) (by decide +kernel) (by decide +kernel), by decide +kernel, by decide +kernel, by decide +kernel, rfl, by decide⟩
abbrev mX2_rollUp : Mth := (RX2, yX2_rollUp, cX2_rollUp, 5, none, [])
theorem kmX2_rollUp : KM mX2_rollUp 1 := ⟨xmem (i := 733) (by decide +kernel) (by decide +kernel), xmem (i := 25) (by decide +kernel) (by decide +kernel), by decide +kernel, by decide +kernel, by decide +kernel, rfl, by decide⟩
abbrev mX2_dearestLine : Mth := (RX2, yX2_dearestLine, cX2_dearestLine, 6, some .int, [])
theorem kmX2_dearestLine : KM mX2_dearestLine 2 := ⟨xmem (i := 914) (by decide +kernel) (by decide +kernel), xmem (i := 25) (by decide +kernel) (by decide +kernel), by decide +kernel, by decide +kernel, by decide +kernel, rfl, by decide⟩
abbrev mX2_costOf : Mth := (RX2, yX2_costOf, cX2_costOf, 6, some .float, [])
theorem kmX2_costOf : KM mX2_costOf 2 := ⟨xmem (i := 741) (by decide +kernel) (by decide +kernel), xmem (i := 25) (by decide +kernel) (by decide +kernel), by decide +kernel, by decide +kernel, by decide +kernel, rfl, by decide⟩
abbrev mX2_addedBy : Mth := (RX2, yX2_addedBy, cX2_addedBy, 3, some .float, [])
theorem kmX2_addedBy : KM mX2_addedBy 2 := ⟨xmem (i := 751) (by decide +kernel) (by decide +kernel), xmem (i := 25) (by decide +kernel) (by decide +kernel), by decide +kernel, by decide +kernel, by decide +kernel, rfl, by decide⟩
abbrev mX3_init : Mth := (RX3, yX3_init, cX3_init, 1, none, [])
theorem kmX3_init : KM mX3_init 0 := ⟨xmem (i := 242) (by decide +kernel) (by decide +kernel), xmem (i := 27) (by decide +kernel) (by decide +kernel), by decide +kernel, by decide +kernel, by decide +kernel, rfl, by decide⟩
abbrev mX3_clear : Mth := (RX3, yX3_clear, cX3_clear, 1, none, [])
theorem kmX3_clear : KM mX3_clear 0 := ⟨xmem (i := 888) (by decide +kernel) (by decide +kernel), xmem (i := 27) (by decide +kernel) (by decide +kernel), by decide +kernel, by decide +kernel, by decide +kernel, rfl, by decide⟩
abbrev mX3_add : Mth := (RX3, yX3_add, cX3_add, 4, none, [])
theorem kmX3_add : KM mX3_add 2 := ⟨xmem (i := 896) (by decide +kernel) (by decide +kernel), xmem (i := 27) (by decide +kernel) (by decide +kernel), by decide +kernel, by decide +kernel, by decide +kernel, rfl, by decide⟩
abbrev mX3_grow : Mth := (RX3, yX3_grow, cX3_grow, 3, none, [])
theorem kmX3_grow : KM mX3_grow 0 := ⟨xmem (i := 900) (by decide +kernel) (by decide +kernel), xmem (i := 27) (by decide +kernel) (by decide +kernel), by decide +kernel, by decide +kernel, by decide +kernel, rfl, by decide⟩
abbrev mX4_init : Mth := (RX4, yX4_init, cX4_init, 1, none, [])
theorem kmX4_init : KM mX4_init 0 := ⟨xmem (i := 89) (by decide +kernel) (by decide +kernel), xmem (i := 22) (by decide +kernel) (by decide +kernel), by decide +kernel, by decide +kernel, by decide +kernel, rfl, by decide⟩
abbrev mX4_add : Mth := (RX4, yX4_add, cX4_add, 6, some .int, [])
theorem kmX4_add : KM mX4_add 4 := ⟨xmem (i := 590) (by decide +kernel) (by decide +kernel), xmem (i := 22) (by decide +kernel) (by decide +kernel), by decide +kernel, by decide +kernel, by decide +kernel, rfl, by decide⟩
abbrev mX4_setRange : Mth := (RX4, yX4_setRange, cX4_setRange, 4, none, [])
theorem kmX4_setRange : KM mX4_setRange 3 := ⟨xmem (i := 594) (by decide +kernel) (by decide +kernel), xmem (i := 22) (by decide +kernel) (by decide +kernel), by decide +kernel, by decide +kernel, by decide +kernel, rfl, by decide⟩
abbrev mX4_setCondition : Mth := (RX4, yX4_setCondition, cX4_setCondition, 4, none, [])
theorem kmX4_setCondition : KM mX4_setCondition 3 := ⟨xmem (i := 598) (by decide +kernel) (by decide +kernel), xmem (i := 22) (by decide +kernel) (by decide +kernel), by decide +kernel, by decide +kernel, by decide +kernel, rfl, by decide⟩
abbrev mX4_isHolding : Mth := (RX4, yX4_isHolding, cX4_isHolding, 5, some .boolean, [])
theorem kmX4_isHolding : KM mX4_isHolding 3 := ⟨xmem (i := 663) (by decide +kernel) (by decide +kernel), xmem (i := 22) (by decide +kernel) (by decide +kernel), by decide +kernel, by decide +kernel, by decide +kernel, rfl, by decide⟩
abbrev mX4_isAt : Mth := (RX4, yX4_isAt, cX4_isAt, 4, some .boolean, [])
theorem kmX4_isAt : KM mX4_isAt 3 := ⟨xmem (i := 336) (by decide +kernel) (by decide +kernel), xmem (i := 22) (by decide +kernel) (by decide +kernel), by decide +kernel, by decide +kernel, by decide +kernel, rfl, by decide⟩
abbrev mX4_overlaps : Mth := (RX4, yX4_overlaps, cX4_overlaps, 4, some .boolean, [])
theorem kmX4_overlaps : KM mX4_overlaps 3 := ⟨xmem (i := 340) (by decide +kernel) (by decide +kernel), xmem (i := 22) (by decide +kernel) (by decide +kernel), by decide +kernel, by decide +kernel, by decide +kernel, rfl, by decide⟩
abbrev mX4_sharesConfiguration : Mth := (RX4, yX4_sharesConfiguration, cX4_sharesConfiguration, 4, some .boolean, [])
theorem kmX4_sharesConfiguration : KM mX4_sharesConfiguration 3 := ⟨xmem (i := 344) (by decide +kernel) (by decide +kernel), xmem (i := 22) (by decide +kernel) (by decide +kernel), by decide +kernel, by decide +kernel, by decide +kernel, rfl, by decide⟩
abbrev mX4_addedCost : Mth := (RX4, yX4_addedCost, cX4_addedCost, 3, some .float, [])
theorem kmX4_addedCost : KM mX4_addedCost 2 := ⟨xmem (i := 755) (by decide +kernel) (by decide +kernel), xmem (i := 22) (by decide +kernel) (by decide +kernel), by decide +kernel, by decide +kernel, by decide +kernel, rfl, by decide⟩
abbrev mX4_isSound : Mth := (RX4, yX4_isSound, cX4_isSound, 3, some .boolean, [])
theorem kmX4_isSound : KM mX4_isSound 1 := ⟨xmem (i := 323) (by decide +kernel) (by decide +kernel), xmem (i := 22) (by decide +kernel) (by decide +kernel), by decide +kernel, by decide +kernel, by decide +kernel, rfl, by decide⟩
abbrev mX4_isSoundLine : Mth := (RX4, yX4_isSoundLine, cX4_isSoundLine, 3, some .boolean, [])
theorem kmX4_isSoundLine : KM mX4_isSoundLine 2 := ⟨xmem (i := 328) (by decide +kernel) (by decide +kernel), xmem (i := 22) (by decide +kernel) (by decide +kernel), by decide +kernel, by decide +kernel, by decide +kernel, rfl, by decide⟩
abbrev mX4_isUnique : Mth := (RX4, yX4_isUnique, cX4_isUnique, 3, some .boolean, [])
theorem kmX4_isUnique : KM mX4_isUnique 0 := ⟨xmem (i := 332) (by decide +kernel) (by decide +kernel), xmem (i := 22) (by decide +kernel) (by decide +kernel), by decide +kernel, by decide +kernel, by decide +kernel, rfl, by decide⟩
abbrev mX5_init : Mth := (RX5, yX5_init, cX5_init, 1, none, [])
theorem kmX5_init : KM mX5_init 0 := ⟨xmem (i := 172) (by decide +kernel) (by decide +kernel), xmem (i := 23) (by decide +kernel) (by decide +kernel), by decide +kernel, by decide +kernel, by decide +kernel, rfl, by decide⟩
abbrev mX5_add : Mth := (RX5, yX5_add, cX5_add, 6, some .int, [])
theorem kmX5_add : KM mX5_add 4 := ⟨xmem (i := 800) (by decide +kernel) (by decide +kernel), xmem (i := 23) (by decide +kernel) (by decide +kernel), by decide +kernel, by decide +kernel, by decide +kernel, rfl, by decide⟩
abbrev mX5_countOpen : Mth := (RX5, yX5_countOpen, cX5_countOpen, 3, some .int, [])
theorem kmX5_countOpen : KM mX5_countOpen 0 := ⟨xmem (i := 817) (by decide +kernel) (by decide +kernel), xmem (i := 23) (by decide +kernel) (by decide +kernel), by decide +kernel, by decide +kernel, by decide +kernel, rfl, by decide⟩
abbrev mX5_isSound : Mth := (RX5, yX5_isSound, cX5_isSound, 3, some .boolean, [])
theorem kmX5_isSound : KM mX5_isSound 1 := ⟨xmem (i := 366) (by decide +kernel) (by decide +kernel), xmem (i := 23) (by decide +kernel) (by decide +kernel), by decide +kernel, by decide +kernel, by decide +kernel, rfl, by decide⟩
abbrev mX6_init : Mth := (RX6, yX6_init, cX6_init, 1, none, [])
theorem kmX6_init : KM mX6_init 0 := ⟨xmem (i := 261) (by decide +kernel) (by decide +kernel), xmem (i := 28) (by decide +kernel) (by decide +kernel), by decide +kernel, by decide +kernel, by decide +kernel, rfl, by decide⟩
abbrev mX7_init : Mth := (RX7, yX7_init, cX7_init, 1, none, [])
theorem kmX7_init : KM mX7_init 0 := ⟨xmem (i := 61) (by decide +kernel) (by decide +kernel), xmem (i := 21) (by decide +kernel) (by decide +kernel), by decide +kernel, by decide +kernel, by decide +kernel, rfl, by decide⟩
abbrev mX7_add : Mth := (RX7, yX7_add, cX7_add, 5, some .int, [])
theorem kmX7_add : KM mX7_add 3 := ⟨xmem (i := 491) (by decide +kernel) (by decide +kernel), xmem (i := 21) (by decide +kernel) (by decide +kernel), by decide +kernel, by decide +kernel, by decide +kernel, rfl, by decide⟩
abbrev mX7_ownCost : Mth := (RX7, yX7_ownCost, cX7_ownCost, 2, some .float, [])
theorem kmX7_ownCost : KM mX7_ownCost 1 := ⟨xmem (i := 745) (by decide +kernel) (by decide +kernel), xmem (i := 21) (by decide +kernel) (by decide +kernel), by decide +kernel, by decide +kernel, by decide +kernel, rfl, by decide⟩
abbrev mX7_ownWeight : Mth := (RX7, yX7_ownWeight, cX7_ownWeight, 2, some .double, [])
theorem kmX7_ownWeight : KM mX7_ownWeight 1 := ⟨xmem (i := 865) (by decide +kernel) (by decide +kernel), xmem (i := 21) (by decide +kernel) (by decide +kernel), by decide +kernel, by decide +kernel, by decide +kernel, rfl, by decide⟩
abbrev mX7_isSound : Mth := (RX7, yX7_isSound, cX7_isSound, 2, some .boolean, [])
theorem kmX7_isSound : KM mX7_isSound 0 := ⟨xmem (i := 312) (by decide +kernel) (by decide +kernel), xmem (i := 21) (by decide +kernel) (by decide +kernel), by decide +kernel, by decide +kernel, by decide +kernel, rfl, by decide⟩
abbrev mX8_init : Mth := (RX8, yX8_init, cX8_init, 1, none, [])
theorem kmX8_init : KM mX8_init 0 := ⟨xmem (i := 204) (by decide +kernel) (by decide +kernel), xmem (i := 24) (by decide +kernel) (by decide +kernel), by decide +kernel, by decide +kernel, by decide +kernel, rfl, by decide⟩
abbrev mX8_count : Mth := (RX8, yX8_count, cX8_count, 7, some .long, [])
theorem kmX8_count : KM mX8_count 3 := ⟨xmem (i := 705) (by decide +kernel) (by decide +kernel), xmem (i := 24) (by decide +kernel) (by decide +kernel), by decide +kernel, by decide +kernel, by decide +kernel, rfl, by decide⟩
abbrev mX8_goDown : Mth := (RX8, yX8_goDown, cX8_goDown, 3, none, [])
theorem kmX8_goDown : KM mX8_goDown 1 := ⟨xmem (i := 712) (by decide +kernel) (by decide +kernel), xmem (i := 24) (by decide +kernel) (by decide +kernel), by decide +kernel, by decide +kernel, by decide +kernel, rfl, by decide⟩
abbrev mX8_addChildrenOf : Mth := (RX8, yX8_addChildrenOf, cX8_addChildrenOf, 5, none, [])
theorem kmX8_addChildrenOf : KM mX8_addChildrenOf 2 := ⟨xmem (i := 716) (by decide +kernel) (by decide +kernel), xmem (i := 24) (by decide +kernel) (by decide +kernel), by decide +kernel, by decide +kernel, by decide +kernel, rfl, by decide⟩
abbrev mX8_clear : Mth := (RX8, yX8_clear, cX8_clear, 2, none, [])
theorem kmX8_clear : KM mX8_clear 1 := ⟨xmem (i := 708) (by decide +kernel) (by decide +kernel), xmem (i := 24) (by decide +kernel) (by decide +kernel), by decide +kernel, by decide +kernel, by decide +kernel, rfl, by decide⟩
abbrev mX9_init : Mth := (RX9, yX9_init, cX9_init, 1, none, [])
theorem kmX9_init : KM mX9_init 0 := ⟨xmem (i := 230) (by decide +kernel) (by decide +kernel), xmem (i := 26) (by decide +kernel) (by decide +kernel), by decide +kernel, by decide +kernel, by decide +kernel, rfl, by decide⟩
abbrev mX9_rollUp : Mth := (RX9, yX9_rollUp, cX9_rollUp, 5, none, [])
theorem kmX9_rollUp : KM mX9_rollUp 1 := ⟨xmem (i := 856) (by decide +kernel) (by decide +kernel), xmem (i := 26) (by decide +kernel) (by decide +kernel), by decide +kernel, by decide +kernel, by decide +kernel, rfl, by decide⟩
abbrev mX9_weightOf : Mth := (RX9, yX9_weightOf, cX9_weightOf, 7, some .double, [])
theorem kmX9_weightOf : KM mX9_weightOf 2 := ⟨xmem (i := 861) (by decide +kernel) (by decide +kernel), xmem (i := 26) (by decide +kernel) (by decide +kernel), by decide +kernel, by decide +kernel, by decide +kernel, rfl, by decide⟩
abbrev mX10_init : Mth := (RX10, yX10_init, cX10_init, 1, none, [])
theorem kmX10_init : KM mX10_init 0 := ⟨xmem (i := 47) (by decide +kernel) (by decide +kernel), xmem (i := 19) (by decide +kernel) (by decide +kernel), by decide +kernel, by decide +kernel, by decide +kernel, rfl, by decide⟩
abbrev mX10_addPart : Mth := (RX10, yX10_addPart, cX10_addPart, 4, some .int, [])
theorem kmX10_addPart : KM mX10_addPart 3 := ⟨xmem (i := 388) (by decide +kernel) (by decide +kernel), xmem (i := 19) (by decide +kernel) (by decide +kernel), by decide +kernel, by decide +kernel, by decide +kernel, rfl, by decide⟩
abbrev mX10_setPrice : Mth := (RX10, yX10_setPrice, cX10_setPrice, 4, some .int, [])
theorem kmX10_setPrice : KM mX10_setPrice 2 := ⟨xmem (i := 499) (by decide +kernel) (by decide +kernel), xmem (i := 19) (by decide +kernel) (by decide +kernel), by decide +kernel, by decide +kernel, by decide +kernel, rfl, by decide⟩
abbrev mX10_kind : Mth := (RX10, yX10_kind, cX10_kind, 2, some .char, [])
theorem kmX10_kind : KM mX10_kind 1 := ⟨xmem (i := 925) (by decide +kernel) (by decide +kernel), xmem (i := 19) (by decide +kernel) (by decide +kernel), by decide +kernel, by decide +kernel, by decide +kernel, rfl, by decide⟩
abbrev mX10_addLine : Mth := (RX10, yX10_addLine, cX10_addLine, 8, some .int, [])
theorem kmX10_addLine : KM mX10_addLine 6 := ⟨xmem (i := 527) (by decide +kernel) (by decide +kernel), xmem (i := 19) (by decide +kernel) (by decide +kernel), by decide +kernel, by decide +kernel, by decide +kernel, rfl, by decide⟩
abbrev mX10_addVariant : Mth := (RX10, yX10_addVariant, cX10_addVariant, 8, some .int, [])
theorem kmX10_addVariant : KM mX10_addVariant 6 := ⟨xmem (i := 605) (by decide +kernel) (by decide +kernel), xmem (i := 19) (by decide +kernel) (by decide +kernel), by decide +kernel, by decide +kernel, by decide +kernel, rfl, by decide⟩
abbrev mX10_replaceFrom : Mth := (RX10, yX10_replaceFrom, cX10_replaceFrom, 7, some .int, [])
theorem kmX10_replaceFrom : KM mX10_replaceFrom 4 := ⟨xmem (i := 616) (by decide +kernel) (by decide +kernel), xmem (i := 19) (by decide +kernel) (by decide +kernel), by decide +kernel, by decide +kernel, by decide +kernel, rfl, by decide⟩
abbrev mX10_endBefore : Mth := (RX10, yX10_endBefore, cX10_endBefore, 4, some .int, [])
theorem kmX10_endBefore : KM mX10_endBefore 2 := ⟨xmem (i := 633) (by decide +kernel) (by decide +kernel), xmem (i := 19) (by decide +kernel) (by decide +kernel), by decide +kernel, by decide +kernel, by decide +kernel, rfl, by decide⟩
abbrev mX10_setScrap : Mth := (RX10, yX10_setScrap, cX10_setScrap, 4, some .int, [])
theorem kmX10_setScrap : KM mX10_setScrap 2 := ⟨xmem (i := 640) (by decide +kernel) (by decide +kernel), xmem (i := 19) (by decide +kernel) (by decide +kernel), by decide +kernel, by decide +kernel, by decide +kernel, rfl, by decide⟩
abbrev mX10_lines : Mth := (RX10, yX10_lines, cX10_lines, 1, some .int, [])
theorem kmX10_lines : KM mX10_lines 0 := ⟨xmem (i := 304) (by decide +kernel) (by decide +kernel), xmem (i := 19) (by decide +kernel) (by decide +kernel), by decide +kernel, by decide +kernel, by decide +kernel, rfl, by decide⟩
abbrev mX10_lastSerial : Mth := (RX10, yX10_lastSerial, cX10_lastSerial, 2, some .int, [])
theorem kmX10_lastSerial : KM mX10_lastSerial 1 := ⟨xmem (i := 648) (by decide +kernel) (by decide +kernel), xmem (i := 19) (by decide +kernel) (by decide +kernel), by decide +kernel, by decide +kernel, by decide +kernel, rfl, by decide⟩
abbrev mX10_holds : Mth := (RX10, yX10_holds, cX10_holds, 3, some .boolean, [])
theorem kmX10_holds : KM mX10_holds 2 := ⟨xmem (i := 655) (by decide +kernel) (by decide +kernel), xmem (i := 19) (by decide +kernel) (by decide +kernel), by decide +kernel, by decide +kernel, by decide +kernel, rfl, by decide⟩
abbrev mX10_setChoice : Mth := (RX10, yX10_setChoice, cX10_setChoice, 4, some .int, [])
theorem kmX10_setChoice : KM mX10_setChoice 2 := ⟨xmem (i := 673) (by decide +kernel) (by decide +kernel), xmem (i := 19) (by decide +kernel) (by decide +kernel), by decide +kernel, by decide +kernel, by decide +kernel, rfl, by decide⟩
abbrev mX10_choice : Mth := (RX10, yX10_choice, cX10_choice, 2, some .int, [])
theorem kmX10_choice : KM mX10_choice 1 := ⟨xmem (i := 686) (by decide +kernel) (by decide +kernel), xmem (i := 19) (by decide +kernel) (by decide +kernel), by decide +kernel, by decide +kernel, by decide +kernel, rfl, by decide⟩
abbrev mX10_listSize : Mth := (RX10, yX10_listSize, cX10_listSize, 3, some .int, [])
theorem kmX10_listSize : KM mX10_listSize 2 := ⟨xmem (i := 880) (by decide +kernel) (by decide +kernel), xmem (i := 19) (by decide +kernel) (by decide +kernel), by decide +kernel, by decide +kernel, by decide +kernel, rfl, by decide⟩
abbrev mX10_listPart : Mth := (RX10, yX10_listPart, cX10_listPart, 4, some .int, [])
theorem kmX10_listPart : KM mX10_listPart 3 := ⟨xmem (i := 1023) (by decide +kernel) (by decide +kernel), xmem (i := 19) (by decide +kernel) (by decide +kernel), by decide +kernel, by decide +kernel, by decide +kernel, rfl, by decide⟩
abbrev mX10_listQuantity : Mth := (RX10, yX10_listQuantity, cX10_listQuantity, 4, some .long, [])
theorem kmX10_listQuantity : KM mX10_listQuantity 3 := ⟨xmem (i := 1010) (by decide +kernel) (by decide +kernel), xmem (i := 19) (by decide +kernel) (by decide +kernel), by decide +kernel, by decide +kernel, by decide +kernel, rfl, by decide⟩
abbrev mX10_quantity : Mth := (RX10, yX10_quantity, cX10_quantity, 4, some .long, [])
theorem kmX10_quantity : KM mX10_quantity 3 := ⟨xmem (i := 693) (by decide +kernel) (by decide +kernel), xmem (i := 19) (by decide +kernel) (by decide +kernel), by decide +kernel, by decide +kernel, by decide +kernel, rfl, by decide⟩
abbrev mX10_quantityByWalking : Mth := (RX10, yX10_quantityByWalking, cX10_quantityByWalking, 4, some .long, [])
theorem kmX10_quantityByWalking : KM mX10_quantityByWalking 3 := ⟨xmem (i := 943) (by decide +kernel) (by decide +kernel), xmem (i := 19) (by decide +kernel) (by decide +kernel), by decide +kernel, by decide +kernel, by decide +kernel, rfl, by decide⟩
abbrev mX10_whereUsed : Mth := (RX10, yX10_whereUsed, cX10_whereUsed, 5, some .int, [])
theorem kmX10_whereUsed : KM mX10_whereUsed 2 := ⟨xmem (i := 1033) (by decide +kernel) (by decide +kernel), xmem (i := 19) (by decide +kernel) (by decide +kernel), by decide +kernel, by decide +kernel, by decide +kernel, rfl, by decide⟩
abbrev mX10_levels : Mth := (RX10, yX10_levels, cX10_levels, 3, some .int, [])
theorem kmX10_levels : KM mX10_levels 2 := ⟨xmem (i := 932) (by decide +kernel) (by decide +kernel), xmem (i := 19) (by decide +kernel) (by decide +kernel), by decide +kernel, by decide +kernel, by decide +kernel, rfl, by decide⟩
abbrev mX10_cost : Mth := (RX10, yX10_cost, cX10_cost, 3, some .float, [])
theorem kmX10_cost : KM mX10_cost 2 := ⟨xmem (i := 975) (by decide +kernel) (by decide +kernel), xmem (i := 19) (by decide +kernel) (by decide +kernel), by decide +kernel, by decide +kernel, by decide +kernel, rfl, by decide⟩
abbrev mX10_costByWalking : Mth := (RX10, yX10_costByWalking, cX10_costByWalking, 3, some .float, [])
theorem kmX10_costByWalking : KM mX10_costByWalking 2 := ⟨xmem (i := 953) (by decide +kernel) (by decide +kernel), xmem (i := 19) (by decide +kernel) (by decide +kernel), by decide +kernel, by decide +kernel, by decide +kernel, rfl, by decide⟩
abbrev mX10_costBits : Mth := (RX10, yX10_costBits, cX10_costBits, 3, some .int, [])
theorem kmX10_costBits : KM mX10_costBits 2 := ⟨xmem (i := 836) (by decide +kernel) (by decide +kernel), xmem (i := 19) (by decide +kernel) (by decide +kernel), by decide +kernel, by decide +kernel, by decide +kernel, rfl, by decide⟩
abbrev mX10_costCents : Mth := (RX10, yX10_costCents, cX10_costCents, 3, some .int, [])
theorem kmX10_costCents : KM mX10_costCents 2 := ⟨xmem (i := 982) (by decide +kernel) (by decide +kernel), xmem (i := 19) (by decide +kernel) (by decide +kernel), by decide +kernel, by decide +kernel, by decide +kernel, rfl, by decide⟩
abbrev mX10_dearest : Mth := (RX10, yX10_dearest, cX10_dearest, 4, some .int, [])
theorem kmX10_dearest : KM mX10_dearest 2 := ⟨xmem (i := 910) (by decide +kernel) (by decide +kernel), xmem (i := 19) (by decide +kernel) (by decide +kernel), by decide +kernel, by decide +kernel, by decide +kernel, rfl, by decide⟩
abbrev mX10_weight : Mth := (RX10, yX10_weight, cX10_weight, 3, some .double, [])
theorem kmX10_weight : KM mX10_weight 2 := ⟨xmem (i := 991) (by decide +kernel) (by decide +kernel), xmem (i := 19) (by decide +kernel) (by decide +kernel), by decide +kernel, by decide +kernel, by decide +kernel, rfl, by decide⟩
abbrev mX10_weightBits : Mth := (RX10, yX10_weightBits, cX10_weightBits, 3, some .long, [])
theorem kmX10_weightBits : KM mX10_weightBits 2 := ⟨xmem (i := 848) (by decide +kernel) (by decide +kernel), xmem (i := 19) (by decide +kernel) (by decide +kernel), by decide +kernel, by decide +kernel, by decide +kernel, rfl, by decide⟩
abbrev mX10_markCosts : Mth := (RX10, yX10_markCosts, cX10_markCosts, 3, some .int, [])
theorem kmX10_markCosts : KM mX10_markCosts 1 := ⟨xmem (i := 729) (by decide +kernel) (by decide +kernel), xmem (i := 19) (by decide +kernel) (by decide +kernel), by decide +kernel, by decide +kernel, by decide +kernel, rfl, by decide⟩
abbrev mX10_costChange : Mth := (RX10, yX10_costChange, cX10_costChange, 3, some .float, [])
theorem kmX10_costChange : KM mX10_costChange 2 := ⟨xmem (i := 764) (by decide +kernel) (by decide +kernel), xmem (i := 19) (by decide +kernel) (by decide +kernel), by decide +kernel, by decide +kernel, by decide +kernel, rfl, by decide⟩
abbrev mX10_order : Mth := (RX10, yX10_order, cX10_order, 4, some .int, [])
theorem kmX10_order : KM mX10_order 3 := ⟨xmem (i := 794) (by decide +kernel) (by decide +kernel), xmem (i := 19) (by decide +kernel) (by decide +kernel), by decide +kernel, by decide +kernel, by decide +kernel, rfl, by decide⟩
abbrev mX10_cancel : Mth := (RX10, yX10_cancel, cX10_cancel, 2, some .int, [])
theorem kmX10_cancel : KM mX10_cancel 1 := ⟨xmem (i := 807) (by decide +kernel) (by decide +kernel), xmem (i := 19) (by decide +kernel) (by decide +kernel), by decide +kernel, by decide +kernel, by decide +kernel, rfl, by decide⟩
abbrev mX10_need : Mth := (RX10, yX10_need, cX10_need, 5, some .long, [])
theorem kmX10_need : KM mX10_need 1 := ⟨xmem (i := 824) (by decide +kernel) (by decide +kernel), xmem (i := 19) (by decide +kernel) (by decide +kernel), by decide +kernel, by decide +kernel, by decide +kernel, rfl, by decide⟩
abbrev mX10_isConsistent : Mth := (RX10, yX10_isConsistent, cX10_isConsistent, 1, some .boolean, [])
theorem kmX10_isConsistent : KM mX10_isConsistent 0 := ⟨xmem (i := 308) (by decide +kernel) (by decide +kernel), xmem (i := 19) (by decide +kernel) (by decide +kernel), by decide +kernel, by decide +kernel, by decide +kernel, rfl, by decide⟩
abbrev mX10_checkPart : Mth := (RX10, yX10_checkPart, cX10_checkPart, 2, none, [])
theorem kmX10_checkPart : KM mX10_checkPart 1 := ⟨xmem (i := 503) (by decide +kernel) (by decide +kernel), xmem (i := 19) (by decide +kernel) (by decide +kernel), by decide +kernel, by decide +kernel, by decide +kernel, rfl, by decide⟩
abbrev mX10_checkLine : Mth := (RX10, yX10_checkLine, cX10_checkLine, 2, none, [])
theorem kmX10_checkLine : KM mX10_checkLine 1 := ⟨xmem (i := 620) (by decide +kernel) (by decide +kernel), xmem (i := 19) (by decide +kernel) (by decide +kernel), by decide +kernel, by decide +kernel, by decide +kernel, rfl, by decide⟩
abbrev mX10_checkOrder : Mth := (RX10, yX10_checkOrder, cX10_checkOrder, 2, none, [])
theorem kmX10_checkOrder : KM mX10_checkOrder 1 := ⟨xmem (i := 811) (by decide +kernel) (by decide +kernel), xmem (i := 19) (by decide +kernel) (by decide +kernel), by decide +kernel, by decide +kernel, by decide +kernel, rfl, by decide⟩
abbrev mX10_checkEntry : Mth := (RX10, yX10_checkEntry, cX10_checkEntry, 2, none, [])
theorem kmX10_checkEntry : KM mX10_checkEntry 1 := ⟨xmem (i := 1014) (by decide +kernel) (by decide +kernel), xmem (i := 19) (by decide +kernel) (by decide +kernel), by decide +kernel, by decide +kernel, by decide +kernel, rfl, by decide⟩
abbrev mX10_checkCut : Mth := (RX10, yX10_checkCut, cX10_checkCut, 3, none, [])
theorem kmX10_checkCut : KM mX10_checkCut 2 := ⟨xmem (i := 625) (by decide +kernel) (by decide +kernel), xmem (i := 19) (by decide +kernel) (by decide +kernel), by decide +kernel, by decide +kernel, by decide +kernel, rfl, by decide⟩
abbrev mX10_checkNoCircle : Mth := (RX10, yX10_checkNoCircle, cX10_checkNoCircle, 3, none, [])
theorem kmX10_checkNoCircle : KM mX10_checkNoCircle 2 := ⟨xmem (i := 543) (by decide +kernel) (by decide +kernel), xmem (i := 19) (by decide +kernel) (by decide +kernel), by decide +kernel, by decide +kernel, by decide +kernel, rfl, by decide⟩
abbrev mX10_checkRoomForLine : Mth := (RX10, yX10_checkRoomForLine, cX10_checkRoomForLine, 3, none, [])
theorem kmX10_checkRoomForLine : KM mX10_checkRoomForLine 2 := ⟨xmem (i := 567) (by decide +kernel) (by decide +kernel), xmem (i := 19) (by decide +kernel) (by decide +kernel), by decide +kernel, by decide +kernel, by decide +kernel, rfl, by decide⟩
abbrev mX10_checkUnique : Mth := (RX10, yX10_checkUnique, cX10_checkUnique, 8, none, [])
theorem kmX10_checkUnique : KM mX10_checkUnique 6 := ⟨xmem (i := 578) (by decide +kernel) (by decide +kernel), xmem (i := 19) (by decide +kernel) (by decide +kernel), by decide +kernel, by decide +kernel, by decide +kernel, rfl, by decide⟩
abbrev mX10_checkKind : Mth := (RX10, yX10_checkKind, cX10_checkKind, 1, none, [])
theorem kmX10_checkKind : KM mX10_checkKind 1 := ⟨xmem (i := 391) (by decide +kernel) (by decide +kernel), xmem (i := 19) (by decide +kernel) (by decide +kernel), by decide +kernel, by decide +kernel, by decide +kernel, rfl, by decide⟩
abbrev mX10_checkCents : Mth := (RX10, yX10_checkCents, cX10_checkCents, 1, none, [])
theorem kmX10_checkCents : KM mX10_checkCents 1 := ⟨xmem (i := 465) (by decide +kernel) (by decide +kernel), xmem (i := 19) (by decide +kernel) (by decide +kernel), by decide +kernel, by decide +kernel, by decide +kernel, rfl, by decide⟩
abbrev mX10_checkGrams : Mth := (RX10, yX10_checkGrams, cX10_checkGrams, 1, none, [])
theorem kmX10_checkGrams : KM mX10_checkGrams 1 := ⟨xmem (i := 470) (by decide +kernel) (by decide +kernel), xmem (i := 19) (by decide +kernel) (by decide +kernel), by decide +kernel, by decide +kernel, by decide +kernel, rfl, by decide⟩
abbrev mX10_checkPosition : Mth := (RX10, yX10_checkPosition, cX10_checkPosition, 1, none, [])
theorem kmX10_checkPosition : KM mX10_checkPosition 1 := ⟨xmem (i := 530) (by decide +kernel) (by decide +kernel), xmem (i := 19) (by decide +kernel) (by decide +kernel), by decide +kernel, by decide +kernel, by decide +kernel, rfl, by decide⟩
abbrev mX10_checkQuantity : Mth := (RX10, yX10_checkQuantity, cX10_checkQuantity, 1, none, [])
theorem kmX10_checkQuantity : KM mX10_checkQuantity 1 := ⟨xmem (i := 534) (by decide +kernel) (by decide +kernel), xmem (i := 19) (by decide +kernel) (by decide +kernel), by decide +kernel, by decide +kernel, by decide +kernel, rfl, by decide⟩
abbrev mX10_checkRange : Mth := (RX10, yX10_checkRange, cX10_checkRange, 2, none, [])
theorem kmX10_checkRange : KM mX10_checkRange 2 := ⟨xmem (i := 538) (by decide +kernel) (by decide +kernel), xmem (i := 19) (by decide +kernel) (by decide +kernel), by decide +kernel, by decide +kernel, by decide +kernel, rfl, by decide⟩
abbrev mX10_checkCondition : Mth := (RX10, yX10_checkCondition, cX10_checkCondition, 2, none, [])
theorem kmX10_checkCondition : KM mX10_checkCondition 2 := ⟨xmem (i := 608) (by decide +kernel) (by decide +kernel), xmem (i := 19) (by decide +kernel) (by decide +kernel), by decide +kernel, by decide +kernel, by decide +kernel, rfl, by decide⟩
abbrev mX10_checkSerial : Mth := (RX10, yX10_checkSerial, cX10_checkSerial, 1, none, [])
theorem kmX10_checkSerial : KM mX10_checkSerial 1 := ⟨xmem (i := 658) (by decide +kernel) (by decide +kernel), xmem (i := 19) (by decide +kernel) (by decide +kernel), by decide +kernel, by decide +kernel, by decide +kernel, rfl, by decide⟩
abbrev mX10_checkOption : Mth := (RX10, yX10_checkOption, cX10_checkOption, 1, none, [])
theorem kmX10_checkOption : KM mX10_checkOption 1 := ⟨xmem (i := 676) (by decide +kernel) (by decide +kernel), xmem (i := 19) (by decide +kernel) (by decide +kernel), by decide +kernel, by decide +kernel, by decide +kernel, rfl, by decide⟩
abbrev mX10_makeDirectList : Mth := (RX10, yX10_makeDirectList, cX10_makeDirectList, 3, none, [])
theorem kmX10_makeDirectList : KM mX10_makeDirectList 2 := ⟨xmem (i := 884) (by decide +kernel) (by decide +kernel), xmem (i := 19) (by decide +kernel) (by decide +kernel), by decide +kernel, by decide +kernel, by decide +kernel, rfl, by decide⟩
abbrev mX10_rolledUpCost : Mth := (RX10, yX10_rolledUpCost, cX10_rolledUpCost, 4, some .float, [])
theorem kmX10_rolledUpCost : KM mX10_rolledUpCost 3 := ⟨xmem (i := 784) (by decide +kernel) (by decide +kernel), xmem (i := 19) (by decide +kernel) (by decide +kernel), by decide +kernel, by decide +kernel, by decide +kernel, rfl, by decide⟩
abbrev mX10_rolledUpWeight : Mth := (RX10, yX10_rolledUpWeight, cX10_rolledUpWeight, 3, some .double, [])
theorem kmX10_rolledUpWeight : KM mX10_rolledUpWeight 2 := ⟨xmem (i := 852) (by decide +kernel) (by decide +kernel), xmem (i := 19) (by decide +kernel) (by decide +kernel), by decide +kernel, by decide +kernel, by decide +kernel, rfl, by decide⟩
abbrev mX10_collectEntries : Mth := (RX10, yX10_collectEntries, cX10_collectEntries, 11, none, [])
theorem kmX10_collectEntries : KM mX10_collectEntries 5 := ⟨xmem (i := 891) (by decide +kernel) (by decide +kernel), xmem (i := 19) (by decide +kernel) (by decide +kernel), by decide +kernel, by decide +kernel, by decide +kernel, rfl, by decide⟩
abbrev mX10_walkQuantity : Mth := (RX10, yX10_walkQuantity, cX10_walkQuantity, 8, some .long, [])
theorem kmX10_walkQuantity : KM mX10_walkQuantity 4 := ⟨xmem (i := 946) (by decide +kernel) (by decide +kernel), xmem (i := 19) (by decide +kernel) (by decide +kernel), by decide +kernel, by decide +kernel, by decide +kernel, rfl, by decide⟩
abbrev mX10_walkCost : Mth := (RX10, yX10_walkCost, cX10_walkCost, 6, some .float, [])
theorem kmX10_walkCost : KM mX10_walkCost 3 := ⟨xmem (i := 956) (by decide +kernel) (by decide +kernel), xmem (i := 19) (by decide +kernel) (by decide +kernel), by decide +kernel, by decide +kernel, by decide +kernel, rfl, by decide⟩
abbrev mX10_isBetween : Mth := (RX10, yX10_isBetween, cX10_isBetween, 3, some .boolean, [])
theorem kmX10_isBetween : KM mX10_isBetween 3 := ⟨xmem (i := 315) (by decide +kernel) (by decide +kernel), xmem (i := 19) (by decide +kernel) (by decide +kernel), by decide +kernel, by decide +kernel, by decide +kernel, rfl, by decide⟩
abbrev mX10_isKind : Mth := (RX10, yX10_isKind, cX10_isKind, 1, some .boolean, [])
theorem kmX10_isKind : KM mX10_isKind 1 := ⟨xmem (i := 318) (by decide +kernel) (by decide +kernel), xmem (i := 19) (by decide +kernel) (by decide +kernel), by decide +kernel, by decide +kernel, by decide +kernel, rfl, by decide⟩
abbrev mX10_choiceIn : Mth := (RX10, yX10_choiceIn, cX10_choiceIn, 2, some .int, [])
theorem kmX10_choiceIn : KM mX10_choiceIn 2 := ⟨xmem (i := 666) (by decide +kernel) (by decide +kernel), xmem (i := 19) (by decide +kernel) (by decide +kernel), by decide +kernel, by decide +kernel, by decide +kernel, rfl, by decide⟩
abbrev mX10_isConfiguration : Mth := (RX10, yX10_isConfiguration, cX10_isConfiguration, 1, some .boolean, [])
theorem kmX10_isConfiguration : KM mX10_isConfiguration 1 := ⟨xmem (i := 370) (by decide +kernel) (by decide +kernel), xmem (i := 19) (by decide +kernel) (by decide +kernel), by decide +kernel, by decide +kernel, by decide +kernel, rfl, by decide⟩
abbrev mJxe99ae_isNaN_b9ae7 : Mth := (RJxe99ae, yJxe99ae_isNaN_b9ae7, cJxe99ae_isNaN_b9ae7, 2, some .boolean, [])
theorem kmJxe99ae_isNaN_b9ae7 : KM mJxe99ae_isNaN_b9ae7 1 := ⟨xmem (i := 999) (by decide +kernel) (by decide +kernel), xmem (i := 42) (by decide +kernel) (by decide +kernel), by decide +kernel, by decide +kernel, by decide +kernel, rfl, by decide⟩
abbrev mJxe99ae_doubleToLongBits_ccdee : Mth := (RJxe99ae, yJxe99ae_doubleToLongBits_ccdee, cJxe99ae_doubleToLongBits_ccdee, 2, some .long, [])
theorem kmJxe99ae_doubleToLongBits_ccdee : KM mJxe99ae_doubleToLongBits_ccdee 1 := ⟨xmem (i := 996) (by decide +kernel) (by decide +kernel), xmem (i := 42) (by decide +kernel) (by decide +kernel), by decide +kernel, by decide +kernel, by decide +kernel, rfl, by decide⟩
abbrev mJxf58ca_isNaN_12338 : Mth := (RJxf58ca, yJxf58ca_isNaN_12338, cJxf58ca_isNaN_12338, 1, some .boolean, [])
theorem kmJxf58ca_isNaN_12338 : KM mJxf58ca_isNaN_12338 1 := ⟨xmem (i := 964) (by decide +kernel) (by decide +kernel), xmem (i := 41) (by decide +kernel) (by decide +kernel), by decide +kernel, by decide +kernel, by decide +kernel, rfl, by decide⟩
abbrev mJxf58ca_floatToIntBits_5c35a : Mth := (RJxf58ca, yJxf58ca_floatToIntBits_5c35a, cJxf58ca_floatToIntBits_5c35a, 1, some .int, [])
theorem kmJxf58ca_floatToIntBits_5c35a : KM mJxf58ca_floatToIntBits_5c35a 1 := ⟨xmem (i := 961) (by decide +kernel) (by decide +kernel), xmem (i := 41) (by decide +kernel) (by decide +kernel), by decide +kernel, by decide +kernel, by decide +kernel, rfl, by decide⟩
abbrev mJ9_max_7cf53 : Mth := (RJ9, yJ9_max_7cf53, cJ9_max_7cf53, 2, some .int, [])
theorem kmJ9_max_7cf53 : KM mJ9_max_7cf53 2 := ⟨xmem (i := 1036) (by decide +kernel) (by decide +kernel), xmem (i := 34) (by decide +kernel) (by decide +kernel), by decide +kernel, by decide +kernel, by decide +kernel, rfl, by decide⟩
abbrev mL_cell : Mth := (RL, yL_cell, cL_cell, 2, some .int, [])
theorem kmL_cell : KM mL_cell 2 := ⟨xmem (i := 378) (by decide +kernel) (by decide +kernel), xmem (i := 18) (by decide +kernel) (by decide +kernel), by decide +kernel, by decide +kernel, by decide +kernel, rfl, by decide⟩
abbrev mL_pick : Mth := (RL, yL_pick, cL_pick, 3, some .int, [])
theorem kmL_pick : KM mL_pick 3 := ⟨xmem (i := 375) (by decide +kernel) (by decide +kernel), xmem (i := 18) (by decide +kernel) (by decide +kernel), by decide +kernel, by decide +kernel, by decide +kernel, rfl, by decide⟩
abbrev mL_addPart : Mth := (RL, yL_addPart, cL_addPart, 5, some .int, [(0, 7, 8, 20), (0, 7, 13, 22)])
theorem kmL_addPart : KM mL_addPart 4 := ⟨xmem (i := 382) (by decide +kernel) (by decide +kernel), xmem (i := 18) (by decide +kernel) (by decide +kernel), by decide +kernel, by decide +kernel, by decide +kernel, rfl, by decide⟩
abbrev mL_setPrice : Mth := (RL, yL_setPrice, cL_setPrice, 4, some .int, [(0, 6, 7, 28), (0, 6, 11, 20)])
theorem kmL_setPrice : KM mL_setPrice 3 := ⟨xmem (i := 494) (by decide +kernel) (by decide +kernel), xmem (i := 18) (by decide +kernel) (by decide +kernel), by decide +kernel, by decide +kernel, by decide +kernel, rfl, by decide⟩
abbrev mL_kind : Mth := (RL, yL_kind, cL_kind, 3, some .int, [(0, 5, 6, 28)])
theorem kmL_kind : KM mL_kind 2 := ⟨xmem (i := 921) (by decide +kernel) (by decide +kernel), xmem (i := 18) (by decide +kernel) (by decide +kernel), by decide +kernel, by decide +kernel, by decide +kernel, rfl, by decide⟩
abbrev mL_addLine : Mth := (RL, yL_addLine, cL_addLine, 8, some .int, [(0, 13, 14, 28), (0, 13, 19, 20), (0, 13, 24, 38), (0, 13, 29, 22)])
theorem kmL_addLine : KM mL_addLine 7 := ⟨xmem (i := 522) (by decide +kernel) (by decide +kernel), xmem (i := 18) (by decide +kernel) (by decide +kernel), by decide +kernel, by decide +kernel, by decide +kernel, rfl, by decide⟩
abbrev mL_addVariant : Mth := (RL, yL_addVariant, cL_addVariant, 8, some .int, [(0, 13, 14, 28), (0, 13, 19, 20), (0, 13, 24, 38), (0, 13, 29, 22)])
theorem kmL_addVariant : KM mL_addVariant 7 := ⟨xmem (i := 601) (by decide +kernel) (by decide +kernel), xmem (i := 18) (by decide +kernel) (by decide +kernel), by decide +kernel, by decide +kernel, by decide +kernel, rfl, by decide⟩
abbrev mL_replaceFrom : Mth := (RL, yL_replaceFrom, cL_replaceFrom, 6, some .int, [(0, 9, 10, 28), (0, 9, 15, 20), (0, 9, 20, 38), (0, 9, 25, 22)])
theorem kmL_replaceFrom : KM mL_replaceFrom 5 := ⟨xmem (i := 612) (by decide +kernel) (by decide +kernel), xmem (i := 18) (by decide +kernel) (by decide +kernel), by decide +kernel, by decide +kernel, by decide +kernel, rfl, by decide⟩
abbrev mL_endBefore : Mth := (RL, yL_endBefore, cL_endBefore, 4, some .int, [(0, 6, 7, 28), (0, 6, 11, 20)])
theorem kmL_endBefore : KM mL_endBefore 3 := ⟨xmem (i := 629) (by decide +kernel) (by decide +kernel), xmem (i := 18) (by decide +kernel) (by decide +kernel), by decide +kernel, by decide +kernel, by decide +kernel, rfl, by decide⟩
abbrev mL_setScrap : Mth := (RL, yL_setScrap, cL_setScrap, 4, some .int, [(0, 6, 7, 28), (0, 6, 11, 20)])
theorem kmL_setScrap : KM mL_setScrap 3 := ⟨xmem (i := 636) (by decide +kernel) (by decide +kernel), xmem (i := 18) (by decide +kernel) (by decide +kernel), by decide +kernel, by decide +kernel, by decide +kernel, rfl, by decide⟩
abbrev mL_lastSerial : Mth := (RL, yL_lastSerial, cL_lastSerial, 3, some .int, [(0, 5, 6, 28)])
theorem kmL_lastSerial : KM mL_lastSerial 2 := ⟨xmem (i := 644) (by decide +kernel) (by decide +kernel), xmem (i := 18) (by decide +kernel) (by decide +kernel), by decide +kernel, by decide +kernel, by decide +kernel, rfl, by decide⟩
abbrev mL_holds : Mth := (RL, yL_holds, cL_holds, 4, some .int, [(0, 14, 15, 28), (0, 14, 19, 20)])
theorem kmL_holds : KM mL_holds 3 := ⟨xmem (i := 651) (by decide +kernel) (by decide +kernel), xmem (i := 18) (by decide +kernel) (by decide +kernel), by decide +kernel, by decide +kernel, by decide +kernel, rfl, by decide⟩
abbrev mL_setChoice : Mth := (RL, yL_setChoice, cL_setChoice, 4, some .int, [(0, 6, 7, 28), (0, 6, 11, 20)])
theorem kmL_setChoice : KM mL_setChoice 3 := ⟨xmem (i := 669) (by decide +kernel) (by decide +kernel), xmem (i := 18) (by decide +kernel) (by decide +kernel), by decide +kernel, by decide +kernel, by decide +kernel, rfl, by decide⟩
abbrev mL_choice : Mth := (RL, yL_choice, cL_choice, 3, some .int, [(0, 5, 6, 28)])
theorem kmL_choice : KM mL_choice 2 := ⟨xmem (i := 682) (by decide +kernel) (by decide +kernel), xmem (i := 18) (by decide +kernel) (by decide +kernel), by decide +kernel, by decide +kernel, by decide +kernel, rfl, by decide⟩
abbrev mL_listSize : Mth := (RL, yL_listSize, cL_listSize, 4, some .int, [(0, 6, 7, 28), (0, 6, 11, 20)])
theorem kmL_listSize : KM mL_listSize 3 := ⟨xmem (i := 876) (by decide +kernel) (by decide +kernel), xmem (i := 18) (by decide +kernel) (by decide +kernel), by decide +kernel, by decide +kernel, by decide +kernel, rfl, by decide⟩
abbrev mL_listPart : Mth := (RL, yL_listPart, cL_listPart, 5, some .int, [(0, 7, 8, 28), (0, 7, 13, 20), (0, 7, 18, 74)])
theorem kmL_listPart : KM mL_listPart 4 := ⟨xmem (i := 1019) (by decide +kernel) (by decide +kernel), xmem (i := 18) (by decide +kernel) (by decide +kernel), by decide +kernel, by decide +kernel, by decide +kernel, rfl, by decide⟩
abbrev mL_listQuantity : Mth := (RL, yL_listQuantity, cL_listQuantity, 5, some .long, [(0, 7, 8, 28), (0, 7, 14, 20), (0, 7, 20, 74)])
theorem kmL_listQuantity : KM mL_listQuantity 4 := ⟨xmem (i := 1006) (by decide +kernel) (by decide +kernel), xmem (i := 18) (by decide +kernel) (by decide +kernel), by decide +kernel, by decide +kernel, by decide +kernel, rfl, by decide⟩
abbrev mL_quantity : Mth := (RL, yL_quantity, cL_quantity, 5, some .long, [(0, 7, 8, 28), (0, 7, 14, 20)])
theorem kmL_quantity : KM mL_quantity 4 := ⟨xmem (i := 689) (by decide +kernel) (by decide +kernel), xmem (i := 18) (by decide +kernel) (by decide +kernel), by decide +kernel, by decide +kernel, by decide +kernel, rfl, by decide⟩
abbrev mL_quantityByWalking : Mth := (RL, yL_quantityByWalking, cL_quantityByWalking, 5, some .long, [(0, 7, 8, 28), (0, 7, 14, 20)])
theorem kmL_quantityByWalking : KM mL_quantityByWalking 4 := ⟨xmem (i := 939) (by decide +kernel) (by decide +kernel), xmem (i := 18) (by decide +kernel) (by decide +kernel), by decide +kernel, by decide +kernel, by decide +kernel, rfl, by decide⟩
abbrev mL_whereUsed : Mth := (RL, yL_whereUsed, cL_whereUsed, 4, some .int, [(0, 6, 7, 28), (0, 6, 11, 20)])
theorem kmL_whereUsed : KM mL_whereUsed 3 := ⟨xmem (i := 1029) (by decide +kernel) (by decide +kernel), xmem (i := 18) (by decide +kernel) (by decide +kernel), by decide +kernel, by decide +kernel, by decide +kernel, rfl, by decide⟩
abbrev mL_levels : Mth := (RL, yL_levels, cL_levels, 4, some .int, [(0, 6, 7, 28), (0, 6, 11, 20)])
theorem kmL_levels : KM mL_levels 3 := ⟨xmem (i := 928) (by decide +kernel) (by decide +kernel), xmem (i := 18) (by decide +kernel) (by decide +kernel), by decide +kernel, by decide +kernel, by decide +kernel, rfl, by decide⟩
abbrev mL_cost : Mth := (RL, yL_cost, cL_cost, 4, some .float, [(0, 6, 7, 28), (0, 6, 11, 20)])
theorem kmL_cost : KM mL_cost 3 := ⟨xmem (i := 971) (by decide +kernel) (by decide +kernel), xmem (i := 18) (by decide +kernel) (by decide +kernel), by decide +kernel, by decide +kernel, by decide +kernel, rfl, by decide⟩
abbrev mL_costByWalking : Mth := (RL, yL_costByWalking, cL_costByWalking, 4, some .float, [(0, 6, 7, 28), (0, 6, 11, 20)])
theorem kmL_costByWalking : KM mL_costByWalking 3 := ⟨xmem (i := 949) (by decide +kernel) (by decide +kernel), xmem (i := 18) (by decide +kernel) (by decide +kernel), by decide +kernel, by decide +kernel, by decide +kernel, rfl, by decide⟩
abbrev mL_costBits : Mth := (RL, yL_costBits, cL_costBits, 4, some .int, [(0, 6, 7, 28), (0, 6, 11, 20)])
theorem kmL_costBits : KM mL_costBits 3 := ⟨xmem (i := 832) (by decide +kernel) (by decide +kernel), xmem (i := 18) (by decide +kernel) (by decide +kernel), by decide +kernel, by decide +kernel, by decide +kernel, rfl, by decide⟩
abbrev mL_costCents : Mth := (RL, yL_costCents, cL_costCents, 4, some .int, [(0, 6, 7, 28), (0, 6, 11, 20)])
theorem kmL_costCents : KM mL_costCents 3 := ⟨xmem (i := 978) (by decide +kernel) (by decide +kernel), xmem (i := 18) (by decide +kernel) (by decide +kernel), by decide +kernel, by decide +kernel, by decide +kernel, rfl, by decide⟩
abbrev mL_dearest : Mth := (RL, yL_dearest, cL_dearest, 4, some .int, [(0, 6, 7, 28), (0, 6, 11, 20), (0, 6, 15, 74)])
theorem kmL_dearest : KM mL_dearest 3 := ⟨xmem (i := 906) (by decide +kernel) (by decide +kernel), xmem (i := 18) (by decide +kernel) (by decide +kernel), by decide +kernel, by decide +kernel, by decide +kernel, rfl, by decide⟩
abbrev mL_weight : Mth := (RL, yL_weight, cL_weight, 4, some .double, [(0, 6, 7, 28), (0, 6, 12, 20)])
theorem kmL_weight : KM mL_weight 3 := ⟨xmem (i := 987) (by decide +kernel) (by decide +kernel), xmem (i := 18) (by decide +kernel) (by decide +kernel), by decide +kernel, by decide +kernel, by decide +kernel, rfl, by decide⟩
abbrev mL_weightBits : Mth := (RL, yL_weightBits, cL_weightBits, 4, some .long, [(0, 6, 7, 28), (0, 6, 12, 20)])
theorem kmL_weightBits : KM mL_weightBits 3 := ⟨xmem (i := 844) (by decide +kernel) (by decide +kernel), xmem (i := 18) (by decide +kernel) (by decide +kernel), by decide +kernel, by decide +kernel, by decide +kernel, rfl, by decide⟩
abbrev mL_markCosts : Mth := (RL, yL_markCosts, cL_markCosts, 3, some .int, [(0, 5, 6, 20)])
theorem kmL_markCosts : KM mL_markCosts 2 := ⟨xmem (i := 725) (by decide +kernel) (by decide +kernel), xmem (i := 18) (by decide +kernel) (by decide +kernel), by decide +kernel, by decide +kernel, by decide +kernel, rfl, by decide⟩
abbrev mL_costChange : Mth := (RL, yL_costChange, cL_costChange, 4, some .float, [(0, 6, 7, 28), (0, 6, 11, 20), (0, 6, 15, 74)])
theorem kmL_costChange : KM mL_costChange 3 := ⟨xmem (i := 759) (by decide +kernel) (by decide +kernel), xmem (i := 18) (by decide +kernel) (by decide +kernel), by decide +kernel, by decide +kernel, by decide +kernel, rfl, by decide⟩
abbrev mL_order : Mth := (RL, yL_order, cL_order, 5, some .int, [(0, 7, 8, 28), (0, 7, 13, 20), (0, 7, 18, 22)])
theorem kmL_order : KM mL_order 4 := ⟨xmem (i := 790) (by decide +kernel) (by decide +kernel), xmem (i := 18) (by decide +kernel) (by decide +kernel), by decide +kernel, by decide +kernel, by decide +kernel, rfl, by decide⟩
abbrev mL_cancel : Mth := (RL, yL_cancel, cL_cancel, 3, some .int, [(0, 5, 6, 28), (0, 5, 10, 22)])
theorem kmL_cancel : KM mL_cancel 2 := ⟨xmem (i := 803) (by decide +kernel) (by decide +kernel), xmem (i := 18) (by decide +kernel) (by decide +kernel), by decide +kernel, by decide +kernel, by decide +kernel, rfl, by decide⟩
abbrev mL_need : Mth := (RL, yL_need, cL_need, 3, some .long, [(0, 5, 6, 28)])
theorem kmL_need : KM mL_need 2 := ⟨xmem (i := 820) (by decide +kernel) (by decide +kernel), xmem (i := 18) (by decide +kernel) (by decide +kernel), by decide +kernel, by decide +kernel, by decide +kernel, rfl, by decide⟩
abbrev mL_sum : Mth := (RL, yL_sum, cL_sum, 6, some .long, [])
theorem kmL_sum : KM mL_sum 2 := ⟨xmem (i := 827) (by decide +kernel) (by decide +kernel), xmem (i := 18) (by decide +kernel) (by decide +kernel), by decide +kernel, by decide +kernel, by decide +kernel, rfl, by decide⟩
abbrev mL_areRight : Mth := (RL, yL_areRight, cL_areRight, 18, some .boolean, [])
abbrev mL_areUsed : Mth := (RL, yL_areUsed, cL_areUsed, 6, some .boolean, [])
theorem kmL_areUsed : KM mL_areUsed 2 := ⟨xmem (i := 1026) (by decide +kernel) (by decide +kernel), xmem (i := 18) (by decide +kernel) (by decide +kernel), by decide +kernel, by decide +kernel, by decide +kernel, rfl, by decide⟩
theorem thr_IllegalArgumentException : ThrowOK RX10 "java/lang/IllegalArgumentException" 181 185 := ⟨by decide +kernel, by decide +kernel, cX10_181, inijavalangIllegalArgumentException, (fun w hw => (by decide +kernel : ∀ w ∈ vx_atS RX10 185 "java/lang/IllegalArgumentException" xnames, w ∈ lw_tbl ∧ xgood w = true) w hw |> List.mem_filter.mpr), by decide +kernel⟩
theorem thr_IllegalStateException : ThrowOK RX10 "java/lang/IllegalStateException" 89 93 := ⟨by decide +kernel, by decide +kernel, cX10_89, inijavalangIllegalStateException, (fun w hw => (by decide +kernel : ∀ w ∈ vx_atS RX10 93 "java/lang/IllegalStateException" xnames, w ∈ lw_tbl ∧ xgood w = true) w hw |> List.mem_filter.mpr), by decide +kernel⟩
theorem thr_IndexOutOfBoundsException : ThrowOK RX10 "java/lang/IndexOutOfBoundsException" 229 233 := ⟨by decide +kernel, by decide +kernel, cX10_229, inijavalangIndexOutOfBoundsException, (fun w hw => (by decide +kernel : ∀ w ∈ vx_atS RX10 233 "java/lang/IndexOutOfBoundsException" xnames, w ∈ lw_tbl ∧ xgood w = true) w hw |> List.mem_filter.mpr), by decide +kernel⟩
theorem thr_UnsupportedOperationException : ThrowOK RX10 "java/lang/UnsupportedOperationException" 360 364 := ⟨by decide +kernel, by decide +kernel, cX10_360, inijavalangUnsupportedOperationException, (fun w hw => (by decide +kernel : ∀ w ∈ vx_atS RX10 364 "java/lang/UnsupportedOperationException" xnames, w ∈ lw_tbl ∧ xgood w = true) w hw |> List.mem_filter.mpr), by decide +kernel⟩
theorem thr_NoSuchElementException : ThrowOKX RX10 "java/util/NoSuchElementException" 274 278 13 prog_31_method_4_code := ⟨by decide +kernel, by decide +kernel, cX10_274, inijavautilNoSuchElementException, (fun w hw => (by decide +kernel : ∀ w ∈ (nse_all RX10 278 "java/util/NoSuchElementException" 13 prog_31_method_4_code xnames).filter vx_no, w ∈ lw_tbl ∧ xgood w = true) w hw |> List.mem_filter.mpr), xmem (i := 776) (by decide +kernel) (by decide +kernel), xmem (i := 777) (by decide +kernel) (by decide +kernel), xmem (i := 766) (by decide +kernel) (by decide +kernel), by decide +kernel, by decide +kernel, by decide +kernel, by decide +kernel⟩
