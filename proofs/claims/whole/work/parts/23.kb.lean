/-! bits of the kinds -/
theorem br6 (x : Int32) {i : Nat} (hi : i < 32) : bt (x >>> ((6 : Int32) &&& 31)) i = if 6 + i < 32 then bt x (6 + i) else bt x 31 := b_sshr 6 (by omega) x hi
theorem kc_16777215 : ∀ i, i < 32 → bt 16777215 i = decide (i < 24) := by decide +kernel
theorem kc_m352321536 : ∀ i, i < 32 → bt (-352321536) i = decide (i = 24 ∨ i = 25 ∨ i = 27 ∨ 29 ≤ i) := by decide +kernel
theorem kc_240 : ∀ i, i < 32 → bt 240 i = decide (4 ≤ i ∧ i < 8) := by decide +kernel
theorem kc_248 : ∀ i, i < 32 → bt 248 i = decide (3 ≤ i ∧ i < 8) := by decide +kernel
theorem kc_67108860 : ∀ i, i < 32 → bt 67108860 i = decide (2 ≤ i ∧ i < 26) := by decide +kernel
theorem kc_m67108861 : ∀ i, i < 32 → bt (-67108861) i = decide (i < 2 ∨ 26 ≤ i) := by decide +kernel
theorem kc_1044480 : ∀ i, i < 32 → bt 1044480 i = decide (12 ≤ i ∧ i < 20) := by decide +kernel
theorem kc_1073741824 : ∀ i, i < 32 → bt 1073741824 i = decide (i = 30) := by decide +kernel
theorem kc_1069547520 : ∀ i, i < 32 → bt 1069547520 i = decide (22 ≤ i ∧ i < 30) := by decide +kernel
theorem kc_4194303 : ∀ i, i < 32 → bt 4194303 i = decide (i < 22) := by decide +kernel
theorem kc_4095 : ∀ i, i < 32 → bt 4095 i = decide (i < 12) := by decide +kernel
theorem kc_m4096 : ∀ i, i < 32 → bt (-4096) i = decide (12 ≤ i) := by decide +kernel
theorem kc_1048575 : ∀ i, i < 32 → bt 1048575 i = decide (i < 20) := by decide +kernel
theorem kc_31 : ∀ i, i < 32 → bt 31 i = decide (i < 5) := by decide +kernel
theorem kc_127 : ∀ i, i < 32 → bt 127 i = decide (i < 7) := by decide +kernel
theorem kc_7 : ∀ i, i < 32 → bt 7 i = decide (i < 3) := by decide +kernel
theorem kc_3 : ∀ i, i < 32 → bt 3 i = decide (i < 2) := by decide +kernel
theorem kc_1023 : ∀ i, i < 32 → bt 1023 i = decide (i < 10) := by decide +kernel
theorem kc_1 : ∀ i, i < 32 → bt 1 i = decide (i = 0) := by decide +kernel
theorem kc_235 : ∀ i, i < 32 → bt 235 i = decide (i = 0 ∨ i = 1 ∨ i = 3 ∨ (5 ≤ i ∧ i < 8)) := by decide +kernel
theorem kc_30 : ∀ i, i < 32 → bt 30 i = decide (1 ≤ i ∧ i < 5) := by decide +kernel
theorem kc_18 : ∀ i, i < 32 → bt 18 i = decide (i = 1 ∨ i = 4) := by decide +kernel
theorem kc_64 : ∀ i, i < 32 → bt 64 i = decide (i = 6) := by decide +kernel
theorem kc_256 : ∀ i, i < 32 → bt 256 i = decide (i = 8) := by decide +kernel
theorem kc_511 : ∀ i, i < 32 → bt 511 i = decide (i < 9) := by decide +kernel
theorem kc_119 : ∀ i, i < 32 → bt 119 i = decide (i < 3 ∨ (4 ≤ i ∧ i < 7)) := by decide +kernel
set_option maxHeartbeats 4000000 in
set_option maxRecDepth 100000 in
theorem bA1 (a b c d : Int32) (ha : isB a) (hb : isB b) (hc : isB c) (hd : isB d) : kU (((a ||| b <<< ((8 : Int32) &&& 31)) ||| c <<< ((16 : Int32) &&& 31)) ||| d <<< ((24 : Int32) &&& 31)) 24 = d := by
  apply b_ext
  refine c32 ?_ ?_ ?_ ?_ ?_ ?_ ?_ ?_ ?_ ?_ ?_ ?_ ?_ ?_ ?_ ?_ ?_ ?_ ?_ ?_ ?_ ?_ ?_ ?_ ?_ ?_ ?_ ?_ ?_ ?_ ?_ ?_
  all_goals simp [b_or, b_and, b_xor, bl0, br0, bu0, bl1, br1, bu1, bl2, br2, bu2, bl3, br3, bu3, bl7, br7, bu7, bl8, br8, bu8, bl11, br11, bu11, bl12, br12, bu12, bl15, br15, bu15, bl16, br16, bu16, bl19, br19, bu19, bl20, br20, bu20, bl21, br21, bu21, bl22, br22, bu22, bl24, br24, bu24, bl26, br26, bu26, bl30, br30, bu30, bl31, br31, bu31, b_big, b_255, b_0, br6, kc_16777215, kc_m352321536, kc_240, kc_248, kc_67108860, kc_m67108861, kc_1044480, kc_1073741824, kc_1069547520, kc_4194303, kc_4095, kc_m4096, kc_1048575, kc_31, kc_127, kc_7, kc_3, kc_1023, kc_1, kc_235, kc_30, kc_18, kc_64, kc_256, kc_511, kc_119, ha.hi, hb.hi, hc.hi, hd.hi]
set_option maxHeartbeats 4000000 in
set_option maxRecDepth 100000 in
theorem bA2 (a b c d : Int32) (ha : isB a) (hb : isB b) (hc : isB c) (hd : isB d) : (((a ||| b <<< ((8 : Int32) &&& 31)) ||| c <<< ((16 : Int32) &&& 31)) ||| d <<< ((24 : Int32) &&& 31)) &&& 16777215 = ((a ||| b <<< ((8 : Int32) &&& 31)) ||| c <<< ((16 : Int32) &&& 31)) := by
  apply b_ext
  refine c32 ?_ ?_ ?_ ?_ ?_ ?_ ?_ ?_ ?_ ?_ ?_ ?_ ?_ ?_ ?_ ?_ ?_ ?_ ?_ ?_ ?_ ?_ ?_ ?_ ?_ ?_ ?_ ?_ ?_ ?_ ?_ ?_
  all_goals simp [b_or, b_and, b_xor, bl0, br0, bu0, bl1, br1, bu1, bl2, br2, bu2, bl3, br3, bu3, bl7, br7, bu7, bl8, br8, bu8, bl11, br11, bu11, bl12, br12, bu12, bl15, br15, bu15, bl16, br16, bu16, bl19, br19, bu19, bl20, br20, bu20, bl21, br21, bu21, bl22, br22, bu22, bl24, br24, bu24, bl26, br26, bu26, bl30, br30, bu30, bl31, br31, bu31, b_big, b_255, b_0, br6, kc_16777215, kc_m352321536, kc_240, kc_248, kc_67108860, kc_m67108861, kc_1044480, kc_1073741824, kc_1069547520, kc_4194303, kc_4095, kc_m4096, kc_1048575, kc_31, kc_127, kc_7, kc_3, kc_1023, kc_1, kc_235, kc_30, kc_18, kc_64, kc_256, kc_511, kc_119, ha.hi, hb.hi, hc.hi, hd.hi]
set_option maxHeartbeats 4000000 in
set_option maxRecDepth 100000 in
theorem bA3 (t : Int32)  : ((-352321536) ||| (t &&& 16777215)) &&& 255 = t &&& 255 := by
  apply b_ext
  refine c32 ?_ ?_ ?_ ?_ ?_ ?_ ?_ ?_ ?_ ?_ ?_ ?_ ?_ ?_ ?_ ?_ ?_ ?_ ?_ ?_ ?_ ?_ ?_ ?_ ?_ ?_ ?_ ?_ ?_ ?_ ?_ ?_
  all_goals simp [b_or, b_and, b_xor, bl0, br0, bu0, bl1, br1, bu1, bl2, br2, bu2, bl3, br3, bu3, bl7, br7, bu7, bl8, br8, bu8, bl11, br11, bu11, bl12, br12, bu12, bl15, br15, bu15, bl16, br16, bu16, bl19, br19, bu19, bl20, br20, bu20, bl21, br21, bu21, bl22, br22, bu22, bl24, br24, bu24, bl26, br26, bu26, bl30, br30, bu30, bl31, br31, bu31, b_big, b_255, b_0, br6, kc_16777215, kc_m352321536, kc_240, kc_248, kc_67108860, kc_m67108861, kc_1044480, kc_1073741824, kc_1069547520, kc_4194303, kc_4095, kc_m4096, kc_1048575, kc_31, kc_127, kc_7, kc_3, kc_1023, kc_1, kc_235, kc_30, kc_18, kc_64, kc_256, kc_511, kc_119]
set_option maxHeartbeats 4000000 in
set_option maxRecDepth 100000 in
theorem bA4 (t : Int32)  : kU ((-352321536) ||| (t &&& 16777215)) 8 &&& 255 = (t >>> ((8 : Int32) &&& 31)) &&& 255 := by
  apply b_ext
  refine c32 ?_ ?_ ?_ ?_ ?_ ?_ ?_ ?_ ?_ ?_ ?_ ?_ ?_ ?_ ?_ ?_ ?_ ?_ ?_ ?_ ?_ ?_ ?_ ?_ ?_ ?_ ?_ ?_ ?_ ?_ ?_ ?_
  all_goals simp [b_or, b_and, b_xor, bl0, br0, bu0, bl1, br1, bu1, bl2, br2, bu2, bl3, br3, bu3, bl7, br7, bu7, bl8, br8, bu8, bl11, br11, bu11, bl12, br12, bu12, bl15, br15, bu15, bl16, br16, bu16, bl19, br19, bu19, bl20, br20, bu20, bl21, br21, bu21, bl22, br22, bu22, bl24, br24, bu24, bl26, br26, bu26, bl30, br30, bu30, bl31, br31, bu31, b_big, b_255, b_0, br6, kc_16777215, kc_m352321536, kc_240, kc_248, kc_67108860, kc_m67108861, kc_1044480, kc_1073741824, kc_1069547520, kc_4194303, kc_4095, kc_m4096, kc_1048575, kc_31, kc_127, kc_7, kc_3, kc_1023, kc_1, kc_235, kc_30, kc_18, kc_64, kc_256, kc_511, kc_119]
set_option maxHeartbeats 4000000 in
set_option maxRecDepth 100000 in
theorem bA5 (t : Int32)  : kU ((-352321536) ||| (t &&& 16777215)) 16 &&& 255 = (t >>> ((16 : Int32) &&& 31)) &&& 255 := by
  apply b_ext
  refine c32 ?_ ?_ ?_ ?_ ?_ ?_ ?_ ?_ ?_ ?_ ?_ ?_ ?_ ?_ ?_ ?_ ?_ ?_ ?_ ?_ ?_ ?_ ?_ ?_ ?_ ?_ ?_ ?_ ?_ ?_ ?_ ?_
  all_goals simp [b_or, b_and, b_xor, bl0, br0, bu0, bl1, br1, bu1, bl2, br2, bu2, bl3, br3, bu3, bl7, br7, bu7, bl8, br8, bu8, bl11, br11, bu11, bl12, br12, bu12, bl15, br15, bu15, bl16, br16, bu16, bl19, br19, bu19, bl20, br20, bu20, bl21, br21, bu21, bl22, br22, bu22, bl24, br24, bu24, bl26, br26, bu26, bl30, br30, bu30, bl31, br31, bu31, b_big, b_255, b_0, br6, kc_16777215, kc_m352321536, kc_240, kc_248, kc_67108860, kc_m67108861, kc_1044480, kc_1073741824, kc_1069547520, kc_4194303, kc_4095, kc_m4096, kc_1048575, kc_31, kc_127, kc_7, kc_3, kc_1023, kc_1, kc_235, kc_30, kc_18, kc_64, kc_256, kc_511, kc_119]
set_option maxHeartbeats 4000000 in
set_option maxRecDepth 100000 in
theorem bA6 (t : Int32)  : kU ((-352321536) ||| (t &&& 16777215)) 24 = 235 := by
  apply b_ext
  refine c32 ?_ ?_ ?_ ?_ ?_ ?_ ?_ ?_ ?_ ?_ ?_ ?_ ?_ ?_ ?_ ?_ ?_ ?_ ?_ ?_ ?_ ?_ ?_ ?_ ?_ ?_ ?_ ?_ ?_ ?_ ?_ ?_
  all_goals simp [b_or, b_and, b_xor, bl0, br0, bu0, bl1, br1, bu1, bl2, br2, bu2, bl3, br3, bu3, bl7, br7, bu7, bl8, br8, bu8, bl11, br11, bu11, bl12, br12, bu12, bl15, br15, bu15, bl16, br16, bu16, bl19, br19, bu19, bl20, br20, bu20, bl21, br21, bu21, bl22, br22, bu22, bl24, br24, bu24, bl26, br26, bu26, bl30, br30, bu30, bl31, br31, bu31, b_big, b_255, b_0, br6, kc_16777215, kc_m352321536, kc_240, kc_248, kc_67108860, kc_m67108861, kc_1044480, kc_1073741824, kc_1069547520, kc_4194303, kc_4095, kc_m4096, kc_1048575, kc_31, kc_127, kc_7, kc_3, kc_1023, kc_1, kc_235, kc_30, kc_18, kc_64, kc_256, kc_511, kc_119]
set_option maxHeartbeats 4000000 in
set_option maxRecDepth 100000 in
theorem bS0 (v : Int32)  : (v >>> ((0 : Int32) &&& 31)) &&& 255 = v &&& 255 := by
  apply b_ext
  refine c32 ?_ ?_ ?_ ?_ ?_ ?_ ?_ ?_ ?_ ?_ ?_ ?_ ?_ ?_ ?_ ?_ ?_ ?_ ?_ ?_ ?_ ?_ ?_ ?_ ?_ ?_ ?_ ?_ ?_ ?_ ?_ ?_
  all_goals simp [b_or, b_and, b_xor, bl0, br0, bu0, bl1, br1, bu1, bl2, br2, bu2, bl3, br3, bu3, bl7, br7, bu7, bl8, br8, bu8, bl11, br11, bu11, bl12, br12, bu12, bl15, br15, bu15, bl16, br16, bu16, bl19, br19, bu19, bl20, br20, bu20, bl21, br21, bu21, bl22, br22, bu22, bl24, br24, bu24, bl26, br26, bu26, bl30, br30, bu30, bl31, br31, bu31, b_big, b_255, b_0, br6, kc_16777215, kc_m352321536, kc_240, kc_248, kc_67108860, kc_m67108861, kc_1044480, kc_1073741824, kc_1069547520, kc_4194303, kc_4095, kc_m4096, kc_1048575, kc_31, kc_127, kc_7, kc_3, kc_1023, kc_1, kc_235, kc_30, kc_18, kc_64, kc_256, kc_511, kc_119]
set_option maxHeartbeats 4000000 in
set_option maxRecDepth 100000 in
theorem bS8 (v : Int32)  : (v >>> ((8 : Int32) &&& 31)) &&& 255 = kU v 8 &&& 255 := by
  apply b_ext
  refine c32 ?_ ?_ ?_ ?_ ?_ ?_ ?_ ?_ ?_ ?_ ?_ ?_ ?_ ?_ ?_ ?_ ?_ ?_ ?_ ?_ ?_ ?_ ?_ ?_ ?_ ?_ ?_ ?_ ?_ ?_ ?_ ?_
  all_goals simp [b_or, b_and, b_xor, bl0, br0, bu0, bl1, br1, bu1, bl2, br2, bu2, bl3, br3, bu3, bl7, br7, bu7, bl8, br8, bu8, bl11, br11, bu11, bl12, br12, bu12, bl15, br15, bu15, bl16, br16, bu16, bl19, br19, bu19, bl20, br20, bu20, bl21, br21, bu21, bl22, br22, bu22, bl24, br24, bu24, bl26, br26, bu26, bl30, br30, bu30, bl31, br31, bu31, b_big, b_255, b_0, br6, kc_16777215, kc_m352321536, kc_240, kc_248, kc_67108860, kc_m67108861, kc_1044480, kc_1073741824, kc_1069547520, kc_4194303, kc_4095, kc_m4096, kc_1048575, kc_31, kc_127, kc_7, kc_3, kc_1023, kc_1, kc_235, kc_30, kc_18, kc_64, kc_256, kc_511, kc_119]
set_option maxHeartbeats 4000000 in
set_option maxRecDepth 100000 in
theorem bS16 (v : Int32)  : (v >>> ((16 : Int32) &&& 31)) &&& 255 = kU v 16 &&& 255 := by
  apply b_ext
  refine c32 ?_ ?_ ?_ ?_ ?_ ?_ ?_ ?_ ?_ ?_ ?_ ?_ ?_ ?_ ?_ ?_ ?_ ?_ ?_ ?_ ?_ ?_ ?_ ?_ ?_ ?_ ?_ ?_ ?_ ?_ ?_ ?_
  all_goals simp [b_or, b_and, b_xor, bl0, br0, bu0, bl1, br1, bu1, bl2, br2, bu2, bl3, br3, bu3, bl7, br7, bu7, bl8, br8, bu8, bl11, br11, bu11, bl12, br12, bu12, bl15, br15, bu15, bl16, br16, bu16, bl19, br19, bu19, bl20, br20, bu20, bl21, br21, bu21, bl22, br22, bu22, bl24, br24, bu24, bl26, br26, bu26, bl30, br30, bu30, bl31, br31, bu31, b_big, b_255, b_0, br6, kc_16777215, kc_m352321536, kc_240, kc_248, kc_67108860, kc_m67108861, kc_1044480, kc_1073741824, kc_1069547520, kc_4194303, kc_4095, kc_m4096, kc_1048575, kc_31, kc_127, kc_7, kc_3, kc_1023, kc_1, kc_235, kc_30, kc_18, kc_64, kc_256, kc_511, kc_119]
set_option maxHeartbeats 4000000 in
set_option maxRecDepth 100000 in
theorem bS24 (v : Int32)  : (v >>> ((24 : Int32) &&& 31)) &&& 255 = kU v 24 := by
  apply b_ext
  refine c32 ?_ ?_ ?_ ?_ ?_ ?_ ?_ ?_ ?_ ?_ ?_ ?_ ?_ ?_ ?_ ?_ ?_ ?_ ?_ ?_ ?_ ?_ ?_ ?_ ?_ ?_ ?_ ?_ ?_ ?_ ?_ ?_
  all_goals simp [b_or, b_and, b_xor, bl0, br0, bu0, bl1, br1, bu1, bl2, br2, bu2, bl3, br3, bu3, bl7, br7, bu7, bl8, br8, bu8, bl11, br11, bu11, bl12, br12, bu12, bl15, br15, bu15, bl16, br16, bu16, bl19, br19, bu19, bl20, br20, bu20, bl21, br21, bu21, bl22, br22, bu22, bl24, br24, bu24, bl26, br26, bu26, bl30, br30, bu30, bl31, br31, bu31, b_big, b_255, b_0, br6, kc_16777215, kc_m352321536, kc_240, kc_248, kc_67108860, kc_m67108861, kc_1044480, kc_1073741824, kc_1069547520, kc_4194303, kc_4095, kc_m4096, kc_1048575, kc_31, kc_127, kc_7, kc_3, kc_1023, kc_1, kc_235, kc_30, kc_18, kc_64, kc_256, kc_511, kc_119]
set_option maxHeartbeats 4000000 in
set_option maxRecDepth 100000 in
theorem bK24 (v : Int32)  : kU v 24 &&& 255 = kU v 24 := by
  apply b_ext
  refine c32 ?_ ?_ ?_ ?_ ?_ ?_ ?_ ?_ ?_ ?_ ?_ ?_ ?_ ?_ ?_ ?_ ?_ ?_ ?_ ?_ ?_ ?_ ?_ ?_ ?_ ?_ ?_ ?_ ?_ ?_ ?_ ?_
  all_goals simp [b_or, b_and, b_xor, bl0, br0, bu0, bl1, br1, bu1, bl2, br2, bu2, bl3, br3, bu3, bl7, br7, bu7, bl8, br8, bu8, bl11, br11, bu11, bl12, br12, bu12, bl15, br15, bu15, bl16, br16, bu16, bl19, br19, bu19, bl20, br20, bu20, bl21, br21, bu21, bl22, br22, bu22, bl24, br24, bu24, bl26, br26, bu26, bl30, br30, bu30, bl31, br31, bu31, b_big, b_255, b_0, br6, kc_16777215, kc_m352321536, kc_240, kc_248, kc_67108860, kc_m67108861, kc_1044480, kc_1073741824, kc_1069547520, kc_4194303, kc_4095, kc_m4096, kc_1048575, kc_31, kc_127, kc_7, kc_3, kc_1023, kc_1, kc_235, kc_30, kc_18, kc_64, kc_256, kc_511, kc_119]
set_option maxHeartbeats 4000000 in
set_option maxRecDepth 100000 in
theorem bT1 (a : Int32) (ha : isB a) : a >>> ((3 : Int32) &&& 31) = kU a 3 := by
  apply b_ext
  refine c32 ?_ ?_ ?_ ?_ ?_ ?_ ?_ ?_ ?_ ?_ ?_ ?_ ?_ ?_ ?_ ?_ ?_ ?_ ?_ ?_ ?_ ?_ ?_ ?_ ?_ ?_ ?_ ?_ ?_ ?_ ?_ ?_
  all_goals simp [b_or, b_and, b_xor, bl0, br0, bu0, bl1, br1, bu1, bl2, br2, bu2, bl3, br3, bu3, bl7, br7, bu7, bl8, br8, bu8, bl11, br11, bu11, bl12, br12, bu12, bl15, br15, bu15, bl16, br16, bu16, bl19, br19, bu19, bl20, br20, bu20, bl21, br21, bu21, bl22, br22, bu22, bl24, br24, bu24, bl26, br26, bu26, bl30, br30, bu30, bl31, br31, bu31, b_big, b_255, b_0, br6, kc_16777215, kc_m352321536, kc_240, kc_248, kc_67108860, kc_m67108861, kc_1044480, kc_1073741824, kc_1069547520, kc_4194303, kc_4095, kc_m4096, kc_1048575, kc_31, kc_127, kc_7, kc_3, kc_1023, kc_1, kc_235, kc_30, kc_18, kc_64, kc_256, kc_511, kc_119, ha.hi]
set_option maxHeartbeats 4000000 in
set_option maxRecDepth 100000 in
theorem bT2 (t : Int32)  : (t >>> ((11 : Int32) &&& 31)) &&& 255 = kU t 11 &&& 255 := by
  apply b_ext
  refine c32 ?_ ?_ ?_ ?_ ?_ ?_ ?_ ?_ ?_ ?_ ?_ ?_ ?_ ?_ ?_ ?_ ?_ ?_ ?_ ?_ ?_ ?_ ?_ ?_ ?_ ?_ ?_ ?_ ?_ ?_ ?_ ?_
  all_goals simp [b_or, b_and, b_xor, bl0, br0, bu0, bl1, br1, bu1, bl2, br2, bu2, bl3, br3, bu3, bl7, br7, bu7, bl8, br8, bu8, bl11, br11, bu11, bl12, br12, bu12, bl15, br15, bu15, bl16, br16, bu16, bl19, br19, bu19, bl20, br20, bu20, bl21, br21, bu21, bl22, br22, bu22, bl24, br24, bu24, bl26, br26, bu26, bl30, br30, bu30, bl31, br31, bu31, b_big, b_255, b_0, br6, kc_16777215, kc_m352321536, kc_240, kc_248, kc_67108860, kc_m67108861, kc_1044480, kc_1073741824, kc_1069547520, kc_4194303, kc_4095, kc_m4096, kc_1048575, kc_31, kc_127, kc_7, kc_3, kc_1023, kc_1, kc_235, kc_30, kc_18, kc_64, kc_256, kc_511, kc_119]
set_option maxHeartbeats 4000000 in
set_option maxRecDepth 100000 in
theorem bT3 (t : Int32)  : (240 ||| ((t >>> ((19 : Int32) &&& 31)) &&& 7)) &&& 255 = (240 ||| (kU t 19 &&& 7)) &&& 255 := by
  apply b_ext
  refine c32 ?_ ?_ ?_ ?_ ?_ ?_ ?_ ?_ ?_ ?_ ?_ ?_ ?_ ?_ ?_ ?_ ?_ ?_ ?_ ?_ ?_ ?_ ?_ ?_ ?_ ?_ ?_ ?_ ?_ ?_ ?_ ?_
  all_goals simp [b_or, b_and, b_xor, bl0, br0, bu0, bl1, br1, bu1, bl2, br2, bu2, bl3, br3, bu3, bl7, br7, bu7, bl8, br8, bu8, bl11, br11, bu11, bl12, br12, bu12, bl15, br15, bu15, bl16, br16, bu16, bl19, br19, bu19, bl20, br20, bu20, bl21, br21, bu21, bl22, br22, bu22, bl24, br24, bu24, bl26, br26, bu26, bl30, br30, bu30, bl31, br31, bu31, b_big, b_255, b_0, br6, kc_16777215, kc_m352321536, kc_240, kc_248, kc_67108860, kc_m67108861, kc_1044480, kc_1073741824, kc_1069547520, kc_4194303, kc_4095, kc_m4096, kc_1048575, kc_31, kc_127, kc_7, kc_3, kc_1023, kc_1, kc_235, kc_30, kc_18, kc_64, kc_256, kc_511, kc_119]
set_option maxHeartbeats 4000000 in
set_option maxRecDepth 100000 in
theorem bT4 (t : Int32)  : (248 ||| ((t >>> ((8 : Int32) &&& 31)) &&& 7)) &&& 255 = (248 ||| (kU t 8 &&& 7)) &&& 255 := by
  apply b_ext
  refine c32 ?_ ?_ ?_ ?_ ?_ ?_ ?_ ?_ ?_ ?_ ?_ ?_ ?_ ?_ ?_ ?_ ?_ ?_ ?_ ?_ ?_ ?_ ?_ ?_ ?_ ?_ ?_ ?_ ?_ ?_ ?_ ?_
  all_goals simp [b_or, b_and, b_xor, bl0, br0, bu0, bl1, br1, bu1, bl2, br2, bu2, bl3, br3, bu3, bl7, br7, bu7, bl8, br8, bu8, bl11, br11, bu11, bl12, br12, bu12, bl15, br15, bu15, bl16, br16, bu16, bl19, br19, bu19, bl20, br20, bu20, bl21, br21, bu21, bl22, br22, bu22, bl24, br24, bu24, bl26, br26, bu26, bl30, br30, bu30, bl31, br31, bu31, b_big, b_255, b_0, br6, kc_16777215, kc_m352321536, kc_240, kc_248, kc_67108860, kc_m67108861, kc_1044480, kc_1073741824, kc_1069547520, kc_4194303, kc_4095, kc_m4096, kc_1048575, kc_31, kc_127, kc_7, kc_3, kc_1023, kc_1, kc_235, kc_30, kc_18, kc_64, kc_256, kc_511, kc_119]
theorem bR1 (a b c d : Int32) : (((d <<< ((24 : Int32) &&& 31) ||| c <<< ((16 : Int32) &&& 31)) ||| b <<< ((8 : Int32) &&& 31)) ||| a) = (((a ||| b <<< ((8 : Int32) &&& 31)) ||| c <<< ((16 : Int32) &&& 31)) ||| d <<< ((24 : Int32) &&& 31)) := by
  apply b_ext; intro i _
  simp only [b_or]
  generalize bt a i = x1; generalize bt (b <<< ((8 : Int32) &&& 31)) i = x2; generalize bt (c <<< ((16 : Int32) &&& 31)) i = x3; generalize bt (d <<< ((24 : Int32) &&& 31)) i = x4
  cases x1 <;> cases x2 <;> cases x3 <;> cases x4 <;> rfl
set_option maxHeartbeats 4000000 in
set_option maxRecDepth 100000 in
theorem bP1 (a b c d : Int32) (ha : isB a) (hb : isB b) (hc : isB c) (hd : isB d) : kU (((a <<< ((24 : Int32) &&& 31) ||| b <<< ((16 : Int32) &&& 31)) ||| c <<< ((8 : Int32) &&& 31)) ||| d) 22 = (a <<< ((2 : Int32) &&& 31)) ||| (b >>> ((6 : Int32) &&& 31)) := by
  apply b_ext
  refine c32 ?_ ?_ ?_ ?_ ?_ ?_ ?_ ?_ ?_ ?_ ?_ ?_ ?_ ?_ ?_ ?_ ?_ ?_ ?_ ?_ ?_ ?_ ?_ ?_ ?_ ?_ ?_ ?_ ?_ ?_ ?_ ?_
  all_goals simp [b_or, b_and, b_xor, bl0, br0, bu0, bl1, br1, bu1, bl2, br2, bu2, bl3, br3, bu3, bl7, br7, bu7, bl8, br8, bu8, bl11, br11, bu11, bl12, br12, bu12, bl15, br15, bu15, bl16, br16, bu16, bl19, br19, bu19, bl20, br20, bu20, bl21, br21, bu21, bl22, br22, bu22, bl24, br24, bu24, bl26, br26, bu26, bl30, br30, bu30, bl31, br31, bu31, b_big, b_255, b_0, br6, kc_16777215, kc_m352321536, kc_240, kc_248, kc_67108860, kc_m67108861, kc_1044480, kc_1073741824, kc_1069547520, kc_4194303, kc_4095, kc_m4096, kc_1048575, kc_31, kc_127, kc_7, kc_3, kc_1023, kc_1, kc_235, kc_30, kc_18, kc_64, kc_256, kc_511, kc_119, ha.hi, hb.hi, hc.hi, hd.hi]
set_option maxHeartbeats 4000000 in
set_option maxRecDepth 100000 in
theorem bP2 (t : Int32)  : (t >>> ((22 : Int32) &&& 31)) &&& 1 = kU t 22 &&& 1 := by
  apply b_ext
  refine c32 ?_ ?_ ?_ ?_ ?_ ?_ ?_ ?_ ?_ ?_ ?_ ?_ ?_ ?_ ?_ ?_ ?_ ?_ ?_ ?_ ?_ ?_ ?_ ?_ ?_ ?_ ?_ ?_ ?_ ?_ ?_ ?_
  all_goals simp [b_or, b_and, b_xor, bl0, br0, bu0, bl1, br1, bu1, bl2, br2, bu2, bl3, br3, bu3, bl7, br7, bu7, bl8, br8, bu8, bl11, br11, bu11, bl12, br12, bu12, bl15, br15, bu15, bl16, br16, bu16, bl19, br19, bu19, bl20, br20, bu20, bl21, br21, bu21, bl22, br22, bu22, bl24, br24, bu24, bl26, br26, bu26, bl30, br30, bu30, bl31, br31, bu31, b_big, b_255, b_0, br6, kc_16777215, kc_m352321536, kc_240, kc_248, kc_67108860, kc_m67108861, kc_1044480, kc_1073741824, kc_1069547520, kc_4194303, kc_4095, kc_m4096, kc_1048575, kc_31, kc_127, kc_7, kc_3, kc_1023, kc_1, kc_235, kc_30, kc_18, kc_64, kc_256, kc_511, kc_119]
set_option maxHeartbeats 4000000 in
set_option maxRecDepth 100000 in
theorem bP3   : ((255 : Int32) <<< ((22 : Int32) &&& 31)) = 1069547520 := by
  apply b_ext
  refine c32 ?_ ?_ ?_ ?_ ?_ ?_ ?_ ?_ ?_ ?_ ?_ ?_ ?_ ?_ ?_ ?_ ?_ ?_ ?_ ?_ ?_ ?_ ?_ ?_ ?_ ?_ ?_ ?_ ?_ ?_ ?_ ?_
  all_goals simp [b_or, b_and, b_xor, bl0, br0, bu0, bl1, br1, bu1, bl2, br2, bu2, bl3, br3, bu3, bl7, br7, bu7, bl8, br8, bu8, bl11, br11, bu11, bl12, br12, bu12, bl15, br15, bu15, bl16, br16, bu16, bl19, br19, bu19, bl20, br20, bu20, bl21, br21, bu21, bl22, br22, bu22, bl24, br24, bu24, bl26, br26, bu26, bl30, br30, bu30, bl31, br31, bu31, b_big, b_255, b_0, br6, kc_16777215, kc_m352321536, kc_240, kc_248, kc_67108860, kc_m67108861, kc_1044480, kc_1073741824, kc_1069547520, kc_4194303, kc_4095, kc_m4096, kc_1048575, kc_31, kc_127, kc_7, kc_3, kc_1023, kc_1, kc_235, kc_30, kc_18, kc_64, kc_256, kc_511, kc_119]
set_option maxHeartbeats 4000000 in
set_option maxRecDepth 100000 in
theorem bP4   : ((0 : Int32) <<< ((22 : Int32) &&& 31)) = 0 := by
  apply b_ext
  refine c32 ?_ ?_ ?_ ?_ ?_ ?_ ?_ ?_ ?_ ?_ ?_ ?_ ?_ ?_ ?_ ?_ ?_ ?_ ?_ ?_ ?_ ?_ ?_ ?_ ?_ ?_ ?_ ?_ ?_ ?_ ?_ ?_
  all_goals simp [b_or, b_and, b_xor, bl0, br0, bu0, bl1, br1, bu1, bl2, br2, bu2, bl3, br3, bu3, bl7, br7, bu7, bl8, br8, bu8, bl11, br11, bu11, bl12, br12, bu12, bl15, br15, bu15, bl16, br16, bu16, bl19, br19, bu19, bl20, br20, bu20, bl21, br21, bu21, bl22, br22, bu22, bl24, br24, bu24, bl26, br26, bu26, bl30, br30, bu30, bl31, br31, bu31, b_big, b_255, b_0, br6, kc_16777215, kc_m352321536, kc_240, kc_248, kc_67108860, kc_m67108861, kc_1044480, kc_1073741824, kc_1069547520, kc_4194303, kc_4095, kc_m4096, kc_1048575, kc_31, kc_127, kc_7, kc_3, kc_1023, kc_1, kc_235, kc_30, kc_18, kc_64, kc_256, kc_511, kc_119]
set_option maxHeartbeats 4000000 in
set_option maxRecDepth 100000 in
theorem bX1 (w : Int32)  : ((w >>> ((7 : Int32) &&& 31)) &&& 31) = (kU w 7 &&& 31) := by
  apply b_ext
  refine c32 ?_ ?_ ?_ ?_ ?_ ?_ ?_ ?_ ?_ ?_ ?_ ?_ ?_ ?_ ?_ ?_ ?_ ?_ ?_ ?_ ?_ ?_ ?_ ?_ ?_ ?_ ?_ ?_ ?_ ?_ ?_ ?_
  all_goals simp [b_or, b_and, b_xor, bl0, br0, bu0, bl1, br1, bu1, bl2, br2, bu2, bl3, br3, bu3, bl7, br7, bu7, bl8, br8, bu8, bl11, br11, bu11, bl12, br12, bu12, bl15, br15, bu15, bl16, br16, bu16, bl19, br19, bu19, bl20, br20, bu20, bl21, br21, bu21, bl22, br22, bu22, bl24, br24, bu24, bl26, br26, bu26, bl30, br30, bu30, bl31, br31, bu31, b_big, b_255, b_0, br6, kc_16777215, kc_m352321536, kc_240, kc_248, kc_67108860, kc_m67108861, kc_1044480, kc_1073741824, kc_1069547520, kc_4194303, kc_4095, kc_m4096, kc_1048575, kc_31, kc_127, kc_7, kc_3, kc_1023, kc_1, kc_235, kc_30, kc_18, kc_64, kc_256, kc_511, kc_119]
set_option maxHeartbeats 4000000 in
set_option maxRecDepth 100000 in
theorem bX2 (w : Int32)  : (((w >>> ((12 : Int32) &&& 31)) &&& 255) <<< ((12 : Int32) &&& 31)) = (w &&& 1044480) := by
  apply b_ext
  refine c32 ?_ ?_ ?_ ?_ ?_ ?_ ?_ ?_ ?_ ?_ ?_ ?_ ?_ ?_ ?_ ?_ ?_ ?_ ?_ ?_ ?_ ?_ ?_ ?_ ?_ ?_ ?_ ?_ ?_ ?_ ?_ ?_
  all_goals simp [b_or, b_and, b_xor, bl0, br0, bu0, bl1, br1, bu1, bl2, br2, bu2, bl3, br3, bu3, bl7, br7, bu7, bl8, br8, bu8, bl11, br11, bu11, bl12, br12, bu12, bl15, br15, bu15, bl16, br16, bu16, bl19, br19, bu19, bl20, br20, bu20, bl21, br21, bu21, bl22, br22, bu22, bl24, br24, bu24, bl26, br26, bu26, bl30, br30, bu30, bl31, br31, bu31, b_big, b_255, b_0, br6, kc_16777215, kc_m352321536, kc_240, kc_248, kc_67108860, kc_m67108861, kc_1044480, kc_1073741824, kc_1069547520, kc_4194303, kc_4095, kc_m4096, kc_1048575, kc_31, kc_127, kc_7, kc_3, kc_1023, kc_1, kc_235, kc_30, kc_18, kc_64, kc_256, kc_511, kc_119]
set_option maxHeartbeats 4000000 in
set_option maxRecDepth 100000 in
theorem bX3 (w : Int32)  : ((w >>> ((20 : Int32) &&& 31)) &&& 1) = (kU w 20 &&& 1) := by
  apply b_ext
  refine c32 ?_ ?_ ?_ ?_ ?_ ?_ ?_ ?_ ?_ ?_ ?_ ?_ ?_ ?_ ?_ ?_ ?_ ?_ ?_ ?_ ?_ ?_ ?_ ?_ ?_ ?_ ?_ ?_ ?_ ?_ ?_ ?_
  all_goals simp [b_or, b_and, b_xor, bl0, br0, bu0, bl1, br1, bu1, bl2, br2, bu2, bl3, br3, bu3, bl7, br7, bu7, bl8, br8, bu8, bl11, br11, bu11, bl12, br12, bu12, bl15, br15, bu15, bl16, br16, bu16, bl19, br19, bu19, bl20, br20, bu20, bl21, br21, bu21, bl22, br22, bu22, bl24, br24, bu24, bl26, br26, bu26, bl30, br30, bu30, bl31, br31, bu31, b_big, b_255, b_0, br6, kc_16777215, kc_m352321536, kc_240, kc_248, kc_67108860, kc_m67108861, kc_1044480, kc_1073741824, kc_1069547520, kc_4194303, kc_4095, kc_m4096, kc_1048575, kc_31, kc_127, kc_7, kc_3, kc_1023, kc_1, kc_235, kc_30, kc_18, kc_64, kc_256, kc_511, kc_119]
set_option maxHeartbeats 4000000 in
set_option maxRecDepth 100000 in
theorem bX4 (w : Int32)  : ((w >>> ((21 : Int32) &&& 31)) &&& 1023) = (kU w 21 &&& 1023) := by
  apply b_ext
  refine c32 ?_ ?_ ?_ ?_ ?_ ?_ ?_ ?_ ?_ ?_ ?_ ?_ ?_ ?_ ?_ ?_ ?_ ?_ ?_ ?_ ?_ ?_ ?_ ?_ ?_ ?_ ?_ ?_ ?_ ?_ ?_ ?_
  all_goals simp [b_or, b_and, b_xor, bl0, br0, bu0, bl1, br1, bu1, bl2, br2, bu2, bl3, br3, bu3, bl7, br7, bu7, bl8, br8, bu8, bl11, br11, bu11, bl12, br12, bu12, bl15, br15, bu15, bl16, br16, bu16, bl19, br19, bu19, bl20, br20, bu20, bl21, br21, bu21, bl22, br22, bu22, bl24, br24, bu24, bl26, br26, bu26, bl30, br30, bu30, bl31, br31, bu31, b_big, b_255, b_0, br6, kc_16777215, kc_m352321536, kc_240, kc_248, kc_67108860, kc_m67108861, kc_1044480, kc_1073741824, kc_1069547520, kc_4194303, kc_4095, kc_m4096, kc_1048575, kc_31, kc_127, kc_7, kc_3, kc_1023, kc_1, kc_235, kc_30, kc_18, kc_64, kc_256, kc_511, kc_119]
set_option maxHeartbeats 4000000 in
set_option maxRecDepth 100000 in
theorem bX5 (w : Int32)  : ((w >>> ((1 : Int32) &&& 31)) &&& 1023) = (kU w 1 &&& 1023) := by
  apply b_ext
  refine c32 ?_ ?_ ?_ ?_ ?_ ?_ ?_ ?_ ?_ ?_ ?_ ?_ ?_ ?_ ?_ ?_ ?_ ?_ ?_ ?_ ?_ ?_ ?_ ?_ ?_ ?_ ?_ ?_ ?_ ?_ ?_ ?_
  all_goals simp [b_or, b_and, b_xor, bl0, br0, bu0, bl1, br1, bu1, bl2, br2, bu2, bl3, br3, bu3, bl7, br7, bu7, bl8, br8, bu8, bl11, br11, bu11, bl12, br12, bu12, bl15, br15, bu15, bl16, br16, bu16, bl19, br19, bu19, bl20, br20, bu20, bl21, br21, bu21, bl22, br22, bu22, bl24, br24, bu24, bl26, br26, bu26, bl30, br30, bu30, bl31, br31, bu31, b_big, b_255, b_0, br6, kc_16777215, kc_m352321536, kc_240, kc_248, kc_67108860, kc_m67108861, kc_1044480, kc_1073741824, kc_1069547520, kc_4194303, kc_4095, kc_m4096, kc_1048575, kc_31, kc_127, kc_7, kc_3, kc_1023, kc_1, kc_235, kc_30, kc_18, kc_64, kc_256, kc_511, kc_119]
set_option maxHeartbeats 4000000 in
set_option maxRecDepth 100000 in
theorem bX6 (w : Int32)  : ((w >>> ((11 : Int32) &&& 31)) &&& 1) = (kU w 11 &&& 1) := by
  apply b_ext
  refine c32 ?_ ?_ ?_ ?_ ?_ ?_ ?_ ?_ ?_ ?_ ?_ ?_ ?_ ?_ ?_ ?_ ?_ ?_ ?_ ?_ ?_ ?_ ?_ ?_ ?_ ?_ ?_ ?_ ?_ ?_ ?_ ?_
  all_goals simp [b_or, b_and, b_xor, bl0, br0, bu0, bl1, br1, bu1, bl2, br2, bu2, bl3, br3, bu3, bl7, br7, bu7, bl8, br8, bu8, bl11, br11, bu11, bl12, br12, bu12, bl15, br15, bu15, bl16, br16, bu16, bl19, br19, bu19, bl20, br20, bu20, bl21, br21, bu21, bl22, br22, bu22, bl24, br24, bu24, bl26, br26, bu26, bl30, br30, bu30, bl31, br31, bu31, b_big, b_255, b_0, br6, kc_16777215, kc_m352321536, kc_240, kc_248, kc_67108860, kc_m67108861, kc_1044480, kc_1073741824, kc_1069547520, kc_4194303, kc_4095, kc_m4096, kc_1048575, kc_31, kc_127, kc_7, kc_3, kc_1023, kc_1, kc_235, kc_30, kc_18, kc_64, kc_256, kc_511, kc_119]
set_option maxHeartbeats 4000000 in
set_option maxRecDepth 100000 in
theorem bX7 (w : Int32)  : ((w >>> ((15 : Int32) &&& 31)) &&& 31) = (kU w 15 &&& 31) := by
  apply b_ext
  refine c32 ?_ ?_ ?_ ?_ ?_ ?_ ?_ ?_ ?_ ?_ ?_ ?_ ?_ ?_ ?_ ?_ ?_ ?_ ?_ ?_ ?_ ?_ ?_ ?_ ?_ ?_ ?_ ?_ ?_ ?_ ?_ ?_
  all_goals simp [b_or, b_and, b_xor, bl0, br0, bu0, bl1, br1, bu1, bl2, br2, bu2, bl3, br3, bu3, bl7, br7, bu7, bl8, br8, bu8, bl11, br11, bu11, bl12, br12, bu12, bl15, br15, bu15, bl16, br16, bu16, bl19, br19, bu19, bl20, br20, bu20, bl21, br21, bu21, bl22, br22, bu22, bl24, br24, bu24, bl26, br26, bu26, bl30, br30, bu30, bl31, br31, bu31, b_big, b_255, b_0, br6, kc_16777215, kc_m352321536, kc_240, kc_248, kc_67108860, kc_m67108861, kc_1044480, kc_1073741824, kc_1069547520, kc_4194303, kc_4095, kc_m4096, kc_1048575, kc_31, kc_127, kc_7, kc_3, kc_1023, kc_1, kc_235, kc_30, kc_18, kc_64, kc_256, kc_511, kc_119]
