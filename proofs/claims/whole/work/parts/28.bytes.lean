/-! jump: bytes -/
set_option maxHeartbeats 4000000 in
set_option maxRecDepth 100000 in
theorem bJ0 (t : Int32)  : ((t <<< ((7 : Int32) &&& 31)) >>> ((7 : Int32) &&& 31)) &&& 255 = t &&& 255 := by
  apply b_ext
  refine c32 ?_ ?_ ?_ ?_ ?_ ?_ ?_ ?_ ?_ ?_ ?_ ?_ ?_ ?_ ?_ ?_ ?_ ?_ ?_ ?_ ?_ ?_ ?_ ?_ ?_ ?_ ?_ ?_ ?_ ?_ ?_ ?_
  all_goals simp [b_or, b_and, b_xor, bl0, br0, bu0, bl1, br1, bu1, bl2, br2, bu2, bl3, br3, bu3, bl7, br7, bu7, bl8, br8, bu8, bl11, br11, bu11, bl12, br12, bu12, bl15, br15, bu15, bl16, br16, bu16, bl19, br19, bu19, bl20, br20, bu20, bl21, br21, bu21, bl22, br22, bu22, bl24, br24, bu24, bl26, br26, bu26, bl30, br30, bu30, bl31, br31, bu31, b_big, b_255, b_0, br6, kc_16777215, kc_m352321536, kc_240, kc_248, kc_67108860, kc_m67108861, kc_1044480, kc_1073741824, kc_1069547520, kc_4194303, kc_4095, kc_m4096, kc_1048575, kc_31, kc_127, kc_7, kc_3, kc_1023, kc_1, kc_235, kc_30, kc_18, kc_64, kc_256, kc_511, kc_119]
set_option maxHeartbeats 4000000 in
set_option maxRecDepth 100000 in
theorem bJ8 (t : Int32)  : kU ((t <<< ((7 : Int32) &&& 31)) >>> ((7 : Int32) &&& 31)) 8 &&& 255 = (t >>> ((8 : Int32) &&& 31)) &&& 255 := by
  apply b_ext
  refine c32 ?_ ?_ ?_ ?_ ?_ ?_ ?_ ?_ ?_ ?_ ?_ ?_ ?_ ?_ ?_ ?_ ?_ ?_ ?_ ?_ ?_ ?_ ?_ ?_ ?_ ?_ ?_ ?_ ?_ ?_ ?_ ?_
  all_goals simp [b_or, b_and, b_xor, bl0, br0, bu0, bl1, br1, bu1, bl2, br2, bu2, bl3, br3, bu3, bl7, br7, bu7, bl8, br8, bu8, bl11, br11, bu11, bl12, br12, bu12, bl15, br15, bu15, bl16, br16, bu16, bl19, br19, bu19, bl20, br20, bu20, bl21, br21, bu21, bl22, br22, bu22, bl24, br24, bu24, bl26, br26, bu26, bl30, br30, bu30, bl31, br31, bu31, b_big, b_255, b_0, br6, kc_16777215, kc_m352321536, kc_240, kc_248, kc_67108860, kc_m67108861, kc_1044480, kc_1073741824, kc_1069547520, kc_4194303, kc_4095, kc_m4096, kc_1048575, kc_31, kc_127, kc_7, kc_3, kc_1023, kc_1, kc_235, kc_30, kc_18, kc_64, kc_256, kc_511, kc_119]
set_option maxHeartbeats 4000000 in
set_option maxRecDepth 100000 in
theorem bJ16 (t : Int32)  : kU ((t <<< ((7 : Int32) &&& 31)) >>> ((7 : Int32) &&& 31)) 16 &&& 255 = (t >>> ((16 : Int32) &&& 31)) &&& 255 := by
  apply b_ext
  refine c32 ?_ ?_ ?_ ?_ ?_ ?_ ?_ ?_ ?_ ?_ ?_ ?_ ?_ ?_ ?_ ?_ ?_ ?_ ?_ ?_ ?_ ?_ ?_ ?_ ?_ ?_ ?_ ?_ ?_ ?_ ?_ ?_
  all_goals simp [b_or, b_and, b_xor, bl0, br0, bu0, bl1, br1, bu1, bl2, br2, bu2, bl3, br3, bu3, bl7, br7, bu7, bl8, br8, bu8, bl11, br11, bu11, bl12, br12, bu12, bl15, br15, bu15, bl16, br16, bu16, bl19, br19, bu19, bl20, br20, bu20, bl21, br21, bu21, bl22, br22, bu22, bl24, br24, bu24, bl26, br26, bu26, bl30, br30, bu30, bl31, br31, bu31, b_big, b_255, b_0, br6, kc_16777215, kc_m352321536, kc_240, kc_248, kc_67108860, kc_m67108861, kc_1044480, kc_1073741824, kc_1069547520, kc_4194303, kc_4095, kc_m4096, kc_1048575, kc_31, kc_127, kc_7, kc_3, kc_1023, kc_1, kc_235, kc_30, kc_18, kc_64, kc_256, kc_511, kc_119]
set_option maxHeartbeats 4000000 in
set_option maxRecDepth 100000 in
theorem bJ24t (t : Int32) (h : bt t 24 = true) : kU ((t <<< ((7 : Int32) &&& 31)) >>> ((7 : Int32) &&& 31)) 24 = 255 := by
  apply b_ext
  refine c32 ?_ ?_ ?_ ?_ ?_ ?_ ?_ ?_ ?_ ?_ ?_ ?_ ?_ ?_ ?_ ?_ ?_ ?_ ?_ ?_ ?_ ?_ ?_ ?_ ?_ ?_ ?_ ?_ ?_ ?_ ?_ ?_
  all_goals simp [b_or, b_and, b_xor, bl0, br0, bu0, bl1, br1, bu1, bl2, br2, bu2, bl3, br3, bu3, bl7, br7, bu7, bl8, br8, bu8, bl11, br11, bu11, bl12, br12, bu12, bl15, br15, bu15, bl16, br16, bu16, bl19, br19, bu19, bl20, br20, bu20, bl21, br21, bu21, bl22, br22, bu22, bl24, br24, bu24, bl26, br26, bu26, bl30, br30, bu30, bl31, br31, bu31, b_big, b_255, b_0, br6, kc_16777215, kc_m352321536, kc_240, kc_248, kc_67108860, kc_m67108861, kc_1044480, kc_1073741824, kc_1069547520, kc_4194303, kc_4095, kc_m4096, kc_1048575, kc_31, kc_127, kc_7, kc_3, kc_1023, kc_1, kc_235, kc_30, kc_18, kc_64, kc_256, kc_511, kc_119, h]
set_option maxHeartbeats 4000000 in
set_option maxRecDepth 100000 in
theorem bJ24f (t : Int32) (h : bt t 24 = false) : kU ((t <<< ((7 : Int32) &&& 31)) >>> ((7 : Int32) &&& 31)) 24 = 0 := by
  apply b_ext
  refine c32 ?_ ?_ ?_ ?_ ?_ ?_ ?_ ?_ ?_ ?_ ?_ ?_ ?_ ?_ ?_ ?_ ?_ ?_ ?_ ?_ ?_ ?_ ?_ ?_ ?_ ?_ ?_ ?_ ?_ ?_ ?_ ?_
  all_goals simp [b_or, b_and, b_xor, bl0, br0, bu0, bl1, br1, bu1, bl2, br2, bu2, bl3, br3, bu3, bl7, br7, bu7, bl8, br8, bu8, bl11, br11, bu11, bl12, br12, bu12, bl15, br15, bu15, bl16, br16, bu16, bl19, br19, bu19, bl20, br20, bu20, bl21, br21, bu21, bl22, br22, bu22, bl24, br24, bu24, bl26, br26, bu26, bl30, br30, bu30, bl31, br31, bu31, b_big, b_255, b_0, br6, kc_16777215, kc_m352321536, kc_240, kc_248, kc_67108860, kc_m67108861, kc_1044480, kc_1073741824, kc_1069547520, kc_4194303, kc_4095, kc_m4096, kc_1048575, kc_31, kc_127, kc_7, kc_3, kc_1023, kc_1, kc_235, kc_30, kc_18, kc_64, kc_256, kc_511, kc_119, h]
set_option maxHeartbeats 4000000 in
set_option maxRecDepth 100000 in
theorem bJat (t : Int32) (h : bt t 24 = true) : (t >>> ((24 : Int32) &&& 31)) &&& 1 = 1 := by
  apply b_ext
  refine c32 ?_ ?_ ?_ ?_ ?_ ?_ ?_ ?_ ?_ ?_ ?_ ?_ ?_ ?_ ?_ ?_ ?_ ?_ ?_ ?_ ?_ ?_ ?_ ?_ ?_ ?_ ?_ ?_ ?_ ?_ ?_ ?_
  all_goals simp [b_or, b_and, b_xor, bl0, br0, bu0, bl1, br1, bu1, bl2, br2, bu2, bl3, br3, bu3, bl7, br7, bu7, bl8, br8, bu8, bl11, br11, bu11, bl12, br12, bu12, bl15, br15, bu15, bl16, br16, bu16, bl19, br19, bu19, bl20, br20, bu20, bl21, br21, bu21, bl22, br22, bu22, bl24, br24, bu24, bl26, br26, bu26, bl30, br30, bu30, bl31, br31, bu31, b_big, b_255, b_0, br6, kc_16777215, kc_m352321536, kc_240, kc_248, kc_67108860, kc_m67108861, kc_1044480, kc_1073741824, kc_1069547520, kc_4194303, kc_4095, kc_m4096, kc_1048575, kc_31, kc_127, kc_7, kc_3, kc_1023, kc_1, kc_235, kc_30, kc_18, kc_64, kc_256, kc_511, kc_119, h]
set_option maxHeartbeats 4000000 in
set_option maxRecDepth 100000 in
theorem bJaf (t : Int32) (h : bt t 24 = false) : (t >>> ((24 : Int32) &&& 31)) &&& 1 = 0 := by
  apply b_ext
  refine c32 ?_ ?_ ?_ ?_ ?_ ?_ ?_ ?_ ?_ ?_ ?_ ?_ ?_ ?_ ?_ ?_ ?_ ?_ ?_ ?_ ?_ ?_ ?_ ?_ ?_ ?_ ?_ ?_ ?_ ?_ ?_ ?_
  all_goals simp [b_or, b_and, b_xor, bl0, br0, bu0, bl1, br1, bu1, bl2, br2, bu2, bl3, br3, bu3, bl7, br7, bu7, bl8, br8, bu8, bl11, br11, bu11, bl12, br12, bu12, bl15, br15, bu15, bl16, br16, bu16, bl19, br19, bu19, bl20, br20, bu20, bl21, br21, bu21, bl22, br22, bu22, bl24, br24, bu24, bl26, br26, bu26, bl30, br30, bu30, bl31, br31, bu31, b_big, b_255, b_0, br6, kc_16777215, kc_m352321536, kc_240, kc_248, kc_67108860, kc_m67108861, kc_1044480, kc_1073741824, kc_1069547520, kc_4194303, kc_4095, kc_m4096, kc_1048575, kc_31, kc_127, kc_7, kc_3, kc_1023, kc_1, kc_235, kc_30, kc_18, kc_64, kc_256, kc_511, kc_119, h]
set_option maxHeartbeats 4000000 in
set_option maxRecDepth 100000 in
theorem bU0 (t : Int32)  : (t >>> ((0 : Int32) &&& 31)) &&& 255 = kU t 0 &&& 255 := by
  apply b_ext
  refine c32 ?_ ?_ ?_ ?_ ?_ ?_ ?_ ?_ ?_ ?_ ?_ ?_ ?_ ?_ ?_ ?_ ?_ ?_ ?_ ?_ ?_ ?_ ?_ ?_ ?_ ?_ ?_ ?_ ?_ ?_ ?_ ?_
  all_goals simp [b_or, b_and, b_xor, bl0, br0, bu0, bl1, br1, bu1, bl2, br2, bu2, bl3, br3, bu3, bl7, br7, bu7, bl8, br8, bu8, bl11, br11, bu11, bl12, br12, bu12, bl15, br15, bu15, bl16, br16, bu16, bl19, br19, bu19, bl20, br20, bu20, bl21, br21, bu21, bl22, br22, bu22, bl24, br24, bu24, bl26, br26, bu26, bl30, br30, bu30, bl31, br31, bu31, b_big, b_255, b_0, br6, kc_16777215, kc_m352321536, kc_240, kc_248, kc_67108860, kc_m67108861, kc_1044480, kc_1073741824, kc_1069547520, kc_4194303, kc_4095, kc_m4096, kc_1048575, kc_31, kc_127, kc_7, kc_3, kc_1023, kc_1, kc_235, kc_30, kc_18, kc_64, kc_256, kc_511, kc_119]
set_option maxHeartbeats 4000000 in
set_option maxRecDepth 100000 in
theorem bE16 {x y : Int32} (h : ∀ i, i < 24 → bt x i = !(bt y i)) : (x >>> ((16 : Int32) &&& 31)) &&& 255 = ((y >>> ((16 : Int32) &&& 31)) &&& 255) ^^^ 255 := by
  apply b_ext
  refine c32 ?_ ?_ ?_ ?_ ?_ ?_ ?_ ?_ ?_ ?_ ?_ ?_ ?_ ?_ ?_ ?_ ?_ ?_ ?_ ?_ ?_ ?_ ?_ ?_ ?_ ?_ ?_ ?_ ?_ ?_ ?_ ?_
  all_goals simp [b_or, b_and, b_xor, bl0, br0, bu0, bl1, br1, bu1, bl2, br2, bu2, bl3, br3, bu3, bl7, br7, bu7, bl8, br8, bu8, bl11, br11, bu11, bl12, br12, bu12, bl15, br15, bu15, bl16, br16, bu16, bl19, br19, bu19, bl20, br20, bu20, bl21, br21, bu21, bl22, br22, bu22, bl24, br24, bu24, bl26, br26, bu26, bl30, br30, bu30, bl31, br31, bu31, b_big, b_255, b_0, br6, kc_16777215, kc_m352321536, kc_240, kc_248, kc_67108860, kc_m67108861, kc_1044480, kc_1073741824, kc_1069547520, kc_4194303, kc_4095, kc_m4096, kc_1048575, kc_31, kc_127, kc_7, kc_3, kc_1023, kc_1, kc_235, kc_30, kc_18, kc_64, kc_256, kc_511, kc_119, h]
set_option maxHeartbeats 4000000 in
set_option maxRecDepth 100000 in
theorem bE8 {x y : Int32} (h : ∀ i, i < 16 → bt x i = !(bt y i)) : (x >>> ((8 : Int32) &&& 31)) &&& 255 = ((y >>> ((8 : Int32) &&& 31)) &&& 255) ^^^ 255 := by
  apply b_ext
  refine c32 ?_ ?_ ?_ ?_ ?_ ?_ ?_ ?_ ?_ ?_ ?_ ?_ ?_ ?_ ?_ ?_ ?_ ?_ ?_ ?_ ?_ ?_ ?_ ?_ ?_ ?_ ?_ ?_ ?_ ?_ ?_ ?_
  all_goals simp [b_or, b_and, b_xor, bl0, br0, bu0, bl1, br1, bu1, bl2, br2, bu2, bl3, br3, bu3, bl7, br7, bu7, bl8, br8, bu8, bl11, br11, bu11, bl12, br12, bu12, bl15, br15, bu15, bl16, br16, bu16, bl19, br19, bu19, bl20, br20, bu20, bl21, br21, bu21, bl22, br22, bu22, bl24, br24, bu24, bl26, br26, bu26, bl30, br30, bu30, bl31, br31, bu31, b_big, b_255, b_0, br6, kc_16777215, kc_m352321536, kc_240, kc_248, kc_67108860, kc_m67108861, kc_1044480, kc_1073741824, kc_1069547520, kc_4194303, kc_4095, kc_m4096, kc_1048575, kc_31, kc_127, kc_7, kc_3, kc_1023, kc_1, kc_235, kc_30, kc_18, kc_64, kc_256, kc_511, kc_119, h]
set_option maxHeartbeats 4000000 in
set_option maxRecDepth 100000 in
theorem bE0 {x y : Int32} (h : ∀ i, i < 8 → bt x i = !(bt y i)) : (x >>> ((0 : Int32) &&& 31)) &&& 255 = ((y >>> ((0 : Int32) &&& 31)) &&& 255) ^^^ 255 := by
  apply b_ext
  refine c32 ?_ ?_ ?_ ?_ ?_ ?_ ?_ ?_ ?_ ?_ ?_ ?_ ?_ ?_ ?_ ?_ ?_ ?_ ?_ ?_ ?_ ?_ ?_ ?_ ?_ ?_ ?_ ?_ ?_ ?_ ?_ ?_
  all_goals simp [b_or, b_and, b_xor, bl0, br0, bu0, bl1, br1, bu1, bl2, br2, bu2, bl3, br3, bu3, bl7, br7, bu7, bl8, br8, bu8, bl11, br11, bu11, bl12, br12, bu12, bl15, br15, bu15, bl16, br16, bu16, bl19, br19, bu19, bl20, br20, bu20, bl21, br21, bu21, bl22, br22, bu22, bl24, br24, bu24, bl26, br26, bu26, bl30, br30, bu30, bl31, br31, bu31, b_big, b_255, b_0, br6, kc_16777215, kc_m352321536, kc_240, kc_248, kc_67108860, kc_m67108861, kc_1044480, kc_1073741824, kc_1069547520, kc_4194303, kc_4095, kc_m4096, kc_1048575, kc_31, kc_127, kc_7, kc_3, kc_1023, kc_1, kc_235, kc_30, kc_18, kc_64, kc_256, kc_511, kc_119, h]
set_option maxHeartbeats 4000000 in
set_option maxRecDepth 100000 in
theorem bL16 (a b c d : Int32) (ha : isB a) (hb : isB b) (hc : isB c) (hd : isB d) : ((((a ||| b <<< ((8 : Int32) &&& 31)) ||| c <<< ((16 : Int32) &&& 31)) ||| d <<< ((24 : Int32) &&& 31)) >>> ((16 : Int32) &&& 31)) &&& 255 = c := by
  apply b_ext
  refine c32 ?_ ?_ ?_ ?_ ?_ ?_ ?_ ?_ ?_ ?_ ?_ ?_ ?_ ?_ ?_ ?_ ?_ ?_ ?_ ?_ ?_ ?_ ?_ ?_ ?_ ?_ ?_ ?_ ?_ ?_ ?_ ?_
  all_goals simp [b_or, b_and, b_xor, bl0, br0, bu0, bl1, br1, bu1, bl2, br2, bu2, bl3, br3, bu3, bl7, br7, bu7, bl8, br8, bu8, bl11, br11, bu11, bl12, br12, bu12, bl15, br15, bu15, bl16, br16, bu16, bl19, br19, bu19, bl20, br20, bu20, bl21, br21, bu21, bl22, br22, bu22, bl24, br24, bu24, bl26, br26, bu26, bl30, br30, bu30, bl31, br31, bu31, b_big, b_255, b_0, br6, kc_16777215, kc_m352321536, kc_240, kc_248, kc_67108860, kc_m67108861, kc_1044480, kc_1073741824, kc_1069547520, kc_4194303, kc_4095, kc_m4096, kc_1048575, kc_31, kc_127, kc_7, kc_3, kc_1023, kc_1, kc_235, kc_30, kc_18, kc_64, kc_256, kc_511, kc_119, ha.hi, hb.hi, hc.hi, hd.hi]
set_option maxHeartbeats 4000000 in
set_option maxRecDepth 100000 in
theorem bL8 (a b c d : Int32) (ha : isB a) (hb : isB b) (hc : isB c) (hd : isB d) : ((((a ||| b <<< ((8 : Int32) &&& 31)) ||| c <<< ((16 : Int32) &&& 31)) ||| d <<< ((24 : Int32) &&& 31)) >>> ((8 : Int32) &&& 31)) &&& 255 = b := by
  apply b_ext
  refine c32 ?_ ?_ ?_ ?_ ?_ ?_ ?_ ?_ ?_ ?_ ?_ ?_ ?_ ?_ ?_ ?_ ?_ ?_ ?_ ?_ ?_ ?_ ?_ ?_ ?_ ?_ ?_ ?_ ?_ ?_ ?_ ?_
  all_goals simp [b_or, b_and, b_xor, bl0, br0, bu0, bl1, br1, bu1, bl2, br2, bu2, bl3, br3, bu3, bl7, br7, bu7, bl8, br8, bu8, bl11, br11, bu11, bl12, br12, bu12, bl15, br15, bu15, bl16, br16, bu16, bl19, br19, bu19, bl20, br20, bu20, bl21, br21, bu21, bl22, br22, bu22, bl24, br24, bu24, bl26, br26, bu26, bl30, br30, bu30, bl31, br31, bu31, b_big, b_255, b_0, br6, kc_16777215, kc_m352321536, kc_240, kc_248, kc_67108860, kc_m67108861, kc_1044480, kc_1073741824, kc_1069547520, kc_4194303, kc_4095, kc_m4096, kc_1048575, kc_31, kc_127, kc_7, kc_3, kc_1023, kc_1, kc_235, kc_30, kc_18, kc_64, kc_256, kc_511, kc_119, ha.hi, hb.hi, hc.hi, hd.hi]
set_option maxHeartbeats 4000000 in
set_option maxRecDepth 100000 in
theorem bL0 (a b c d : Int32) (ha : isB a) (hb : isB b) (hc : isB c) (hd : isB d) : ((((a ||| b <<< ((8 : Int32) &&& 31)) ||| c <<< ((16 : Int32) &&& 31)) ||| d <<< ((24 : Int32) &&& 31)) >>> ((0 : Int32) &&& 31)) &&& 255 = a := by
  apply b_ext
  refine c32 ?_ ?_ ?_ ?_ ?_ ?_ ?_ ?_ ?_ ?_ ?_ ?_ ?_ ?_ ?_ ?_ ?_ ?_ ?_ ?_ ?_ ?_ ?_ ?_ ?_ ?_ ?_ ?_ ?_ ?_ ?_ ?_
  all_goals simp [b_or, b_and, b_xor, bl0, br0, bu0, bl1, br1, bu1, bl2, br2, bu2, bl3, br3, bu3, bl7, br7, bu7, bl8, br8, bu8, bl11, br11, bu11, bl12, br12, bu12, bl15, br15, bu15, bl16, br16, bu16, bl19, br19, bu19, bl20, br20, bu20, bl21, br21, bu21, bl22, br22, bu22, bl24, br24, bu24, bl26, br26, bu26, bl30, br30, bu30, bl31, br31, bu31, b_big, b_255, b_0, br6, kc_16777215, kc_m352321536, kc_240, kc_248, kc_67108860, kc_m67108861, kc_1044480, kc_1073741824, kc_1069547520, kc_4194303, kc_4095, kc_m4096, kc_1048575, kc_31, kc_127, kc_7, kc_3, kc_1023, kc_1, kc_235, kc_30, kc_18, kc_64, kc_256, kc_511, kc_119, ha.hi, hb.hi, hc.hi, hd.hi]
/-- the mask, some places on -/
def aN (k : Nat) : Nat := (k &&& 119) * 2
def aNn (k : Nat) : Nat → Nat
  | 0 => k
  | j + 1 => aN (aNn k j)
theorem aN_ok : ∀ k, k < 256 → (nI k &&& 119) * 2 = nI (aN k) ∧ (nI k &&& 119) <<< ((1 : Int32) &&& 31) = nI (aN k) ∧ aN k < 256 := by decide +kernel
theorem aNn_lt {k : Nat} (hk : k < 256) : ∀ j, aNn k j < 256
  | 0 => hk
  | j + 1 => (aN_ok _ (aNn_lt hk j)).2.2
theorem cAgeN_n {k : Nat} (hk : k < 256) : ∀ j, cAgeN (nI k) j = nI (aNn k j)
  | 0 => rfl
  | j + 1 => by
    show (cAgeN (nI k) j &&& 119) * 2 = _
    rw [cAgeN_n hk j]; exact (aN_ok _ (aNn_lt hk j)).1
theorem rAgN_n {k i : Nat} {xf : Nat → Int32} (hk : k < 256) (hx : xf i = nI k) : ∀ j, rAgN xf i j i = nI (aNn k j)
  | 0 => hx
  | j + 1 => by
    show upd (rAgN xf i j) i ((rAgN xf i j i &&& 119) <<< ((1 : Int32) &&& 31)) i = _
    rw [pk_us, rAgN_n hk hx j]; exact (aN_ok _ (aNn_lt hk j)).2.1
theorem rAgN_o {i q : Nat} {xf : Nat → Int32} (hq : q ≠ i) : ∀ j, rAgN xf i j q = xf q
  | 0 => rfl
  | j + 1 => by
    show upd (rAgN xf i j) i _ q = _
    rw [pk_un hq, rAgN_o hq j]
theorem rAgA_o {i q : Nat} {xf : Nat → Int32} {d : Int32} (hq : q ≠ i) : rAgA xf i d q = xf q := by
  unfold rAgA
  split
  · exact pk_un hq
  · split
    · exact rAgN_o hq _
    · exact pk_un hq
theorem aN_fact0 : ∀ dd, dd < 6 → ∀ k, k < 256 → (dd == 0 || (!(aNn k dd).testBit 0 && !(aNn k dd).testBit 4)) = true := by decide +kernel
theorem aN_fact1 : ∀ dd, dd < 6 → ∀ k, k < 256 → ∀ c, c < 4 → (dd == 0 || c == 0 || !(aNn k dd).testBit c || (Nat.ble dd c && k.testBit (c - dd) && (aNn k dd).testBit (c + 4) == k.testBit (c - dd + 4))) = true := by decide +kernel
theorem al_no : ∀ k, k < 256 → cAl (nI k) = 0 → (16 ≤ nI k >>> ((1 : Int32) &&& 31) ∨ (¬ 16 ≤ nI k >>> ((1 : Int32) &&& 31) ∧ ¬ (nI k >>> ((1 : Int32) &&& 31)) &&& 7 = 0 ∧ ¬ (nI k >>> ((1 : Int32) &&& 31)) &&& 7 = 1 ∧ ¬ (nI k >>> ((1 : Int32) &&& 31)) &&& 7 = 2 ∧ ¬ (nI k >>> ((1 : Int32) &&& 31)) &&& 7 = 4)) := by decide +kernel
theorem al_yes0 : ∀ k, k < 256 → (k.testBit 0 || k.testBit 4 || cAl (nI k) == 0 || k == 0 || k == 2 || k == 4 || k == 8) = true := by decide +kernel
theorem mk_1 : ∀ k, k < 256 → nI k ||| 1 = nI (k ||| 1) ∧ (nI k ||| 1) ||| 0 = nI (k ||| 1) ∧ nI k ||| 17 = nI (k ||| 17) ∧ (nI k ||| 1) ||| 16 = nI (k ||| 17) ∧ k ||| 1 < 256 ∧ k ||| 17 < 256 := by decide +kernel
theorem mk_b0 : ∀ k, k < 256 → ∀ b, b < 3 → (k.testBit 4 || !(k ||| 1).testBit b || (k ||| 1).testBit (b + 4) || b == 0 || (k.testBit b && !k.testBit (b + 4))) = true := by decide +kernel
theorem mk_b1 : ∀ k, k < 256 → ∀ b, b < 3 → (k.testBit 4 || !(k ||| 17).testBit b || (k ||| 17).testBit (b + 4) || (b != 0 && k.testBit b && !k.testBit (b + 4))) = true := by decide +kernel
theorem aN_fact {dd k : Nat} (h1 : dd < 6) (h2 : 1 ≤ dd) (hk : k < 256) : (aNn k dd).testBit 0 = false ∧ (aNn k dd).testBit 4 = false ∧ (∀ c, c < 4 → 1 ≤ c → (aNn k dd).testBit c = true → (dd ≤ c ∧ k.testBit (c - dd) = true ∧ (aNn k dd).testBit (c + 4) = k.testBit (c - dd + 4))) := by
  have d0 : ¬ dd = 0 := by omega
  have q := aN_fact0 dd h1 k hk
  rw [show (dd == 0) = false from beq_eq_false_iff_ne.mpr d0, Bool.false_or, Bool.and_eq_true, Bool.not_eq_true', Bool.not_eq_true'] at q
  refine ⟨q.1, q.2, fun c hc hc1 hb => ?_⟩
  have c0 : ¬ c = 0 := by omega
  have q := aN_fact1 dd h1 k hk c hc
  simp [d0, c0, hb] at q
  exact ⟨q.1.1, q.1.2, q.2⟩
theorem al_yes {k : Nat} (hk : k < 256) (h0 : k.testBit 0 = false) (h4 : k.testBit 4 = false) (hc : ¬ cAl (nI k) = 0) : k = 0 ∨ k = 2 ∨ k = 4 ∨ k = 8 := by
  have q := al_yes0 k hk
  rw [h0, h4] at q
  simp [hc] at q
  omega
theorem mk_b {k b : Nat} (hk : k < 256) (h4 : k.testBit 4 = false) (hb : b < 3) : ((k ||| 1).testBit b = true → (k ||| 1).testBit (b + 4) = false → (b = 0 ∨ (k.testBit b = true ∧ k.testBit (b + 4) = false))) ∧ ((k ||| 17).testBit b = true → (k ||| 17).testBit (b + 4) = false → (b ≠ 0 ∧ k.testBit b = true ∧ k.testBit (b + 4) = false)) := by
  refine ⟨fun x y => ?_, fun x y => ?_⟩
  · have q := mk_b0 k hk b hb
    rw [h4, x, y] at q
    simp at q
    exact q
  · have q := mk_b1 k hk b hb
    rw [h4, x, y] at q
    simp at q
    exact ⟨q.1.1, q.1.2, q.2⟩
theorem sg_x : ∀ k, k < 256 → cSg (nI k) = 0 → rEnd (nI k ^^^ 255) = 0 := by decide +kernel
theorem cSg_rEnd (x : Int32) : cSg x = rEnd x := rfl
