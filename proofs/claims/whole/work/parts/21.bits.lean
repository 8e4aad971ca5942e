/-! ===== Int32 by its bits: bt x i ===== -/
def bt (x : Int32) (i : Nat) : Bool := x.toBitVec.getLsbD i
theorem b_ext {x y : Int32} (h : ∀ i, i < 32 → bt x i = bt y i) : x = y := Int32.toBitVec_inj.mp (BitVec.eq_of_getLsbD_eq (fun i hi => h i hi))
theorem b_or (x y : Int32) (i : Nat) : bt (x ||| y) i = (bt x i || bt y i) := by unfold bt; rw [Int32.toBitVec_or, BitVec.getLsbD_or]
theorem b_and (x y : Int32) (i : Nat) : bt (x &&& y) i = (bt x i && bt y i) := by unfold bt; rw [Int32.toBitVec_and, BitVec.getLsbD_and]
theorem b_xor (x y : Int32) (i : Nat) : bt (x ^^^ y) i = (bt x i ^^ bt y i) := by unfold bt; rw [Int32.toBitVec_xor, BitVec.getLsbD_xor]
theorem b_big {x : Int32} {i : Nat} (h : 32 ≤ i) : bt x i = false := BitVec.getLsbD_of_ge _ _ h
theorem b_255 (i : Nat) : bt 255 i = decide (i < 8) := by
  rcases Nat.lt_or_ge i 32 with h | h
  · exact (by decide +kernel : ∀ i, i < 32 → bt 255 i = decide (i < 8)) i h
  · rw [b_big h, decide_eq_false (by omega)]
theorem b_65535 (i : Nat) : bt 65535 i = decide (i < 16) := by
  rcases Nat.lt_or_ge i 32 with h | h
  · exact (by decide +kernel : ∀ i, i < 32 → bt 65535 i = decide (i < 16)) i h
  · rw [b_big h, decide_eq_false (by omega)]
theorem b_m1 : ∀ i, i < 32 → bt (-1) i = true := by decide +kernel
theorem b_0 (i : Nat) : bt 0 i = false := BitVec.getLsbD_zero
theorem s_l : ∀ n, n < 32 → ((nI n &&& 31).toBitVec.smod 32).toNat = n := by decide +kernel
theorem s_u : ∀ n, n < 32 → (((nI n).toUInt32 &&& Int32.toUInt32 31).toBitVec % 32).toNat = n := by decide +kernel
theorem b_shl (n : Nat) (hn : n < 32) (x : Int32) {i : Nat} (hi : i < 32) : bt (x <<< (nI n &&& 31)) i = (decide (n ≤ i) && bt x (i - n)) := by
  unfold bt
  rw [Int32.toBitVec_shiftLeft]
  show (x.toBitVec <<< ((nI n &&& 31).toBitVec.smod 32).toNat).getLsbD i = _
  rw [s_l n hn, BitVec.getLsbD_shiftLeft]
  rcases Nat.lt_or_ge i n with h | h
  · simp [h, Nat.not_le.mpr h]
  · simp [hi, h, Nat.not_lt.mpr h]
theorem b_ushr (n : Nat) (hn : n < 32) (x : Int32) (i : Nat) : bt ((x.toUInt32 >>> ((nI n).toUInt32 &&& Int32.toUInt32 31)).toInt32) i = bt x (n + i) := by
  show (x.toUInt32 >>> ((nI n).toUInt32 &&& Int32.toUInt32 31)).toBitVec.getLsbD i = x.toUInt32.toBitVec.getLsbD (n + i)
  rw [UInt32.toBitVec_shiftRight]
  show (x.toUInt32.toBitVec >>> (((nI n).toUInt32 &&& Int32.toUInt32 31).toBitVec % 32).toNat).getLsbD i = _
  rw [s_u n hn, BitVec.getLsbD_ushiftRight]
theorem b_sshr (n : Nat) (hn : n < 32) (x : Int32) {i : Nat} (hi : i < 32) : bt (x >>> (nI n &&& 31)) i = if n + i < 32 then bt x (n + i) else bt x 31 := by
  unfold bt
  rw [Int32.toBitVec_shiftRight]
  show (x.toBitVec.sshiftRight ((nI n &&& 31).toBitVec.smod 32).toNat).getLsbD i = _
  rw [s_l n hn, BitVec.getLsbD_sshiftRight, BitVec.msb_eq_getLsbD_last]
  simp [hi]

theorem c32 {P : Nat → Prop} (h0 : P 0) (h1 : P 1) (h2 : P 2) (h3 : P 3) (h4 : P 4) (h5 : P 5) (h6 : P 6) (h7 : P 7) (h8 : P 8) (h9 : P 9) (h10 : P 10) (h11 : P 11) (h12 : P 12) (h13 : P 13) (h14 : P 14) (h15 : P 15) (h16 : P 16) (h17 : P 17) (h18 : P 18) (h19 : P 19) (h20 : P 20) (h21 : P 21) (h22 : P 22) (h23 : P 23) (h24 : P 24) (h25 : P 25) (h26 : P 26) (h27 : P 27) (h28 : P 28) (h29 : P 29) (h30 : P 30) (h31 : P 31) : ∀ i, i < 32 → P i
  | 0, _ => h0
  | 1, _ => h1
  | 2, _ => h2
  | 3, _ => h3
  | 4, _ => h4
  | 5, _ => h5
  | 6, _ => h6
  | 7, _ => h7
  | 8, _ => h8
  | 9, _ => h9
  | 10, _ => h10
  | 11, _ => h11
  | 12, _ => h12
  | 13, _ => h13
  | 14, _ => h14
  | 15, _ => h15
  | 16, _ => h16
  | 17, _ => h17
  | 18, _ => h18
  | 19, _ => h19
  | 20, _ => h20
  | 21, _ => h21
  | 22, _ => h22
  | 23, _ => h23
  | 24, _ => h24
  | 25, _ => h25
  | 26, _ => h26
  | 27, _ => h27
  | 28, _ => h28
  | 29, _ => h29
  | 30, _ => h30
  | 31, _ => h31
  | n + 32, h => absurd h (by omega)

theorem bl0 (x : Int32) {i : Nat} (hi : i < 32) : bt (x <<< ((0 : Int32) &&& 31)) i = (decide (0 ≤ i) && bt x (i - 0)) := b_shl 0 (by omega) x hi
theorem br0 (x : Int32) {i : Nat} (hi : i < 32) : bt (x >>> ((0 : Int32) &&& 31)) i = if 0 + i < 32 then bt x (0 + i) else bt x 31 := b_sshr 0 (by omega) x hi
theorem bu0 (x : Int32) (i : Nat) : bt (kU x 0) i = bt x (0 + i) := b_ushr 0 (by omega) x i
theorem bl1 (x : Int32) {i : Nat} (hi : i < 32) : bt (x <<< ((1 : Int32) &&& 31)) i = (decide (1 ≤ i) && bt x (i - 1)) := b_shl 1 (by omega) x hi
theorem br1 (x : Int32) {i : Nat} (hi : i < 32) : bt (x >>> ((1 : Int32) &&& 31)) i = if 1 + i < 32 then bt x (1 + i) else bt x 31 := b_sshr 1 (by omega) x hi
theorem bu1 (x : Int32) (i : Nat) : bt (kU x 1) i = bt x (1 + i) := b_ushr 1 (by omega) x i
theorem bl2 (x : Int32) {i : Nat} (hi : i < 32) : bt (x <<< ((2 : Int32) &&& 31)) i = (decide (2 ≤ i) && bt x (i - 2)) := b_shl 2 (by omega) x hi
theorem br2 (x : Int32) {i : Nat} (hi : i < 32) : bt (x >>> ((2 : Int32) &&& 31)) i = if 2 + i < 32 then bt x (2 + i) else bt x 31 := b_sshr 2 (by omega) x hi
theorem bu2 (x : Int32) (i : Nat) : bt (kU x 2) i = bt x (2 + i) := b_ushr 2 (by omega) x i
theorem bl3 (x : Int32) {i : Nat} (hi : i < 32) : bt (x <<< ((3 : Int32) &&& 31)) i = (decide (3 ≤ i) && bt x (i - 3)) := b_shl 3 (by omega) x hi
theorem br3 (x : Int32) {i : Nat} (hi : i < 32) : bt (x >>> ((3 : Int32) &&& 31)) i = if 3 + i < 32 then bt x (3 + i) else bt x 31 := b_sshr 3 (by omega) x hi
theorem bu3 (x : Int32) (i : Nat) : bt (kU x 3) i = bt x (3 + i) := b_ushr 3 (by omega) x i
theorem bl7 (x : Int32) {i : Nat} (hi : i < 32) : bt (x <<< ((7 : Int32) &&& 31)) i = (decide (7 ≤ i) && bt x (i - 7)) := b_shl 7 (by omega) x hi
theorem br7 (x : Int32) {i : Nat} (hi : i < 32) : bt (x >>> ((7 : Int32) &&& 31)) i = if 7 + i < 32 then bt x (7 + i) else bt x 31 := b_sshr 7 (by omega) x hi
theorem bu7 (x : Int32) (i : Nat) : bt (kU x 7) i = bt x (7 + i) := b_ushr 7 (by omega) x i
theorem bl8 (x : Int32) {i : Nat} (hi : i < 32) : bt (x <<< ((8 : Int32) &&& 31)) i = (decide (8 ≤ i) && bt x (i - 8)) := b_shl 8 (by omega) x hi
theorem br8 (x : Int32) {i : Nat} (hi : i < 32) : bt (x >>> ((8 : Int32) &&& 31)) i = if 8 + i < 32 then bt x (8 + i) else bt x 31 := b_sshr 8 (by omega) x hi
theorem bu8 (x : Int32) (i : Nat) : bt (kU x 8) i = bt x (8 + i) := b_ushr 8 (by omega) x i
theorem bl11 (x : Int32) {i : Nat} (hi : i < 32) : bt (x <<< ((11 : Int32) &&& 31)) i = (decide (11 ≤ i) && bt x (i - 11)) := b_shl 11 (by omega) x hi
theorem br11 (x : Int32) {i : Nat} (hi : i < 32) : bt (x >>> ((11 : Int32) &&& 31)) i = if 11 + i < 32 then bt x (11 + i) else bt x 31 := b_sshr 11 (by omega) x hi
theorem bu11 (x : Int32) (i : Nat) : bt (kU x 11) i = bt x (11 + i) := b_ushr 11 (by omega) x i
theorem bl12 (x : Int32) {i : Nat} (hi : i < 32) : bt (x <<< ((12 : Int32) &&& 31)) i = (decide (12 ≤ i) && bt x (i - 12)) := b_shl 12 (by omega) x hi
theorem br12 (x : Int32) {i : Nat} (hi : i < 32) : bt (x >>> ((12 : Int32) &&& 31)) i = if 12 + i < 32 then bt x (12 + i) else bt x 31 := b_sshr 12 (by omega) x hi
theorem bu12 (x : Int32) (i : Nat) : bt (kU x 12) i = bt x (12 + i) := b_ushr 12 (by omega) x i
theorem bl15 (x : Int32) {i : Nat} (hi : i < 32) : bt (x <<< ((15 : Int32) &&& 31)) i = (decide (15 ≤ i) && bt x (i - 15)) := b_shl 15 (by omega) x hi
theorem br15 (x : Int32) {i : Nat} (hi : i < 32) : bt (x >>> ((15 : Int32) &&& 31)) i = if 15 + i < 32 then bt x (15 + i) else bt x 31 := b_sshr 15 (by omega) x hi
theorem bu15 (x : Int32) (i : Nat) : bt (kU x 15) i = bt x (15 + i) := b_ushr 15 (by omega) x i
theorem bl16 (x : Int32) {i : Nat} (hi : i < 32) : bt (x <<< ((16 : Int32) &&& 31)) i = (decide (16 ≤ i) && bt x (i - 16)) := b_shl 16 (by omega) x hi
theorem br16 (x : Int32) {i : Nat} (hi : i < 32) : bt (x >>> ((16 : Int32) &&& 31)) i = if 16 + i < 32 then bt x (16 + i) else bt x 31 := b_sshr 16 (by omega) x hi
theorem bu16 (x : Int32) (i : Nat) : bt (kU x 16) i = bt x (16 + i) := b_ushr 16 (by omega) x i
theorem bl19 (x : Int32) {i : Nat} (hi : i < 32) : bt (x <<< ((19 : Int32) &&& 31)) i = (decide (19 ≤ i) && bt x (i - 19)) := b_shl 19 (by omega) x hi
theorem br19 (x : Int32) {i : Nat} (hi : i < 32) : bt (x >>> ((19 : Int32) &&& 31)) i = if 19 + i < 32 then bt x (19 + i) else bt x 31 := b_sshr 19 (by omega) x hi
theorem bu19 (x : Int32) (i : Nat) : bt (kU x 19) i = bt x (19 + i) := b_ushr 19 (by omega) x i
theorem bl20 (x : Int32) {i : Nat} (hi : i < 32) : bt (x <<< ((20 : Int32) &&& 31)) i = (decide (20 ≤ i) && bt x (i - 20)) := b_shl 20 (by omega) x hi
theorem br20 (x : Int32) {i : Nat} (hi : i < 32) : bt (x >>> ((20 : Int32) &&& 31)) i = if 20 + i < 32 then bt x (20 + i) else bt x 31 := b_sshr 20 (by omega) x hi
theorem bu20 (x : Int32) (i : Nat) : bt (kU x 20) i = bt x (20 + i) := b_ushr 20 (by omega) x i
theorem bl21 (x : Int32) {i : Nat} (hi : i < 32) : bt (x <<< ((21 : Int32) &&& 31)) i = (decide (21 ≤ i) && bt x (i - 21)) := b_shl 21 (by omega) x hi
theorem br21 (x : Int32) {i : Nat} (hi : i < 32) : bt (x >>> ((21 : Int32) &&& 31)) i = if 21 + i < 32 then bt x (21 + i) else bt x 31 := b_sshr 21 (by omega) x hi
theorem bu21 (x : Int32) (i : Nat) : bt (kU x 21) i = bt x (21 + i) := b_ushr 21 (by omega) x i
theorem bl22 (x : Int32) {i : Nat} (hi : i < 32) : bt (x <<< ((22 : Int32) &&& 31)) i = (decide (22 ≤ i) && bt x (i - 22)) := b_shl 22 (by omega) x hi
theorem br22 (x : Int32) {i : Nat} (hi : i < 32) : bt (x >>> ((22 : Int32) &&& 31)) i = if 22 + i < 32 then bt x (22 + i) else bt x 31 := b_sshr 22 (by omega) x hi
theorem bu22 (x : Int32) (i : Nat) : bt (kU x 22) i = bt x (22 + i) := b_ushr 22 (by omega) x i
theorem bl24 (x : Int32) {i : Nat} (hi : i < 32) : bt (x <<< ((24 : Int32) &&& 31)) i = (decide (24 ≤ i) && bt x (i - 24)) := b_shl 24 (by omega) x hi
theorem br24 (x : Int32) {i : Nat} (hi : i < 32) : bt (x >>> ((24 : Int32) &&& 31)) i = if 24 + i < 32 then bt x (24 + i) else bt x 31 := b_sshr 24 (by omega) x hi
theorem bu24 (x : Int32) (i : Nat) : bt (kU x 24) i = bt x (24 + i) := b_ushr 24 (by omega) x i
theorem bl26 (x : Int32) {i : Nat} (hi : i < 32) : bt (x <<< ((26 : Int32) &&& 31)) i = (decide (26 ≤ i) && bt x (i - 26)) := b_shl 26 (by omega) x hi
theorem br26 (x : Int32) {i : Nat} (hi : i < 32) : bt (x >>> ((26 : Int32) &&& 31)) i = if 26 + i < 32 then bt x (26 + i) else bt x 31 := b_sshr 26 (by omega) x hi
theorem bu26 (x : Int32) (i : Nat) : bt (kU x 26) i = bt x (26 + i) := b_ushr 26 (by omega) x i
theorem bl30 (x : Int32) {i : Nat} (hi : i < 32) : bt (x <<< ((30 : Int32) &&& 31)) i = (decide (30 ≤ i) && bt x (i - 30)) := b_shl 30 (by omega) x hi
theorem br30 (x : Int32) {i : Nat} (hi : i < 32) : bt (x >>> ((30 : Int32) &&& 31)) i = if 30 + i < 32 then bt x (30 + i) else bt x 31 := b_sshr 30 (by omega) x hi
theorem bu30 (x : Int32) (i : Nat) : bt (kU x 30) i = bt x (30 + i) := b_ushr 30 (by omega) x i
theorem bl31 (x : Int32) {i : Nat} (hi : i < 32) : bt (x <<< ((31 : Int32) &&& 31)) i = (decide (31 ≤ i) && bt x (i - 31)) := b_shl 31 (by omega) x hi
theorem br31 (x : Int32) {i : Nat} (hi : i < 32) : bt (x >>> ((31 : Int32) &&& 31)) i = if 31 + i < 32 then bt x (31 + i) else bt x 31 := b_sshr 31 (by omega) x hi
theorem bu31 (x : Int32) (i : Nat) : bt (kU x 31) i = bt x (31 + i) := b_ushr 31 (by omega) x i
/-- a byte -/
def isB (x : Int32) : Prop := x &&& 255 = x
theorem isB.hi {x : Int32} (h : isB x) (i : Nat) (hi : 8 ≤ i) : bt x i = false := by
  rw [← h, b_and, b_255, decide_eq_false (by omega), Bool.and_false]
theorem isB_and (x : Int32) : isB (x &&& 255) := by
  apply b_ext; intro i hi
  rw [b_and, b_and, b_255]
  cases bt x i <;> cases decide (i < 8) <;> rfl
theorem isB_of {x : Int32} (h : ∀ i, i < 32 → 8 ≤ i → bt x i = false) : isB x := by
  apply b_ext; intro i hi
  rw [b_and, b_255]
  rcases Nat.lt_or_ge i 8 with h8 | h8
  · rw [decide_eq_true h8, Bool.and_true]
  · rw [h i hi h8, Bool.false_and]

