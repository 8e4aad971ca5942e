/-! jump: the model's way against the class's -/
theorem tw_24 (en a y : Int32) : (rMd en (rMd en a y ^^^ 16777215) y).toBitVec.setWidth 24 = ~~~ (a.toBitVec.setWidth 24) := by
  have e1 : (16777215 : Int32).toBitVec.setWidth 24 = BitVec.allOnes 24 := by decide +kernel
  unfold rMd
  by_cases h : en = 0
  · rw [if_pos h, if_pos h, Int32.toBitVec_sub, Int32.toBitVec_xor, Int32.toBitVec_sub, BitVec.sub_eq_add_neg, BitVec.setWidth_add _ _ (by decide), BitVec.setWidth_xor, e1, BitVec.xor_allOnes, BitVec.sub_eq_add_neg, BitVec.setWidth_add _ _ (by decide)]
    apply BitVec.eq_of_toNat_eq
    simp only [BitVec.toNat_add, BitVec.toNat_not]
    omega
  · rw [if_neg h, if_neg h, Int32.toBitVec_add, Int32.toBitVec_xor, Int32.toBitVec_add, BitVec.setWidth_add _ _ (by decide), BitVec.setWidth_xor, e1, BitVec.xor_allOnes, BitVec.setWidth_add _ _ (by decide)]
    apply BitVec.eq_of_toNat_eq
    simp only [BitVec.toNat_add, BitVec.toNat_not]
    omega
theorem tw_16 (en a y : Int32) : (rMd en (rMd en a y ^^^ 65535) y).toBitVec.setWidth 16 = ~~~ (a.toBitVec.setWidth 16) := by
  have e1 : (65535 : Int32).toBitVec.setWidth 16 = BitVec.allOnes 16 := by decide +kernel
  unfold rMd
  by_cases h : en = 0
  · rw [if_pos h, if_pos h, Int32.toBitVec_sub, Int32.toBitVec_xor, Int32.toBitVec_sub, BitVec.sub_eq_add_neg, BitVec.setWidth_add _ _ (by decide), BitVec.setWidth_xor, e1, BitVec.xor_allOnes, BitVec.sub_eq_add_neg, BitVec.setWidth_add _ _ (by decide)]
    apply BitVec.eq_of_toNat_eq
    simp only [BitVec.toNat_add, BitVec.toNat_not]
    omega
  · rw [if_neg h, if_neg h, Int32.toBitVec_add, Int32.toBitVec_xor, Int32.toBitVec_add, BitVec.setWidth_add _ _ (by decide), BitVec.setWidth_xor, e1, BitVec.xor_allOnes, BitVec.setWidth_add _ _ (by decide)]
    apply BitVec.eq_of_toNat_eq
    simp only [BitVec.toNat_add, BitVec.toNat_not]
    omega
theorem tw_8 (en a y : Int32) : (rMd en (rMd en a y ^^^ 255) y).toBitVec.setWidth 8 = ~~~ (a.toBitVec.setWidth 8) := by
  have e1 : (255 : Int32).toBitVec.setWidth 8 = BitVec.allOnes 8 := by decide +kernel
  unfold rMd
  by_cases h : en = 0
  · rw [if_pos h, if_pos h, Int32.toBitVec_sub, Int32.toBitVec_xor, Int32.toBitVec_sub, BitVec.sub_eq_add_neg, BitVec.setWidth_add _ _ (by decide), BitVec.setWidth_xor, e1, BitVec.xor_allOnes, BitVec.sub_eq_add_neg, BitVec.setWidth_add _ _ (by decide)]
    apply BitVec.eq_of_toNat_eq
    simp only [BitVec.toNat_add, BitVec.toNat_not]
    omega
  · rw [if_neg h, if_neg h, Int32.toBitVec_add, Int32.toBitVec_xor, Int32.toBitVec_add, BitVec.setWidth_add _ _ (by decide), BitVec.setWidth_xor, e1, BitVec.xor_allOnes, BitVec.setWidth_add _ _ (by decide)]
    apply BitVec.eq_of_toNat_eq
    simp only [BitVec.toNat_add, BitVec.toNat_not]
    omega
theorem tw_bit {x y : Int32} {B : Nat} (h : x.toBitVec.setWidth B = ~~~ (y.toBitVec.setWidth B)) {i : Nat} (hi : i < B) : bt x i = !(bt y i) := by
  have q := congrArg (fun z => z.getLsbD i) h
  simp only [BitVec.getLsbD_setWidth, BitVec.getLsbD_not, hi, decide_true, Bool.true_and] at q
  exact q
