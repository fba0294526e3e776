/-! the reference: small methods -/
theorem has_tb {m k : Nat} (hm : m < 2 ^ 31) (hk : k < 31) : sHas (nI m) (nI k) = m.testBit k := by
  have e1 : sBit (nI k) = nI (2 ^ k) := by
    unfold sBit
    have h31 : nI k &&& 31 = nI k := by
      have := pk_andN (n := k) (by omega) (m := 31) 5 (by decide)
      rw [this, Nat.mod_eq_of_lt (by omega)]
    rw [h31]
    have h2 : (1 : Int32) = nI 1 := rfl
    rw [h2, pk_shlN (nI k) k (by
      have : (nI k).toBitVec = BitVec.ofNat 32 k := rfl
      rw [this, BitVec.smod_eq]
      simp [BitVec.msb_eq_decide, BitVec.toNat_ofNat, Nat.mod_eq_of_lt (show k < 4294967296 by omega), show ¬ (2147483648 ≤ k) by omega]
      omega) (by
      have : 2 ^ k ≤ 2 ^ 30 := Nat.pow_le_pow_right (by decide) (by omega)
      omega)]
    rw [Nat.one_mul]
  have hpk : 2 ^ k < 2 ^ 31 := Nat.pow_lt_pow_right (by decide) hk
  have e2 : (nI m &&& nI (2 ^ k)).toBitVec.toNat = m &&& 2 ^ k := by
    rw [Int32.toBitVec_and, BitVec.toNat_and, pk_tn (by omega), pk_tn (by omega)]
  unfold sHas
  rw [e1]
  by_cases h : m.testBit k = true
  · rw [h]
    simp only [Bool.not_eq_true', decide_eq_false_iff_not]
    intro q
    rw [q] at e2
    have h3 : (0 : Int32).toBitVec.toNat = 0 := rfl
    rw [h3] at e2
    have e3 := congrArg (fun x => Nat.testBit x k) e2
    simp [Nat.testBit_and, Nat.testBit_two_pow_self, h] at e3
  · have h : m.testBit k = false := by simpa using h
    rw [h]
    simp only [Bool.not_eq_false', decide_eq_true_eq]
    have e3 : m &&& 2 ^ k = 0 := by
      apply Nat.eq_of_testBit_eq
      intro i
      rw [Nat.testBit_and, Nat.testBit_two_pow, Nat.zero_testBit]
      by_cases q : k = i
      · subst q; simp [h]
      · simp [q]
    apply Int32.toBitVec_inj.mp
    apply BitVec.eq_of_toNat_eq
    rw [e2, e3]
    rfl
theorem of_tb {m k : Nat} (hm : m < 2 ^ 31) (hk : k < 31) : decide ((nI m >>> (nI k &&& 31)) &&& 1 = 1) = m.testBit k := by
  have h31 : nI k &&& 31 = nI k := by
    have := pk_andN (n := k) (by omega) (m := 31) 5 (by decide)
    rw [this, Nat.mod_eq_of_lt (by omega)]
  rw [h31, pk_shrN hm (nI k) k (by
    have : (nI k).toBitVec = BitVec.ofNat 32 k := rfl
    rw [this, BitVec.smod_eq]
    simp [BitVec.msb_eq_decide, BitVec.toNat_ofNat, Nat.mod_eq_of_lt (show k < 4294967296 by omega), show ¬ (2147483648 ≤ k) by omega]
    omega)]
  have hd : m / 2 ^ k ≤ m := Nat.div_le_self _ _
  rw [pk_andN (n := m / 2 ^ k) (by omega) (m := 1) 1 (by decide)]
  have h1 : (1 : Int32) = nI 1 := rfl
  rw [h1]
  have h2 : nI (m / 2 ^ k % 2 ^ 1) = nI 1 ↔ m / 2 ^ k % 2 = 1 := by
    rw [nI_eq (by omega) (by decide)]
  simp only [h2, Nat.testBit_eq_decide_div_mod_eq]
def sOf2 (set k : Int32) : Bool := decide ((set >>> (k &&& 31)) &&& 1 = 1)

