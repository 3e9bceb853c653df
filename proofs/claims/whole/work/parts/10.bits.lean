/-! bits of longs -/
def tb (v : Int64) (i : Nat) : Bool := v.toBitVec.getLsbD i
theorem tb_ext {u v : Int64} (h : ∀ i, i < 64 → tb u i = tb v i) : u = v := Int64.toBitVec_inj.mp (BitVec.eq_of_getLsbD_eq (fun i hi => h i hi))
theorem tb_or (u v : Int64) (i : Nat) : tb (u ||| v) i = (tb u i || tb v i) := by unfold tb; rw [Int64.toBitVec_or, BitVec.getLsbD_or]
theorem tb_and (u v : Int64) (i : Nat) : tb (u &&& v) i = (tb u i && tb v i) := by unfold tb; rw [Int64.toBitVec_and, BitVec.getLsbD_and]
theorem tb_xor (u v : Int64) (i : Nat) : tb (u ^^^ v) i = (tb u i ^^ tb v i) := by unfold tb; rw [Int64.toBitVec_xor, BitVec.getLsbD_xor]
theorem tb_big {v : Int64} {i : Nat} (h : 64 ≤ i) : tb v i = false := BitVec.getLsbD_of_ge _ _ h
theorem tb_0 (i : Nat) : tb 0 i = false := by
  show (0#64).getLsbD i = false
  simp
theorem tb_m1 {i : Nat} (h : i < 64) : tb (-1) i = true := by
  have : ∀ j, j < 64 → tb (-1) j = true := by decide +kernel
  exact this i h
theorem tb_all (i : Nat) : tb 1152921504606846975 i = decide (i < 60) := by
  by_cases h : i < 64
  · have : ∀ j, j < 64 → tb 1152921504606846975 j = decide (j < 60) := by decide +kernel
    exact this i h
  · rw [tb_big (by omega)]
    simp; omega
theorem tb_1 (i : Nat) : tb 1 i = decide (i = 0) := by
  by_cases h : i < 64
  · have : ∀ j, j < 64 → tb 1 j = decide (j = 0) := by decide +kernel
    exact this i h
  · rw [tb_big (by omega)]
    simp; omega
theorem sm_amt : ∀ k, k < 64 → (((nI k).toInt64 &&& 63).toBitVec.smod 64).toNat = k := by decide +kernel
theorem um_amt : ∀ k, k < 64 → (((nI k).toInt64.toUInt64 &&& Int64.toUInt64 63).toBitVec % 64).toNat = k := by decide +kernel
theorem shl_bv (v : Int64) {k : Nat} (h : k < 64) : (v <<< ((oI (k : Int)).toInt64 &&& 63)).toBitVec = v.toBitVec <<< k := by
  rw [oI_nat]
  have e : (v <<< ((nI k).toInt64 &&& 63)).toBitVec = v.toBitVec <<< (((nI k).toInt64 &&& 63).toBitVec.smod 64) := rfl
  rw [e, BitVec.shiftLeft_eq', sm_amt k h]
theorem shr_bv (v : Int64) {k : Nat} (h : k < 64) : (v >>> ((oI (k : Int)).toInt64 &&& 63)).toBitVec = v.toBitVec.sshiftRight k := by
  rw [oI_nat]
  have e : (v >>> ((nI k).toInt64 &&& 63)).toBitVec = BitVec.sshiftRight' v.toBitVec (((nI k).toInt64 &&& 63).toBitVec.smod 64) := rfl
  rw [e, BitVec.sshiftRight', sm_amt k h]
theorem ushr_bv (v : Int64) {k : Nat} (h : k < 64) : (v.toUInt64 >>> ((oI (k : Int)).toInt64.toUInt64 &&& Int64.toUInt64 63)).toInt64.toBitVec = v.toBitVec >>> k := by
  rw [oI_nat]
  have e : (v.toUInt64 >>> ((nI k).toInt64.toUInt64 &&& Int64.toUInt64 63)).toInt64.toBitVec = v.toBitVec >>> (((nI k).toInt64.toUInt64 &&& Int64.toUInt64 63).toBitVec % 64) := rfl
  rw [e, BitVec.ushiftRight_eq', um_amt k h]
theorem tb_shl (v : Int64) {k : Nat} (h : k < 64) (i : Nat) : tb (v <<< ((oI (k : Int)).toInt64 &&& 63)) i = (decide (i < 64) && decide (k ≤ i) && tb v (i - k)) := by
  unfold tb
  rw [shl_bv v h, BitVec.getLsbD_shiftLeft]
  by_cases a : i < k <;> by_cases b : i < 64 <;> simp [a, b] <;> omega
theorem tb_ushr (v : Int64) {k : Nat} (h : k < 64) (i : Nat) : tb (v.toUInt64 >>> ((oI (k : Int)).toInt64.toUInt64 &&& Int64.toUInt64 63)).toInt64 i = tb v (k + i) := by
  unfold tb
  rw [ushr_bv v h, BitVec.getLsbD_ushiftRight]
theorem tb_sshr (v : Int64) {k : Nat} (h : k < 64) {i : Nat} (hi : k + i < 64) : tb (v >>> ((oI (k : Int)).toInt64 &&& 63)) i = tb v (k + i) := by
  unfold tb
  rw [shr_bv v h, BitVec.getLsbD_sshiftRight]
  simp [hi]; omega
/-- the lowest bit alone -/
theorem and1 (v : Int64) : v &&& 1 = if tb v 0 then 1 else 0 := by
  apply tb_ext
  intro i hi
  rw [tb_and, tb_1]
  by_cases h : i = 0
  · subst h
    cases tb v 0 <;> simp [tb_1, tb_0]
  · cases tb v 0 <;> simp [tb_1, tb_0, h]
theorem and1_eq (v : Int64) : v &&& 1 = 1 ↔ tb v 0 = true := by
  rw [and1]
  cases tb v 0 <;> simp <;> decide
theorem sshr_bit (v : Int64) {k : Nat} (h : k < 64) : (v >>> ((oI (k : Int)).toInt64 &&& 63)) &&& 1 = 1 ↔ tb v k = true := by
  rw [and1_eq, tb_sshr v h (by omega), Nat.add_zero]
theorem ushr_bit (v : Int64) {k : Nat} (h : k < 64) : (v.toUInt64 >>> ((oI (k : Int)).toInt64.toUInt64 &&& Int64.toUInt64 63)).toInt64 &&& 1 = 1 ↔ tb v k = true := by
  rw [and1_eq, tb_ushr v h, Nat.add_zero]
/-- no bit from place 60 on -/
def b60 (v : Int64) : Prop := ∀ i, 60 ≤ i → tb v i = false
theorem b60_ext {u v : Int64} (hu : b60 u) (hv : b60 v) (h : ∀ i, i < 60 → tb u i = tb v i) : u = v := by
  apply tb_ext
  intro i _
  by_cases hi : i < 60
  · exact h i hi
  · rw [hu i (by omega), hv i (by omega)]
theorem b60_0 : b60 0 := fun i _ => tb_0 i
theorem b60_all (v : Int64) : b60 (v &&& 1152921504606846975) := fun i h => by rw [tb_and, tb_all]; simp; omega
