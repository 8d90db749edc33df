/-! bytes of a long -/
section RBI
def rb (x : Int32) (i : Nat) : Bool := x.toBitVec.getLsbD i
def rl (x : Int64) (i : Nat) : Bool := x.toBitVec.getLsbD i
theorem rb_ext {x y : Int32} (h : ∀ i, i < 32 → rb x i = rb y i) : x = y := Int32.toBitVec_inj.mp (BitVec.eq_of_getLsbD_eq (fun i hi => h i hi))
theorem rb_xor (x y : Int32) (i : Nat) : rb (x ^^^ y) i = (rb x i ^^ rb y i) := by unfold rb; rw [Int32.toBitVec_xor, BitVec.getLsbD_xor]
theorem rb_and (x y : Int32) (i : Nat) : rb (x &&& y) i = (rb x i && rb y i) := by unfold rb; rw [Int32.toBitVec_and, BitVec.getLsbD_and]
theorem rl_xor (x y : Int64) (i : Nat) : rl (x ^^^ y) i = (rl x i ^^ rl y i) := by unfold rl; rw [Int64.toBitVec_xor, BitVec.getLsbD_xor]
theorem rb_255 : ∀ i, i < 32 → rb 255 i = decide (i < 8) := by decide +kernel
theorem rl_cl : ∀ k, k < 64 → (((nI k).toInt64 &&& 63).toBitVec.smod 64).toNat = k := by decide +kernel
theorem rl_cu : ∀ k, k < 64 → (((nI k).toInt64.toUInt64 &&& Int64.toUInt64 63).toBitVec % 64).toNat = k := by decide +kernel
theorem rl_i {x : Int64} {i : Nat} (hi : i < 32) : rb x.toInt32 i = rl x i := by
  unfold rb rl
  show (x.toBitVec.signExtend 32).getLsbD i = _
  rw [BitVec.getLsbD_signExtend]
  simp [hi, show i < 64 by omega]
theorem rl_ushr {x : Int64} {k i : Nat} (hk : k < 64) : rl ((x.toUInt64 >>> ((nI k).toInt64.toUInt64 &&& Int64.toUInt64 63)).toInt64) i = rl x (k + i) := by
  show (x.toUInt64 >>> ((nI k).toInt64.toUInt64 &&& Int64.toUInt64 63)).toBitVec.getLsbD i = x.toUInt64.toBitVec.getLsbD (k + i)
  rw [UInt64.toBitVec_shiftRight]
  show (x.toUInt64.toBitVec >>> (((nI k).toInt64.toUInt64 &&& Int64.toUInt64 63).toBitVec % 64).toNat).getLsbD i = _
  rw [rl_cu k hk, BitVec.getLsbD_ushiftRight]
theorem rl_sshr {x : Int64} {k i : Nat} (hk : k < 64) (hi : k + i < 64) : rl (x >>> ((nI k).toInt64 &&& 63)) i = rl x (k + i) := by
  unfold rl
  rw [Int64.toBitVec_shiftRight]
  show (x.toBitVec.sshiftRight (((nI k).toInt64 &&& 63).toBitVec.smod 64).toNat).getLsbD i = _
  rw [rl_cl k hk, BitVec.getLsbD_sshiftRight]
  simp [hi, show i < 64 by omega]
theorem rl_shl {x : Int64} {k i : Nat} (hk : k < 64) (hi : i < 64) : rl (x <<< ((nI k).toInt64 &&& 63)) i = (decide (k ≤ i) && rl x (i - k)) := by
  unfold rl
  rw [Int64.toBitVec_shiftLeft]
  show (x.toBitVec <<< (((nI k).toInt64 &&& 63).toBitVec.smod 64).toNat).getLsbD i = _
  rw [rl_cl k hk, BitVec.getLsbD_shiftLeft]
  rcases Nat.lt_or_ge i k with h | h
  · simp [h, Nat.not_le.mpr h]
  · simp [hi, h, Nat.not_lt.mpr h]
theorem rb_small {m i : Nat} (hm : m ≤ 255) (hi : 8 ≤ i) : rb (nI m) i = false := by
  show (BitVec.ofNat 32 m).getLsbD i = false
  rw [BitVec.getLsbD_ofNat, Nat.testBit_lt_two_pow (Nat.lt_of_lt_of_le (show m < 2 ^ 8 by omega) (Nat.pow_le_pow_right (by omega) hi)), Bool.and_false]
theorem rl_small {m i : Nat} (hm : m ≤ 255) (hi : i < 64) : rl (nI m).toInt64 i = (decide (i < 8) && rb (nI m) i) := by
  unfold rl
  show ((nI m).toBitVec.signExtend 64).getLsbD i = _
  rw [BitVec.getLsbD_signExtend]
  by_cases h : i < 8
  · simp [h, hi, show i < 32 by omega, rb]
  · have e : (nI m).toBitVec.msb = false := by
      rw [BitVec.msb_eq_getLsbD_last]; exact rb_small hm (by omega)
    by_cases h2 : i < 32
    · have := rb_small hm (i := i) (by omega)
      unfold rb at this
      rw [if_pos h2, this, Bool.and_false, decide_eq_false h, Bool.false_and]
    · simp [h, h2, e]
theorem rb_byte {b : Int64} {k i : Nat} (hk : k < 64) (hi : i < 32) : rb (c_byte b (nI k)) i = (decide (i < 8) && rl b (k + i)) := by
  unfold c_byte
  rw [rb_and, rb_255 i hi, rl_i hi, rl_ushr hk, Bool.and_comm]
theorem m_byte_c {b : Int64} {j : Nat} (hj : j ≤ 7) : m_byte b (nI (8 * j)) = c_byte b (nI (8 * j)) := by
  refine rb_ext (fun i hi => ?_)
  rw [rb_byte (by omega) hi]
  unfold m_byte
  rw [rb_and, rb_255 i hi, rl_i hi]
  by_cases h : i < 8
  · rw [rl_sshr (by omega) (by omega), Bool.and_comm]
  · rw [decide_eq_false h, Bool.and_false, Bool.false_and]
theorem c_poke_b {b : Int64} {m j t : Nat} (hm : m ≤ 255) (hj : j ≤ 7) (ht : t ≤ 7) : c_byte (b ^^^ ((nI m).toInt64 <<< ((nI (8 * t)).toInt64 &&& 63))) (nI (8 * j)) = if j = t then c_byte b (nI (8 * j)) ^^^ nI m else c_byte b (nI (8 * j)) := by
  refine rb_ext (fun i hi => ?_)
  rw [rb_byte (by omega) hi]
  by_cases h : i < 8
  · rw [rl_xor, rl_shl (by omega) (by omega), decide_eq_true h, Bool.true_and]
    split
    · rename_i e
      subst e
      rw [rb_xor, rb_byte (by omega) hi, decide_eq_true h, Bool.true_and, decide_eq_true (by omega), Bool.true_and, show 8 * j + i - 8 * j = i by omega, rl_small hm (by omega), decide_eq_true h, Bool.true_and]
    · rename_i e
      rw [rb_byte (by omega) hi, decide_eq_true h, Bool.true_and]
      by_cases q : 8 * t ≤ 8 * j + i
      · rw [rl_small hm (by omega), decide_eq_false (p := 8 * j + i - 8 * t < 8) (by omega), Bool.false_and, Bool.and_false, Bool.xor_false]
      · rw [decide_eq_false q, Bool.false_and, Bool.xor_false]
  · rw [decide_eq_false h, Bool.false_and]
    split
    · rw [rb_xor, rb_byte (by omega) hi, decide_eq_false h, Bool.false_and, rb_small hm (by omega)]; rfl
    · rw [rb_byte (by omega) hi, decide_eq_false h, Bool.false_and]
end RBI
