/-! SPEC 8: typed bytes -/
theorem zLow8 (u : UInt64) : u.toInt64.toInt32 &&& 255 = nI (u.toNat % 256) := by
  apply Int32.toBitVec_inj.mp
  apply BitVec.eq_of_toNat_eq
  have h1 : (u.toInt64.toInt32 &&& 255).toBitVec.toNat = (u.toNat % 2 ^ 32) &&& 255 := by
    show (BitVec.signExtend 32 u.toBitVec &&& 255#32).toNat = _
    rw [BitVec.signExtend_eq_setWidth_of_le _ (by decide), BitVec.toNat_and, BitVec.toNat_setWidth]
    rfl
  have h2 : (nI (u.toNat % 256)).toBitVec.toNat = u.toNat % 256 % 2 ^ 32 := by
    exact BitVec.toNat_ofNat _ _
  rw [h1, h2, show (255 : Nat) = 2 ^ 8 - 1 from rfl, Nat.and_two_pow_sub_one_eq_mod]
  omega
/-- the k-th byte from below -/
def zByte (v : Int64) (k : Nat) : Nat := v.toUInt64.toNat / 2 ^ (8 * k) % 256
theorem zByte_e {v : Int64} {k : Nat} (h : 1 ≤ k ∧ k ≤ 8) : ((v.toUInt64 >>> ((8 * (nI k - 1)).toInt64.toUInt64 &&& Int64.toUInt64 63)).toInt64).toInt32 &&& 255 = nI (zByte v (k - 1)) := by
  rw [zLow8, zByte]
  congr 2
  have hs : ((8 * (nI k - 1)).toInt64.toUInt64 &&& Int64.toUInt64 63).toNat % 64 = 8 * (k - 1) := by
    rcases (show k = 1 ∨ k = 2 ∨ k = 3 ∨ k = 4 ∨ k = 5 ∨ k = 6 ∨ k = 7 ∨ k = 8 by omega) with q | q | q | q | q | q | q | q <;> subst q <;> decide
  rw [UInt64.toNat_shiftRight, hs, Nat.shiftRight_eq_div_pow]
theorem zByte_lt (v : Int64) (k : Nat) : zByte v k < 256 := Nat.mod_lt _ (by decide)
/-- n bytes typed behind tx, all but the last k -/
def zTyp (tb : Nat → Nat) (tx n : Nat) (v : Int64) (k : Nat) : Nat → Nat := fun i => if tx ≤ i ∧ i < tx + (n - k) then zByte v (n - 1 - (i - tx)) else tb i
theorem zTyp_0 (tb : Nat → Nat) (tx n : Nat) (v : Int64) : zTyp tb tx n v n = tb := by
  funext i
  rw [zTyp, if_neg (by omega)]
theorem zTyp_s (tb : Nat → Nat) (tx n : Nat) (v : Int64) {k : Nat} (h : 1 ≤ k) (hn : k ≤ n) : zu (zTyp tb tx n v k) (tx + (n - k)) (zByte v (k - 1)) = zTyp tb tx n v (k - 1) := by
  funext i
  by_cases hi : i = tx + (n - k)
  · subst hi
    rw [zu_at, zTyp, if_pos (by omega), show n - 1 - (tx + (n - k) - tx) = k - 1 by omega]
  · rw [zu_ne hi, zTyp, zTyp]
    by_cases c : tx ≤ i ∧ i < tx + (n - k)
    · rw [if_pos c, if_pos (by omega)]
    · rw [if_neg c, if_neg (by omega)]
theorem zTyp_lt {tb : Nat → Nat} (h : ∀ k, tb k < 256) (tx n : Nat) (v : Int64) (k : Nat) : ∀ i, zTyp tb tx n v k i < 256 := fun i => by
  rw [zTyp]
  split
  · exact zByte_lt _ _
  · exact h i
