/-! SPEC 18: the model's text: bytes typed; what is read at a place; a word's number -/
theorem zSh8 {x : BitVec 64} {j : Nat} (hj : j < 8) : (x.sshiftRight (8 * j)).toNat % 256 = x.toNat / 2 ^ (8 * j) % 256 := by
  have hx := x.isLt
  rw [BitVec.toNat_sshiftRight]
  rcases (show j = 0 ∨ j = 1 ∨ j = 2 ∨ j = 3 ∨ j = 4 ∨ j = 5 ∨ j = 6 ∨ j = 7 by omega) with q | q | q | q | q | q | q | q <;> subst q <;> (simp only [Nat.shiftRight_eq_div_pow]; split <;> omega)
theorem zLowM (u : Int64) : (u &&& 255).toInt32.toInt8.toInt32 &&& 255 = nI (u.toBitVec.toNat % 256) := by
  apply Int32.toBitVec_inj.mp
  apply BitVec.eq_of_toNat_eq
  have hz : (u.toBitVec &&& 255#64).toNat = u.toBitVec.toNat % 256 := by
    rw [BitVec.toNat_and, show (255#64).toNat = 2 ^ 8 - 1 from rfl, Nat.and_two_pow_sub_one_eq_mod]
  have hY : (((u.toBitVec &&& 255#64).signExtend 32).signExtend 8).toNat = u.toBitVec.toNat % 256 := by
    rw [BitVec.signExtend_eq_setWidth_of_le _ (by decide), BitVec.toNat_setWidth, BitVec.signExtend_eq_setWidth_of_le _ (by decide), BitVec.toNat_setWidth, hz]
    omega
  have h1 : ((u &&& 255).toInt32.toInt8.toInt32 &&& 255).toBitVec.toNat = (((((u.toBitVec &&& 255#64).signExtend 32).signExtend 8).signExtend 32) &&& 255#32).toNat := rfl
  have h2 : (nI (u.toBitVec.toNat % 256)).toBitVec.toNat = u.toBitVec.toNat % 256 % 2 ^ 32 := BitVec.toNat_ofNat _ _
  rw [h1, h2, BitVec.toNat_and, show (255#32).toNat = 2 ^ 8 - 1 from rfl, Nat.and_two_pow_sub_one_eq_mod, BitVec.toNat_signExtend, BitVec.toNat_setWidth, hY]
  split <;> omega
theorem zByM {v : Int64} {k : Nat} (h : 1 ≤ k ∧ k ≤ 8) : ((v >>> ((8 * (nI k - 1)).toInt64 &&& 63)) &&& 255).toInt32.toInt8.toInt32 &&& 255 = nI (zByte v (k - 1)) := by
  rw [zLowM, zByte]
  congr 1
  have hs : (((8 * (nI k - 1)).toInt64 &&& 63).toBitVec.smod 64).toNat = 8 * (k - 1) := by
    rcases (show k = 1 ∨ k = 2 ∨ k = 3 ∨ k = 4 ∨ k = 5 ∨ k = 6 ∨ k = 7 ∨ k = 8 by omega) with q | q | q | q | q | q | q | q <;> subst q <;> decide
  show (v.toBitVec.sshiftRight (((8 * (nI k - 1)).toInt64 &&& 63).toBitVec.smod 64).toNat).toNat % 256 = _
  rw [hs]
  exact zSh8 (by omega)
theorem zFb_s {fb : Nat → Int32} {t : Nat → Nat} {N b : Nat} {x : Int32} (h : ∀ k, k < N → fb k &&& 255 = nI (t k)) (hx : vp_nar .byte x &&& 255 = nI b) : ∀ k, k < N + 1 → upd fb N (vp_nar .byte x) k &&& 255 = nI (zu t N b k) := fun k hk => by
  by_cases c : k = N
  · subst c
    rw [zu_at, ← hx]
    simp [upd]
  · rw [zu_ne c, ← h k (by omega)]
    simp [upd, c]
theorem zFbT {fb : Nat → Int32} {tb : Nat → Nat} {tx n j : Nat} {v : Int64} (h1 : 1 ≤ j) (hn : j ≤ n) (h8 : n ≤ 8) (h : ∀ k, k < tx + (n - j) → fb k &&& 255 = nI (zTyp tb tx n v j k)) : ∀ k, k < tx + (n - (j - 1)) → upd fb (tx + (n - j)) (vp_nar .byte ((v >>> ((8 * (nI j - 1)).toInt64 &&& 63)) &&& 255).toInt32.toInt8.toInt32) k &&& 255 = nI (zTyp tb tx n v (j - 1) k) := fun k hk => by
  rw [← zTyp_s tb tx n v h1 hn]
  exact zFb_s h (by rw [pk_vb]; exact zByM (by omega)) k (by omega)
/-- the byte at a place, -1 behind the text's end -/
def zAu (tb : Nat → Nat) (tx i : Nat) : Int := if i < tx then (tb i : Int) else -1
theorem zAu_s {tb : Nat → Nat} (h : ∀ k, tb k < 256) (tx i : Nat) : (i < tx ∧ zAu tb tx i = (tb i : Int) ∧ tb i < 256) ∨ (tx ≤ i ∧ zAu tb tx i = -1) := by
  rw [zAu]
  split
  · exact Or.inl ⟨by assumption, rfl, h i⟩
  · exact Or.inr ⟨by omega, rfl⟩
theorem zAu_n {tb : Nat → Nat} {tx i : Nat} (h : i < tx) : zi (zAu tb tx i) = nI (tb i) := by
  rw [zAu, if_pos h]
  exact (zi_n (tb i)).symm
/-- a word's number: letters are digits to 27 -/
def zCode (tb : Nat → Nat) (s : Nat) : Nat → Nat
  | 0 => 0
  | n + 1 => 27 * zCode tb s n + tb (s + n) - 96
abbrev zLet (tb : Nat → Nat) (s n : Nat) : Prop := ∀ k, k < n → 97 ≤ tb (s + k) ∧ tb (s + k) ≤ 122
theorem zCode_lt {tb : Nat → Nat} {s : Nat} : ∀ {n : Nat}, zLet tb s n → zCode tb s n < 27 ^ n
  | 0, _ => by show (0 : Nat) < 27 ^ 0; decide
  | n + 1, h => by
    have h1 := zCode_lt (n := n) (fun k hk => h k (by omega))
    have h2 := h n (by omega)
    rw [zCode, Nat.pow_succ]
    omega
theorem zLet_s {tb : Nat → Nat} {s n : Nat} (h : zLet tb s n) (h1 : 97 ≤ tb (s + n) ∧ tb (s + n) ≤ 122) : zLet tb s (n + 1) := fun k hk => by
  by_cases c : k = n
  · subst c; exact h1
  · exact h k (by omega)
def zCd (tb : Nat → Nat) (s n : Nat) : Nat := if n ≤ 6 then zCode tb s n else 0
theorem zCd_lt {tb : Nat → Nat} {s n : Nat} (h : zLet tb s n) : zCd tb s n < 387420490 := by
  rw [zCd]
  split
  · have h1 := zCode_lt h
    have h2 : 27 ^ n ≤ 27 ^ 6 := Nat.pow_le_pow_right (by decide) (by omega)
    have h3 : (27 : Nat) ^ 6 = 387420489 := by decide
    omega
  · omega
theorem zCd_y {tb : Nat → Nat} {s n : Nat} (h : n < 6) : zCd tb s (n + 1) = 27 * zCd tb s n + tb (s + n) - 96 := by rw [zCd, zCd, if_pos (by omega), if_pos (by omega), zCode]
theorem zCd_n {tb : Nat → Nat} {s n : Nat} (h : ¬ n < 6) : zCd tb s (n + 1) = 0 := by rw [zCd, if_neg (by omega)]
def zMean (v : Nat) : Nat := if v = 1841546 then 0 else if v = 232608281 then 1 else if v = 204 then 2 else if v = 453701 then 3 else if v = 6941627 then 4 else if v = 464141 then 5 else if v = 4562587 then 6 else if v = 125150 then 7 else 11
theorem zMean_le (v : Nat) : zMean v ≤ 11 := by
  rw [zMean]
  repeat' split
  all_goals omega
/-- what the model's reader says of the token at q: its sort, its value -/
def zSrt (tb : Nat → Nat) (tx q : Nat) : Nat := if zTokK tb tx q = 0 then 8 else if zTokK tb tx q = 1 then 10 else if zTokK tb tx q = 2 then 9 else if zTokK tb tx q = 3 then zMean (zCd tb (zTokS tb tx q) (zTokE tb tx q - zTokS tb tx q)) else 11
def zVal (tb : Nat → Nat) (tx q : Nat) : Nat := if zTokS tb tx q < tx ∧ ¬ zLetter (tb (zTokS tb tx q)) = true ∧ zDigit (tb (zTokS tb tx q)) = true then zTokN tb tx q else 0
theorem zSrt_le (tb : Nat → Nat) (tx q : Nat) : zSrt tb tx q ≤ 11 := by
  rw [zSrt]
  have h := zMean_le (zCd tb (zTokS tb tx q) (zTokE tb tx q - zTokS tb tx q))
  repeat' split
  all_goals omega
theorem zVal_le {tb : Nat → Nat} (h : ∀ k, tb k < 256) (tx q : Nat) : zVal tb tx q ≤ 10245 := by
  rw [zVal]
  split
  · exact zTokN_le h
  · omega
theorem zVal_n {tb : Nat → Nat} {tx q : Nat} (h : zTokK tb tx q = 2) : zVal tb tx q = zTokN tb tx q := by
  rw [zVal, if_pos]
  rw [zTokK] at h
  by_cases c1 : zTokS tb tx q < tx
  · rw [if_pos c1] at h
    by_cases c2 : zLetter (tb (zTokS tb tx q)) = true
    · rw [if_pos c2] at h; exact absurd h (by decide)
    · rw [if_neg c2] at h
      by_cases c3 : zDigit (tb (zTokS tb tx q)) = true
      · exact ⟨c1, c2, c3⟩
      · rw [if_neg c3] at h
        split at h <;> exact absurd h (by decide)
  · rw [if_neg c1] at h; exact absurd h (by decide)
