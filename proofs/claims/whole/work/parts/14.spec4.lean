/-! SPEC 4: constant texts, tokens -/
theorem zLen_lt (j : Nat) : zLen.getD j 0 < 2147483648 := by
  have key : ∀ q ∈ zLen, q < 7 := by decide
  rw [List.getD_eq_getElem?_getD]
  cases h : zLen[j]? with
  | none => simp
  | some q => have := key q (List.mem_of_getElem? h); simp; omega
theorem zLen_le {j : Nat} (hj : j < 8) : zLen.getD j 0 ≤ 6 := by
  have key : ∀ j, j < 8 → zLen.getD j 0 ≤ 6 := by decide
  exact key j hj
def zCh (j k : Nat) : Nat := ((zByt.getD j []).getD k 0).toInt.toNat
theorem zCh_key : ∀ j, j < 8 → ∀ k, k < zLen.getD j 0 → (((zByt.getD j []).getD k 0 &&& 255).toUInt32 % 65536).toInt32 = nI (zCh j k) ∧ zCh j k < 256 := by decide +kernel
theorem zCh_e {j k : Nat} (hj : j < 8) (hk : k < zLen.getD j 0) : (((zByt.getD j []).getD k 0 &&& 255).toUInt32 % 65536).toInt32 = nI (zCh j k) := (zCh_key j hj k hk).1
theorem zCh_lt {j k : Nat} (hj : j < 8) (hk : k < zLen.getD j 0) : zCh j k < 256 := (zCh_key j hj k hk).2
theorem zCh_n {j k : Nat} (hj : j < 8) (hk : k < zLen.getD j 0) : narrow .char (.int (nI (zCh j k))) = .int (nI (zCh j k)) := (pk_charN (by have := zCh_lt hj hk; omega)).1
theorem zCh_n2 {j k : Nat} (hj : j < 8) (hk : k < zLen.getD j 0) : narrow .char (.int (((zByt.getD j []).getD k 0 &&& 255).toUInt32 % 65536).toInt32) = .int (((zByt.getD j []).getD k 0 &&& 255).toUInt32 % 65536).toInt32 := by rw [zCh_e hj hk]; exact zCh_n hj hk
theorem zShr0 {n : Nat} (h : n < 2147483648) : nI n >>> ((0 : Int32) &&& 31) = nI n := by
  rw [pk_shrN h _ 0 (by decide)]
  simp
/-- the byte at a place, -9 behind the text's end -/
def zAt (tb : Nat → Nat) (tx i : Nat) : Int := if i < tx then (tb i : Int) else -9
/-- from i on, places whose byte has p -/
def zWhile (p : Nat → Bool) (tb : Nat → Nat) (tx : Nat) : Nat → Nat → Nat
  | 0, i => i
  | n + 1, i => if i < tx ∧ p (tb i) = true then zWhile p tb tx n (i + 1) else i
def zSkip (p : Nat → Bool) (tb : Nat → Nat) (tx i : Nat) : Nat := zWhile p tb tx (tx - i) i
def zBlank (b : Nat) : Bool := decide (b = 32)
def zLetter (b : Nat) : Bool := decide (97 ≤ b ∧ b ≤ 122)
def zDigit (b : Nat) : Bool := decide (48 ≤ b ∧ b ≤ 57)
theorem zSkip_y {p : Nat → Bool} {tb : Nat → Nat} {tx i : Nat} (h : i < tx) (hp : p (tb i) = true) : zSkip p tb tx i = zSkip p tb tx (i + 1) := by
  rw [zSkip, zSkip, show tx - i = (tx - (i + 1)) + 1 by omega, zWhile, if_pos ⟨h, hp⟩]
theorem zSkip_n {p : Nat → Bool} {tb : Nat → Nat} {tx i : Nat} (h : ¬ (i < tx ∧ p (tb i) = true)) : zSkip p tb tx i = i := by
  rw [zSkip]
  cases tx - i with
  | zero => rfl
  | succ n => rw [zWhile, if_neg h]
theorem zWhile_ge (p : Nat → Bool) (tb : Nat → Nat) (tx : Nat) : ∀ n i, i ≤ zWhile p tb tx n i
  | 0, _ => Nat.le_refl _
  | n + 1, i => by
    rw [zWhile]
    split
    · exact Nat.le_trans (Nat.le_succ i) (zWhile_ge p tb tx n (i + 1))
    · exact Nat.le_refl _
theorem zWhile_le (p : Nat → Bool) (tb : Nat → Nat) (tx : Nat) : ∀ n i, i ≤ tx → zWhile p tb tx n i ≤ tx
  | 0, _, h => h
  | n + 1, i, h => by
    rw [zWhile]
    split
    · rename_i c
      exact zWhile_le p tb tx n (i + 1) c.1
    · exact h
theorem zSkip_ge (p : Nat → Bool) (tb : Nat → Nat) (tx i : Nat) : i ≤ zSkip p tb tx i := zWhile_ge p tb tx _ i
theorem zSkip_le {p : Nat → Bool} {tb : Nat → Nat} {tx i : Nat} (h : i ≤ tx) : zSkip p tb tx i ≤ tx := zWhile_le p tb tx _ i h
/-- the number that digits tell: beyond 999 it grows no more -/
def zNum (tb : Nat → Nat) (s : Nat) : Nat → Nat
  | 0 => 0
  | n + 1 => if zNum tb s n > 999 then zNum tb s n else zNum tb s n * 10 + tb (s + n) - 48
/-- a token: kind (0 end, 1 ;, 2 number, 3 word, 4 wrong), where it begins, where it ends -/
def zTokS (tb : Nat → Nat) (tx i : Nat) : Nat := zSkip zBlank tb tx i
def zTokE (tb : Nat → Nat) (tx i : Nat) : Nat := if zTokS tb tx i < tx then (if zLetter (tb (zTokS tb tx i)) = true then zSkip zLetter tb tx (zTokS tb tx i) else if zDigit (tb (zTokS tb tx i)) = true then zSkip zDigit tb tx (zTokS tb tx i) else zTokS tb tx i + 1) else zTokS tb tx i
def zTokN (tb : Nat → Nat) (tx i : Nat) : Nat := zNum tb (zTokS tb tx i) (zTokE tb tx i - zTokS tb tx i)
def zTokK (tb : Nat → Nat) (tx i : Nat) : Nat := if zTokS tb tx i < tx then (if zLetter (tb (zTokS tb tx i)) = true then 3 else if zDigit (tb (zTokS tb tx i)) = true then (if (tb (zTokS tb tx i) = 48 ∧ zTokE tb tx i - zTokS tb tx i > 1) ∨ zTokN tb tx i > 999 then 4 else 2) else if tb (zTokS tb tx i) = 59 then 1 else 4) else 0
/-- the token's bytes are word j's -/
abbrev zIsW (tn sa be : Nat) (tb : Nat → Nat) (j : Nat) : Prop := tn = 3 ∧ be = sa + zLen.getD j 0 ∧ ∀ i, i < zLen.getD j 0 → tb (sa + i) = zCh j i
theorem zAt_s {tb : Nat → Nat} (h : ∀ k, tb k < 256) (tx i : Nat) : (i < tx ∧ zAt tb tx i = (tb i : Int) ∧ tb i < 256) ∨ (tx ≤ i ∧ zAt tb tx i = -9) := by
  rw [zAt]
  split
  · exact Or.inl ⟨by assumption, rfl, h i⟩
  · exact Or.inr ⟨by omega, rfl⟩
