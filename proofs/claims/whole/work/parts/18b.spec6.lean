/-! SPEC 6: bounds of what is read -/
theorem zN3Q_le {tb : Nat → Nat} {tx q a b c d e f : Nat} (h : q ≤ tx) : zN3Q tb tx q a b c d e f ≤ tx := by
  rw [zN3Q]
  split
  · split
    · exact zNmQ_le (zNmQ_le (zNmQ_le h))
    · exact zNmQ_le (zNmQ_le h)
  · exact zNmQ_le h
theorem zItQ_le {tb : Nat → Nat} {tx q : Nat} {P : zPl} (h : q ≤ tx) : zItQ tb tx q P ≤ tx := by
  have h1 : zTokE tb tx q ≤ tx := zTokE_le h
  have h2 : zTokE tb tx (zTokE tb tx q) ≤ tx := zTokE_le h1
  have t1 : zCkQ tb tx q P.fct ≤ tx := by rw [zCkQ]; split; exact zNmQ_le h1; exact h
  have t2 : zPeQ tb tx q P.fnp ≤ tx := by rw [zPeQ]; split; exact h1; exact h
  have t3 : ∀ lo hi, zWyQ tb tx q lo hi P.fnp P.fwc ≤ tx := fun lo hi => by rw [zWyQ]; split; exact zN3Q_le h1; exact h
  have t4 : zMaQ tb tx q P.fnm ≤ tx := by rw [zMaQ]; split; exact zN3Q_le h1; exact h
  have t5 : zWkQ tb tx q P.fnw ≤ tx := by
    rw [zWkQ]
    split
    · split
      · split
        · exact zNmQ_le (zNmQ_le h2)
        · exact zNmQ_le h2
      · exact h1
    · exact h
  rw [zItQ]
  split
  · exact t1
  · split
    · exact t2
    · split
      · exact t3 _ _
      · split
        · exact t3 _ _
        · split
          · exact t4
          · split
            · exact t5
            · exact h
theorem zu_lt {f : Nat → Nat} {k v b : Nat} (h : ∀ j, f j < b) (hv : v < b) : ∀ j, zu f k v j < b := fun j => by
  rw [zu]
  split
  · exact hv
  · exact h j
theorem zu_le {f : Nat → Nat} {k v b : Nat} (h : ∀ j, f j ≤ b) (hv : v ≤ b) : ∀ j, zu f k v j ≤ b := fun j => by
  rw [zu]
  split
  · exact hv
  · exact h j
theorem zItP_ok {tb : Nat → Nat} {tx q : Nat} {P : zPl} (h : zPlOk P) : zPlOk (zItP tb tx q P) := by
  obtain ⟨ct, hs, np, nm, nw, wc, wp, mp, kp⟩ := P
  obtain ⟨h1, h2, h3, h4, h5, h6, h7, h8, h9⟩ := h
  have h1 : ct ≤ 1 := h1
  have h2 : 10 ≤ hs ∧ hs ≤ 999 := h2
  have h3 : np ≤ 6 := h3
  have h4 : nm ≤ 4 := h4
  have h5 : nw ≤ 6 := h5
  have h6 : ∀ k, wc k ≤ 4 := h6
  have h7 : ∀ k, wp k < 1000 := h7
  have h8 : ∀ k, mp k < 1000 := h8
  have h9 : ∀ k, kp k < 1000 := h9
  have t1 : 10 ≤ zCkH tb tx q ct hs ∧ zCkH tb tx q ct hs ≤ 999 := by
    rw [zCkH]
    split
    · rename_i c; exact ⟨c.2.2.1, c.2.2.2⟩
    · exact h2
  have t2 : zPeN np ≤ 6 := by rw [zPeN]; split <;> omega
  have t3 : ∀ k, zPeW np wc k ≤ 4 := by
    rw [zPeW]
    split
    · exact zu_le h6 (Nat.zero_le _)
    · exact h6
  have t4 : ∀ lo hi, ∀ k, zWyW tb tx q lo hi np wc k ≤ 4 := fun lo hi => by
    rw [zWyW]
    split
    · rename_i c; exact zu_le h6 (by have := c.1.2; omega)
    · exact h6
  have t5 : ∀ ki lo hi, ki < 1000 → hi < 1000 → ∀ k, zWyV tb tx q ki lo hi np wc wp k < 1000 := fun ki lo hi a b => by
    rw [zWyV]
    split
    · rename_i c; exact zu_lt (zu_lt (zu_lt (zu_lt h7 a) (by have := c.2.1.2.2; omega)) (by have := c.2.2.1.2.2; omega)) (by have := c.2.2.2.2.2; omega)
    · exact h7
  have t6 : zMaN tb tx q nm ≤ 4 := by rw [zMaN]; split; (rename_i c; have := c.1; omega); exact h4
  have t7 : ∀ k, zMaV tb tx q nm mp k < 1000 := by
    rw [zMaV]
    split
    · rename_i c; exact zu_lt (zu_lt (zu_lt h8 (by have := c.2.1.2.2; omega)) (by have := c.2.2.1.2.2; omega)) (by have := c.2.2.2.2.2; omega)
    · exact h8
  have t8 : zWkM tb tx q nw ≤ 6 := by rw [zWkM]; split; (rename_i c; have := c.1; omega); exact h5
  have t9 : ∀ k, zWkV tb tx q nw kp k < 1000 := by
    rw [zWkV]
    split
    · rename_i c; exact zu_lt (zu_lt (zu_lt h9 (by rw [zWkI]; split <;> omega)) (by have := c.2.2.1.2.2; have := zWkH_le (tb := tb) (tx := tx) (q := q); omega)) (by have := c.2.2.2.2.2; omega)
    · exact h9
  rw [zItP]
  split
  · exact ⟨Nat.le_refl _, t1, h3, h4, h5, h6, h7, h8, h9⟩
  · split
    · exact ⟨h1, h2, t2, h4, h5, t3, h7, h8, h9⟩
    · split
      · exact ⟨h1, h2, h3, h4, h5, t4 _ _, t5 _ _ _ (by decide) (by decide), h8, h9⟩
      · split
        · exact ⟨h1, h2, h3, h4, h5, t4 _ _, t5 _ _ _ (by decide) (by decide), h8, h9⟩
        · split
          · exact ⟨h1, h2, h3, t6, h5, h6, h7, t7, h9⟩
          · split
            · exact ⟨h1, h2, h3, h4, t8, h6, h7, h8, t9⟩
            · exact ⟨h1, h2, h3, h4, h5, h6, h7, h8, h9⟩
