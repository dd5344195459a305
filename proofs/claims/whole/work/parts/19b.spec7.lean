/-! SPEC 7: bounds of a whole text's reading -/
theorem zItems_ok {tb : Nat → Nat} {tx : Nat} : ∀ (n q it : Nat) (P : zPl), q ≤ tx → zPlOk P → (zItems tb tx n q it P).2.1 ≤ tx ∧ zPlOk (zItems tb tx n q it P).2.2 ∧ -10 - (tx : Int) ≤ (zItems tb tx n q it P).1 ∧ (zItems tb tx n q it P).1 ≤ (it : Int) + n
  | 0, q, it, P, hq, hP => by
    have h1 : zTokS tb tx q ≤ tx := zTokS_le hq
    rw [zItems]
    exact ⟨hq, hP, by show -10 - (tx : Int) ≤ -10 - (zTokS tb tx q : Int); omega, by show -10 - (zTokS tb tx q : Int) ≤ (it : Int) + 0; omega⟩
  | n + 1, q, it, P, hq, hP => by
    rw [zItems]
    split
    · exact ⟨hq, hP, by show -10 - (tx : Int) ≤ (it : Int); omega, by show (it : Int) ≤ (it : Int) + (n + 1 : Nat); omega⟩
    · split
      · have h := zItems_ok (tb := tb) n (zTokE tb tx (zItQ tb tx q P)) (it + 1) (zItP tb tx q P) (zTokE_le (zItQ_le hq)) (zItP_ok hP)
        exact ⟨h.1, h.2.1, h.2.2.1, by have := h.2.2.2; omega⟩
      · have h2 : zItQ tb tx q P ≤ tx := zItQ_le hq
        have h1 : zTokS tb tx (zItQ tb tx q P) ≤ tx := zTokS_le h2
        exact ⟨h2, zItP_ok hP, by show -10 - (tx : Int) ≤ -10 - (zTokS tb tx (zItQ tb tx q P) : Int); omega, by show -10 - (zTokS tb tx (zItQ tb tx q P) : Int) ≤ (it : Int) + (n + 1 : Nat); omega⟩
/-- a whole text read, the spare rows as they were -/
abbrev zRead (tb : Nat → Nat) (tx : Nat) (wc wp mp kp : Nat → Nat) : Int × Nat × zPl := zItems tb tx 401 0 0 (0, 90, 0, 0, 0, wc, wp, mp, kp)
theorem zRead_ok {tb : Nat → Nat} {tx : Nat} {wc wp mp kp : Nat → Nat} (htx : tx ≤ 400) (hwc : ∀ k, wc k ≤ 4) (hwp : ∀ k, wp k < 1000) (hmp : ∀ k, mp k < 1000) (hkp : ∀ k, kp k < 1000) : (zRead tb tx wc wp mp kp).2.1 ≤ tx ∧ zPlOk (zRead tb tx wc wp mp kp).2.2 ∧ -410 ≤ (zRead tb tx wc wp mp kp).1 ∧ (zRead tb tx wc wp mp kp).1 ≤ 401 := by
  have h := zItems_ok (tb := tb) (tx := tx) 401 0 0 (0, 90, 0, 0, 0, wc, wp, mp, kp) (Nat.zero_le _) ⟨Nat.zero_le _, ⟨show (10 : Nat) ≤ 90 from by decide, show (90 : Nat) ≤ 999 from by decide⟩, Nat.zero_le _, Nat.zero_le _, Nat.zero_le _, hwc, hwp, hmp, hkp⟩
  have h3 : -10 - (tx : Int) ≤ (zRead tb tx wc wp mp kp).1 := h.2.2.1
  have h4 : (zRead tb tx wc wp mp kp).1 ≤ ((0 : Nat) : Int) + (401 : Nat) := h.2.2.2
  exact ⟨h.1, h.2.1, by omega, by omega⟩
