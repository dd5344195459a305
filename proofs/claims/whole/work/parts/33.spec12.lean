/-! SPEC 12: a whole text's ways hold -/
theorem zItems_way {tb : Nat → Nat} {tx : Nat} : ∀ (n q it : Nat) (P : zPl), zPlOk P → zWayOk P.fnp P.fwc P.fwp → zWayOk (zItems tb tx n q it P).2.2.fnp (zItems tb tx n q it P).2.2.fwc (zItems tb tx n q it P).2.2.fwp
  | 0, q, it, P, _, k => by
    rw [zItems]
    exact k
  | n + 1, q, it, P, h, k => by
    rw [zItems]
    split
    · exact k
    · split
      · exact zItems_way n (zTokE tb tx (zItQ tb tx q P)) (it + 1) (zItP tb tx q P) (zItP_ok h) (zItP_way h k)
      · exact zItP_way h k
theorem zRead_way {tb : Nat → Nat} {tx : Nat} {wc wp mp kp : Nat → Nat} (hwc : ∀ k, wc k ≤ 4) (hwp : ∀ k, wp k < 1000) (hmp : ∀ k, mp k < 1000) (hkp : ∀ k, kp k < 1000) : zWayOk (zRead tb tx wc wp mp kp).2.2.fnp (zRead tb tx wc wp mp kp).2.2.fwc (zRead tb tx wc wp mp kp).2.2.fwp :=
  zItems_way (tb := tb) (tx := tx) 401 0 0 (0, 90, 0, 0, 0, wc, wp, mp, kp) ⟨Nat.zero_le _, ⟨show (10 : Nat) ≤ 90 from by decide, show (90 : Nat) ≤ 999 from by decide⟩, Nat.zero_le _, Nat.zero_le _, Nat.zero_le _, hwc, hwp, hmp, hkp⟩ (zWayOk_0 wc wp)
