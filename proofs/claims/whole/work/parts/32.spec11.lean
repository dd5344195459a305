/-! SPEC 11: what a told way's numbers are -/
def zWayOk (np : Nat) (wc wp : Nat → Nat) : Prop := ∀ p, p < np → ∀ k, k < wc p → wp (16 * p + 4 * k) ≤ 1 ∧ 1 ≤ wp (16 * p + 4 * k + 2) ∧ 1 ≤ wp (16 * p + 4 * k + 3)
theorem zWayOk_0 (wc wp : Nat → Nat) : zWayOk 0 wc wp := fun p h => absurd h (Nat.not_lt_zero p)
theorem zWayOk_p {np : Nat} {wc wp : Nat → Nat} (h : zWayOk np wc wp) : zWayOk (zPeN np) (zPeW np wc) wp := by
  rw [zPeN, zPeW]
  split
  · intro p hp k hk
    by_cases e : p = np
    · subst e
      rw [zu_at] at hk
      exact absurd hk (Nat.not_lt_zero k)
    · rw [zu_ne e] at hk
      exact h p (by omega) k hk
  · exact h
theorem zWayOk_w {tb : Nat → Nat} {tx q ki lo hi np : Nat} {wc wp : Nat → Nat} (hki : ki ≤ 1) (hwc : ∀ k, wc k ≤ 4) (h : zWayOk np wc wp) : zWayOk np (zWyW tb tx q lo hi np wc) (zWyV tb tx q ki lo hi np wc wp) := by
  rw [zWyW, zWyV]
  split
  · rename_i c
    intro p hp k hk
    have hc := hwc p
    have hc2 := hwc (np - 1)
    have hc3 := c.1
    have hs1 : 1 ≤ zTokN tb tx (zNmQ tb tx (zTokE tb tx q) lo hi) := c.2.2.1.2.1
    have hs2 : 1 ≤ zTokN tb tx (zNmQ tb tx (zNmQ tb tx (zTokE tb tx q) lo hi) 1 999) := c.2.2.2.2.1
    by_cases e : p = np - 1
    · subst e
      rw [zu_at] at hk
      by_cases e2 : k = wc (np - 1)
      · subst e2
        refine ⟨?_, ?_, ?_⟩
        · rw [zu_ne (by omega), zu_ne (by omega), zu_ne (by omega), zu_at]; exact hki
        · rw [zu_ne (by omega), zu_at]; exact hs1
        · rw [zu_at]; exact hs2
      · rw [zu_ne (by omega), zu_ne (by omega), zu_ne (by omega), zu_ne (by omega), zu_ne (by omega), zu_ne (by omega), zu_ne (by omega), zu_ne (by omega), zu_ne (by omega), zu_ne (by omega), zu_ne (by omega), zu_ne (by omega)]
        exact h _ hp k (by omega)
    · rw [zu_ne e] at hk
      rw [zu_ne (by omega), zu_ne (by omega), zu_ne (by omega), zu_ne (by omega), zu_ne (by omega), zu_ne (by omega), zu_ne (by omega), zu_ne (by omega), zu_ne (by omega), zu_ne (by omega), zu_ne (by omega), zu_ne (by omega)]
      exact h p hp k hk
  · exact h
theorem zItP_way {tb : Nat → Nat} {tx q : Nat} {P : zPl} (h : zPlOk P) (k : zWayOk P.fnp P.fwc P.fwp) : zWayOk (zItP tb tx q P).fnp (zItP tb tx q P).fwc (zItP tb tx q P).fwp := by
  have h6 : ∀ k, P.fwc k ≤ 4 := h.2.2.2.2.2.1
  rw [zItP]
  split
  · exact k
  · split
    · exact zWayOk_p k
    · split
      · exact zWayOk_w (by decide) h6 k
      · split
        · exact zWayOk_w (by decide) h6 k
        · split
          · exact k
          · split
            · exact k
            · exact k
