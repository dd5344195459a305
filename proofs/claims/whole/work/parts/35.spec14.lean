/-! SPEC 14: single rows of a stand; sums -/
theorem zRel_si {q mi st si s2 : Nat} {dn lf tk sd : Nat → Nat} (h : zRel q sd mi st si dn lf tk) : zRel q (zu sd (q + 2) s2) mi st s2 dn lf tk := by
  refine ⟨?_, ?_, zu_at _ _ _, fun k hk => ?_⟩
  · rw [zu_ne (by omega)]; exact h.1
  · rw [zu_ne (by omega)]; exact h.2.1
  · rw [zu_ne (by omega), zu_ne (by omega), zu_ne (by omega), zu_ne (by omega)]
    exact h.2.2.2 k hk
theorem zRel_st {q mi st si s2 : Nat} {dn lf tk sd : Nat → Nat} (h : zRel q sd mi st si dn lf tk) : zRel q (zu sd (q + 1) s2) mi s2 si dn lf tk := by
  refine ⟨?_, zu_at _ _ _, ?_, fun k hk => ?_⟩
  · rw [zu_ne (by omega)]; exact h.1
  · rw [zu_ne (by omega)]; exact h.2.2.1
  · rw [zu_ne (by omega), zu_ne (by omega), zu_ne (by omega), zu_ne (by omega)]
    exact h.2.2.2 k hk
theorem zSm_ext {f : Nat → Nat} {i : Nat} : ∀ {n : Nat}, i ≤ n → (∀ k, i ≤ k → k < n → f k = 0) → zSm f n = zSm f i
  | 0, h, _ => by rw [show i = 0 by omega]
  | n + 1, h, hz => by
    by_cases e : i = n + 1
    · rw [e]
    · rw [zSm, hz n (by omega) (by omega), Nat.add_zero]
      exact zSm_ext (by omega) (fun k a b => hz k a (by omega))
theorem zSm_cong {f h : Nat → Nat} : ∀ {n : Nat}, (∀ k, k < n → f k = h k) → zSm f n = zSm h n
  | 0, _ => rfl
  | n + 1, e => by rw [zSm, zSm, zSm_cong (fun k hk => e k (by omega)), e n (by omega)]
theorem zOnI (a : Nat) : nI (if a = 0 then 0 else 1) = if a > 0 then 1 else 0 := by
  by_cases h : a = 0
  · rw [if_pos h, if_neg (by omega)]; rfl
  · rw [if_neg h, if_pos (by omega)]; rfl
theorem zOnN (a : Nat) : (if a = 0 then 0 else 1 : Nat) = if a > 0 then 1 else 0 := by
  by_cases h : a = 0
  · rw [if_pos h, if_neg (by omega)]
  · rw [if_neg h, if_pos (by omega)]
