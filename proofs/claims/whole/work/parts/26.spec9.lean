/-! SPEC 9: the model's stand: a row of 27 numbers at place q says a moment; six people -/
/-- what a stand's rows at q say -/
def zRel (q : Nat) (sd : Nat → Nat) (mi st si : Nat) (dn lf tk : Nat → Nat) : Prop :=
  sd q = mi ∧ sd (q + 1) = st ∧ sd (q + 2) = si ∧ ∀ k, k < 6 → sd (q + 3 + k) = dn k ∧ sd (q + 9 + k) = (if lf k = 0 then 0 else 1) ∧ sd (q + 15 + k) = lf k ∧ sd (q + 21 + k) = tk k
/-- two stands that differ at most in the rows at q -/
def zOut (q : Nat) (sd sf : Nat → Nat) : Prop := ∀ j, (j < q ∨ q + 27 ≤ j) → sf j = sd j
theorem zOut_r (q : Nat) (sd : Nat → Nat) : zOut q sd sd := fun _ _ => rfl
theorem zOut_t {q : Nat} {a b d : Nat → Nat} (h : zOut q a b) (k : zOut q b d) : zOut q a d := fun j hj => (k j hj).trans (h j hj)
theorem zOut_u {q : Nat} {a b : Nat → Nat} (h : zOut q a b) {j v : Nat} (hj : q ≤ j ∧ j < q + 27) : zOut q a (zu b j v) := fun i hi => by
  rw [zu_ne (by omega)]
  exact h i hi
/-- a stand's other rows stay what they say -/
theorem zRel_o {q r mi st si : Nat} {dn lf tk sd sf : Nat → Nat} (h : zRel r sd mi st si dn lf tk) (k : zOut q sd sf) (d : r + 27 ≤ q ∨ q + 27 ≤ r) : zRel r sf mi st si dn lf tk := by
  obtain ⟨h1, h2, h3, h4⟩ := h
  refine ⟨?_, ?_, ?_, fun p hp => ?_⟩
  · rw [k r (by omega)]; exact h1
  · rw [k (r + 1) (by omega)]; exact h2
  · rw [k (r + 2) (by omega)]; exact h3
  · obtain ⟨a, b, d2, e⟩ := h4 p hp
    rw [k (r + 3 + p) (by omega), k (r + 9 + p) (by omega), k (r + 15 + p) (by omega), k (r + 21 + p) (by omega)]
    exact ⟨a, b, d2, e⟩
/-- no more is said than of six people -/
theorem zRel_c {q mi st si : Nat} {dn lf tk dn2 lf2 tk2 sd : Nat → Nat} (h : zRel q sd mi st si dn lf tk) (hd : ∀ k, k < 6 → dn2 k = dn k) (hl : ∀ k, k < 6 → lf2 k = lf k) (ht : ∀ k, k < 6 → tk2 k = tk k) : zRel q sd mi st si dn2 lf2 tk2 := by
  refine ⟨h.1, h.2.1, h.2.2.1, fun k hk => ?_⟩
  rw [hd k hk, hl k hk, ht k hk]
  exact h.2.2.2 k hk
/-- minute and steps anew -/
theorem zRel_ms {q mi st si mi2 st2 : Nat} {dn lf tk sd : Nat → Nat} (h : zRel q sd mi st si dn lf tk) : zRel q (zu (zu sd (q + 1) st2) q mi2) mi2 st2 si dn lf tk := by
  refine ⟨zu_at _ _ _, ?_, ?_, fun k hk => ?_⟩
  · rw [zu_ne (by omega), zu_at]
  · rw [zu_ne (by omega), zu_ne (by omega)]; exact h.2.2.1
  · rw [zu_ne (by omega), zu_ne (by omega), zu_ne (by omega), zu_ne (by omega), zu_ne (by omega), zu_ne (by omega), zu_ne (by omega), zu_ne (by omega)]
    exact h.2.2.2 k hk
/-- one person's numbers anew -/
theorem zRel_p {q mi st si : Nat} {dn lf tk sd sf : Nat → Nat} {p a b d : Nat} (hp : p < 6) (h : zRel q sd mi st si dn lf tk) (h0 : sf q = sd q) (h1 : sf (q + 1) = sd (q + 1)) (h2 : sf (q + 2) = sd (q + 2)) (hk : ∀ k, k < 6 → k ≠ p → sf (q + 3 + k) = sd (q + 3 + k) ∧ sf (q + 9 + k) = sd (q + 9 + k) ∧ sf (q + 15 + k) = sd (q + 15 + k) ∧ sf (q + 21 + k) = sd (q + 21 + k)) (ha : sf (q + 3 + p) = a) (ho : sf (q + 9 + p) = if b = 0 then 0 else 1) (hb : sf (q + 15 + p) = b) (hd : sf (q + 21 + p) = d) : zRel q sf mi st si (zu dn p a) (zu lf p b) (zu tk p d) := by
  refine ⟨h0.trans h.1, h1.trans h.2.1, h2.trans h.2.2.1, fun k hk6 => ?_⟩
  by_cases e : k = p
  · subst e
    rw [zu_at, zu_at, zu_at]
    exact ⟨ha, ho, hb, hd⟩
  · obtain ⟨x1, x2, x3, x4⟩ := hk k hk6 e
    rw [zu_ne e, zu_ne e, zu_ne e, x1, x2, x3, x4]
    exact h.2.2.2 k hk6
/-- a stand begun anew: i rows are 0 -/
def zBeg (sd : Nat → Nat) (q i : Nat) : Nat → Nat := fun j => if q ≤ j ∧ j < q + i then 0 else sd j
theorem zBeg_0 (sd : Nat → Nat) (q : Nat) : zBeg sd q 0 = sd := by
  funext j
  rw [zBeg, if_neg (by omega)]
theorem zBeg_s (sd : Nat → Nat) (q i : Nat) : zu (zBeg sd q i) (q + i) 0 = zBeg sd q (i + 1) := by
  funext j
  by_cases e : j = q + i
  · subst e
    rw [zu_at, zBeg, if_pos (by omega)]
  · rw [zu_ne e, zBeg, zBeg]
    by_cases c : q ≤ j ∧ j < q + i
    · rw [if_pos c, if_pos (by omega)]
    · rw [if_neg c, if_neg (by omega)]
theorem zBeg_rel (sd : Nat → Nat) (q si : Nat) : zRel q (zu (zBeg sd q 27) (q + 2) si) 0 0 si (fun _ => 0) (fun _ => 0) (fun _ => 0) := by
  refine ⟨?_, ?_, zu_at _ _ _, fun k hk => ?_⟩
  · rw [zu_ne (by omega), zBeg, if_pos (by omega)]
  · rw [zu_ne (by omega), zBeg, if_pos (by omega)]
  · have h : ∀ j, q ≤ j → j < q + 27 → j ≠ q + 2 → zu (zBeg sd q 27) (q + 2) si j = 0 := fun j a b d => by rw [zu_ne d, zBeg, if_pos ⟨a, b⟩]
    exact ⟨h _ (by omega) (by omega) (by omega), h _ (by omega) (by omega) (by omega), h _ (by omega) (by omega) (by omega), h _ (by omega) (by omega) (by omega)⟩
theorem zBeg_out (sd : Nat → Nat) (q si : Nat) : zOut q sd (zu (zBeg sd q 27) (q + 2) si) := fun j hj => by
  rw [zu_ne (by omega), zBeg, if_neg (by omega)]
