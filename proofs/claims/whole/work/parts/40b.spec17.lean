/-! SPEC 17: images; the trace's sums -/
def zCpy (sd : Nat → Nat) (a b n : Nat) : Nat → Nat := fun j => if b ≤ j ∧ j < b + n then sd (a + (j - b)) else sd j
theorem zCpy_0 (sd : Nat → Nat) (a b : Nat) : zCpy sd a b 0 = sd := by
  funext j
  rw [zCpy, if_neg (by omega)]
theorem zCpy_s {sd : Nat → Nat} {a b i : Nat} (hd : a + 27 ≤ b ∨ b + 27 ≤ a) (hi : i < 27) : zu (zCpy sd a b i) (b + i) (zCpy sd a b i (a + i)) = zCpy sd a b (i + 1) := by
  have e : zCpy sd a b i (a + i) = sd (a + i) := by rw [zCpy, if_neg (by omega)]
  funext j
  rw [e]
  by_cases c : j = b + i
  · subst c
    rw [zu_at, zCpy, if_pos (by omega), show b + i - b = i by omega]
  · rw [zu_ne c, zCpy, zCpy]
    by_cases d : b ≤ j ∧ j < b + i
    · rw [if_pos d, if_pos (by omega)]
    · rw [if_neg d, if_neg (by omega)]
theorem zCpy_at {sd : Nat → Nat} {a b j : Nat} (hj : j < 27) : zCpy sd a b 27 (b + j) = sd (a + j) := by
  rw [zCpy, if_pos (by omega), show b + j - b = j by omega]
theorem zCpy_rel {a b mi st si : Nat} {dn lf tk sd : Nat → Nat} (h : zRel a sd mi st si dn lf tk) : zRel b (zCpy sd a b 27) mi st si dn lf tk := by
  obtain ⟨h1, h2, h3, h4⟩ := h
  refine ⟨?_, ?_, ?_, fun k hk => ?_⟩
  · exact (zCpy_at (j := 0) (by omega)).trans h1
  · exact (zCpy_at (j := 1) (by omega)).trans h2
  · exact (zCpy_at (j := 2) (by omega)).trans h3
  · obtain ⟨g1, g2, g3, g4⟩ := h4 k hk
    rw [Nat.add_assoc, Nat.add_assoc, Nat.add_assoc, Nat.add_assoc, zCpy_at (by omega), zCpy_at (by omega), zCpy_at (by omega), zCpy_at (by omega), ← Nat.add_assoc, ← Nat.add_assoc, ← Nat.add_assoc, ← Nat.add_assoc]
    exact ⟨g1, g2, g3, g4⟩
theorem zCpy_out (sd : Nat → Nat) (a b : Nat) : zOut b sd (zCpy sd a b 27) := fun j hj => by rw [zCpy, if_neg (by omega)]
theorem zT11 (t : Int64) : t + 11 = t + 10 + 1 := by rw [Int64.add_assoc]; rfl
theorem zT101 (t : Int64) : t + 101 = t + 100 + 1 := by rw [Int64.add_assoc]; rfl
theorem zT1011 (t : Int64) : t + 1011 = t + 1000 + 10 + 1 := by rw [Int64.add_assoc, Int64.add_assoc]; rfl
theorem zT10101 (t : Int64) : t + 10101 = t + 10000 + 100 + 1 := by rw [Int64.add_assoc, Int64.add_assoc]; rfl
theorem zT100001 (t : Int64) : t + 100001 = t + 100000 + 1 := by rw [Int64.add_assoc]; rfl
theorem zKb (kf : Nat → Nat) (k : Nat) : upd (zf kf) k (vp_nar .boolean 1) = zf (zu kf k 1) := (congrArg (upd (zf kf) k) (show vp_nar .boolean 1 = nI 1 by decide)).trans (zf_upd kf k 1)
