/-! SPEC 10: one person's numbers within a stand -/
/-- nothing changes but p's four numbers in the rows at q -/
def zFr (q p : Nat) (sd sf : Nat → Nat) : Prop := ∀ j, (j ≠ q + 3 + p ∧ j ≠ q + 9 + p ∧ j ≠ q + 15 + p ∧ j ≠ q + 21 + p) → sf j = sd j
theorem zFr_r (q p : Nat) (sd : Nat → Nat) : zFr q p sd sd := fun _ _ => rfl
theorem zFr_u {q p : Nat} {sd sf : Nat → Nat} (h : zFr q p sd sf) {j v : Nat} (hj : j = q + 3 + p ∨ j = q + 9 + p ∨ j = q + 15 + p ∨ j = q + 21 + p) : zFr q p sd (zu sf j v) := fun i hi => by
  rw [zu_ne (by omega)]
  exact h i hi
theorem zFr_out {q p : Nat} {sd sf : Nat → Nat} (hp : p < 6) (h : zFr q p sd sf) : zOut q sd sf := fun j hj => h j (by omega)
theorem zFr_rel {q p mi st si a b d : Nat} {sd sf dn lf tk : Nat → Nat} (hp : p < 6) (h : zRel q sd mi st si dn lf tk) (hf : zFr q p sd sf) (ha : sf (q + 3 + p) = a) (ho : sf (q + 9 + p) = if b = 0 then 0 else 1) (hb : sf (q + 15 + p) = b) (hd : sf (q + 21 + p) = d) : zRel q sf mi st si (zu dn p a) (zu lf p b) (zu tk p d) :=
  zRel_p hp h (hf _ (by omega)) (hf _ (by omega)) (hf _ (by omega)) (fun k hk hkp => ⟨hf _ (by omega), hf _ (by omega), hf _ (by omega), hf _ (by omega)⟩) ha ho hb hd
/-- one who stays where he is -/
theorem zStay {wc wp dn lf : Nat → Nat} {mi hr p : Nat} (h0 : lf p = 0) (h : ¬ zMay wc wp dn mi hr p) : zTk wc wp dn lf mi hr p = 0 ∧ zLf wc wp dn lf mi hr p = lf p ∧ zDn wc wp dn lf mi hr p = dn p := by
  have h1 := zL1_b (lf := lf) h
  have h2 : zTk wc wp dn lf mi hr p = 0 := by rw [zTk, ← h1, h0, Nat.zero_min]
  have h3 : zLf wc wp dn lf mi hr p = lf p := by rw [zLf, ← h1, h2, Nat.sub_zero]
  exact ⟨h2, h3, by rw [zDn, if_neg (fun q => q.1 (by rw [← h1]; exact h0))]⟩
