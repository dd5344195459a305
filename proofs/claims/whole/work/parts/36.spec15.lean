/-! SPEC 15: the trial grows; works; a product -/
theorem zStp_ge (hs np nm : Nat) (wc wp mp : Nat → Nat) (si t : Nat) (s : Nat × (Nat → Nat) × (Nat → Nat) × (Nat → Nat)) : s.1 ≤ (zStp hs np nm wc wp mp si t s).1 := Nat.le_add_right _ _
theorem zTr_ge (hs np nm : Nat) (wc wp mp : Nat → Nat) (si f t : Nat) : (zTr hs np nm wc wp mp si f t).1 ≤ (zTr hs np nm wc wp mp si f (t + 1)).1 := by
  rw [zTr_s]
  exact zStp_ge _ _ _ _ _ _ _ _ _
theorem zBh_ge (hs np nm : Nat) (wc wp mp : Nat → Nat) (si f t : Nat) : zBh hs np nm wc wp mp si f t ≤ zBh hs np nm wc wp mp si f (t + 1) := by
  rcases Nat.lt_or_ge t 240 with h | h
  · rw [zBh_at (show t ≤ 240 by omega), zBh_at (show t + 1 ≤ 240 by omega)]
    exact zTr_ge _ _ _ _ _ _ _ _ _
  · rw [zBh, zBh, Nat.min_eq_right h, Nat.min_eq_right (show 240 ≤ t + 1 by omega)]
    exact Nat.le_refl _
abbrev zMW (nw : Nat) (kp wo wk : Nat → Nat) : Prop := wo 0 = nw ∧ ∀ w, w < nw → ∀ j, j < 3 → wk (3 * w + j) = kp (3 * w + j)
theorem zXmul {x : Int32} {d : Nat} (h : 0 ≤ x.toInt) : x * nI d = nI (x.toInt.toNat * d) := by
  have e1 : x = nI x.toInt.toNat := zi_eq (zi_self x) (zi_n _) (by omega)
  rw [← pk_mul, ← e1]
theorem zOr0 (x : Int32) : x ||| 0 = x := Int32.toBitVec_inj.mp (by show x.toBitVec ||| 0#32 = x.toBitVec; exact BitVec.or_zero)
/-- the model's and the class's sets of works: one with the place that is filled -/
theorem zEw_zu {kp to se : Nat → Nat} {s v : Nat} (n : Nat) : zEw kp to (zu se s v) s n = zEw kp to se s n :=
  zEw_cong (fun k hk => zu_ne (by omega)) n
