/-! SPEC 16: one day's worth of nothing; rests, wages of the model; sets that stop an hour -/
theorem zWo_0 (kp : Nat → Nat) : ∀ n, zWo kp 0 n = 0
  | 0 => rfl
  | n + 1 => by
    have h1 := zWo_0 kp n
    have h2 : ¬ zbit 0 n = 1 := by rw [zbit, Nat.zero_div]; decide
    rw [zWo] at h1 ⊢
    rw [zSm, if_neg h2, h1]
/-- the model's rest, by the same pays -/
abbrev zRq (k n w t f a c : Nat) : Prop := (k = 0 ∨ w * f + t ≤ w * a) ∧ (k = n ∨ w * c ≤ w * a + t)
theorem zRq_e {hs k n b s w t : Nat} : zRq k n w t ((b + (k - 1) * s) / hs) ((b + k * s) / hs) ((b + (k + 1) * s) / hs) ↔ zRest hs k n b s w t := by
  show ((k = 0 ∨ w * ((b + (k - 1) * s) / hs) + t ≤ w * ((b + k * s) / hs)) ∧ (k = n ∨ w * ((b + (k + 1) * s) / hs) ≤ w * ((b + k * s) / hs) + t)) ↔ ((k = 0 ∨ (b + (k - 1) * s) / hs * w + t ≤ (b + k * s) / hs * w) ∧ (k = n ∨ (b + (k + 1) * s) / hs * w ≤ (b + k * s) / hs * w + t))
  rw [Nat.mul_comm w, Nat.mul_comm w, Nat.mul_comm w]
theorem zRe_y {hs n b s w t k : Nat} (h : zRest hs k n b s w t) : zRe hs n b s w t (k + 1) = (if (zRe hs n b s w t k).2.2 = 0 then k else (zRe hs n b s w t k).1, k, (zRe hs n b s w t k).2.2 + 1) := by rw [zRe, if_pos h]
theorem zRe_n {hs n b s w t k : Nat} (h : ¬ zRest hs k n b s w t) : zRe hs n b s w t (k + 1) = zRe hs n b s w t k := by rw [zRe, if_neg h]
theorem zBf_s {hs n b s w t k : Nat} (h : 1 ≤ k) : zBf hs n b s w t k = if zTg hs n b s w t k > zTg hs n b s w t (zBf hs n b s w t (k - 1)) then k else zBf hs n b s w t (k - 1) := by
  obtain ⟨q, rfl⟩ : ∃ q, k = q + 1 := ⟨k - 1, by omega⟩
  rw [zBf, Nat.add_sub_cancel]
theorem zWg_f {b k s hs : Nat} (h : 1 ≤ k) (h1 : b + (k - 1) * s < 2147483648) (h2 : 0 < hs) (h3 : hs < 2147483648) : (nI b + (nI k - 1) * nI s) / nI hs = nI ((b + (k - 1) * s) / hs) := by
  have e1 : nI k - 1 = nI (k - 1) := zi_eq (zi_sub (zi_n k) (zi_c 1 rfl)) (zi_n (k - 1)) (by omega)
  rw [e1, pk_mul, nI_add]
  exact pk_div (by omega) h2 (by omega)
theorem zTg_e (hs n b s w t k : Nat) : nI n * nI w * nI ((b + k * s) / hs) - nI k * nI t = zi (zTg hs n b s w t k) := by
  refine zi_eq (zi_sub (zi_mul (zi_mul (zi_n n) (zi_n w)) (zi_n _)) (zi_mul (zi_n k) (zi_n t))) rfl ?_
  rw [zTg, zPay, Int.natCast_mul, Int.mul_comm (((b + k * s) / hs : Nat) : Int), Int.mul_assoc]
/-- the model's set: one after another, a smaller one that stops the hour -/
def zMst (q : Nat → Bool) : Nat → Nat
  | 0 => 241
  | s + 1 => if 241 ≤ zMst q s ∨ zPop s < zPop (zMst q s) then (if q s = true then s else zMst q s) else zMst q s
theorem zMst_s {q : Nat → Bool} {s : Nat} : zMst q (s + 1) = if 241 ≤ zMst q s ∨ zPop s < zPop (zMst q s) then (if q s = true then s else zMst q s) else zMst q s := rfl
theorem zMst_lt {q : Nat → Bool} : ∀ {s : Nat}, zMst q s = 241 ∨ zMst q s < s
  | 0 => Or.inl rfl
  | s + 1 => by
    have h := zMst_lt (q := q) (s := s)
    rw [zMst_s]
    split
    · split
      · exact Or.inr (by omega)
      · omega
    · omega
/-- comes by t: as the search up to t says -/
theorem zCb {p : Nat → Bool} : ∀ {n i t : Nat}, i ≤ t → t < i + n → i + n ≤ 241 → (zFn p n i ≤ t ↔ zFn p (t + 1 - i) i < 241)
  | 0, i, t, h1, h2, _ => absurd h2 (by omega)
  | n + 1, i, t, h1, h2, h3 => by
    rw [show t + 1 - i = (t - i) + 1 by omega, zFn, zFn]
    by_cases c : p i = true
    · rw [if_pos c, if_pos c]; omega
    · rw [if_neg c, if_neg c]
      by_cases e : i = t
      · subst e
        rw [Nat.sub_self, zFn]
        have hge : ∀ (n j : Nat), j ≤ zFn p n j ∨ zFn p n j = 241 := by
          intro n
          induction n with
          | zero => exact fun j => Or.inr rfl
          | succ n ih =>
            intro j
            rw [zFn]
            split
            · exact Or.inl (Nat.le_refl _)
            · rcases ih (j + 1) with q | q
              · exact Or.inl (by omega)
              · exact Or.inr q
        rcases hge n (i + 1) with q | q <;> omega
      · rw [show t - i = t + 1 - (i + 1) by omega]
        exact zCb (by omega) (by omega) (by omega)
theorem zCb0 {hs np nm : Nat} {wc wp mp : Nat → Nat} {si f h t : Nat} (ht : t ≤ 240) : zFn (fun t => decide (zBh hs np nm wc wp mp si f t / hs ≥ h)) 241 0 ≤ t ↔ ¬ (241 ≤ zFn (zHq hs np nm wc wp mp si f h) (t + 1) 0) := by
  rw [zBh_hq (by omega), zCb (p := zHq hs np nm wc wp mp si f h) (n := 241) (i := 0) (t := t) (by omega) (by omega) (by omega)]
  show zFn (zHq hs np nm wc wp mp si f h) (t + 1) 0 < 241 ↔ _
  omega
/-- the model's least number, by halves -/
def zMu (q : Nat → Bool) : Nat → Nat → Nat → Nat
  | 0, lo, _ => lo
  | n + 1, lo, hi => if lo < hi then (if q ((lo + hi) / 2) = true then zMu q n ((lo + hi) / 2 + 1) hi else zMu q n lo ((lo + hi) / 2)) else lo
theorem zMu_e {q : Nat → Bool} {n lo hi : Nat} (h : ¬ lo < hi) : zMu q n lo hi = lo := by
  cases n with
  | zero => rfl
  | succ n => rw [zMu, if_neg h]
theorem zMu_y {q : Nat → Bool} {n lo hi : Nat} (h : lo < hi) (hn : 1 ≤ n) (hq : q ((lo + hi) / 2) = true) : zMu q n lo hi = zMu q (n - 1) ((lo + hi) / 2 + 1) hi := by
  obtain ⟨r, rfl⟩ : ∃ r, n = r + 1 := ⟨n - 1, by omega⟩
  rw [zMu, if_pos h, if_pos hq, Nat.add_sub_cancel]
theorem zMu_n {q : Nat → Bool} {n lo hi : Nat} (h : lo < hi) (hn : 1 ≤ n) (hq : q ((lo + hi) / 2) = false) : zMu q n lo hi = zMu q (n - 1) lo ((lo + hi) / 2) := by
  obtain ⟨r, rfl⟩ : ∃ r, n = r + 1 := ⟨n - 1, by omega⟩
  rw [zMu, if_pos h, if_neg (by rw [hq]; decide), Nat.add_sub_cancel]
theorem zMu_g {n lo hi : Nat} (h : lo < hi) (hg : hi - lo < 2 ^ n) : 1 ≤ n := by
  rcases Nat.eq_zero_or_pos n with q | q
  · subst q; omega
  · exact q
theorem zMu_h {n lo hi : Nat} (h : lo < hi) (hg : hi - lo < 2 ^ n) : hi - ((lo + hi) / 2 + 1) < 2 ^ (n - 1) ∧ (lo + hi) / 2 - lo < 2 ^ (n - 1) := by
  have h1 := zMu_g h hg
  obtain ⟨r, rfl⟩ : ∃ r, n = r + 1 := ⟨n - 1, by omega⟩
  rw [Nat.add_sub_cancel]
  rw [Nat.pow_succ] at hg
  omega
