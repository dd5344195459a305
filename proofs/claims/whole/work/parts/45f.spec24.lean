/-! SPEC 24: the model's strike and undone are the class's -/
theorem zFull_bit : ∀ np, np ≤ 6 → ∀ p, p < np → zbit (2 ^ np - 1) p ≠ 0 := by
  intro np hnp p hp
  rcases (show np = 0 ∨ np = 1 ∨ np = 2 ∨ np = 3 ∨ np = 4 ∨ np = 5 ∨ np = 6 by omega) with rfl | rfl | rfl | rfl | rfl | rfl | rfl
  · omega
  · rw [show p = 0 by omega]; decide
  · rcases (show p = 0 ∨ p = 1 by omega) with rfl | rfl <;> decide
  · rcases (show p = 0 ∨ p = 1 ∨ p = 2 by omega) with rfl | rfl | rfl <;> decide
  · rcases (show p = 0 ∨ p = 1 ∨ p = 2 ∨ p = 3 by omega) with rfl | rfl | rfl | rfl <;> decide
  · rcases (show p = 0 ∨ p = 1 ∨ p = 2 ∨ p = 3 ∨ p = 4 by omega) with rfl | rfl | rfl | rfl | rfl <;> decide
  · rcases (show p = 0 ∨ p = 1 ∨ p = 2 ∨ p = 3 ∨ p = 4 ∨ p = 5 by omega) with rfl | rfl | rfl | rfl | rfl | rfl <;> decide
theorem zPop_full : ∀ np, np < 7 → zPop (2 ^ np - 1) = np ∧ ∀ s, s < 2 ^ np → np ≤ zPop s → s = 2 ^ np - 1 := by decide +kernel
/-- who must sit at the least: r, of several the least -/
def zFw (q : Nat → Bool) (N r : Nat) : Prop := r < N ∧ q r = true ∧ ∀ s, s < N → q s = true → zPop r ≤ zPop s ∧ (zPop s = zPop r → r ≤ s)
theorem zFw_u {q : Nat → Bool} {N r r2 : Nat} (h1 : zFw q N r) (h2 : zFw q N r2) : r = r2 := by
  obtain ⟨a1, a2, a3⟩ := h1
  obtain ⟨b1, b2, b3⟩ := h2
  have c1 := a3 r2 b1 b2
  have c2 := b3 r a1 a2
  have e : zPop r = zPop r2 := by omega
  have d1 := c1.2 e.symm
  have d2 := c2.2 e
  omega
theorem zMst_spec {q : Nat → Bool} : ∀ n, n ≤ 64 → (zMst q n = 241 ∧ ∀ s, s < n → q s = false) ∨ zFw q n (zMst q n)
  | 0, _ => Or.inl ⟨rfl, fun s hs => absurd hs (Nat.not_lt_zero s)⟩
  | n + 1, hn => by
    have qf : ¬ q n = true → q n = false := fun c => by cases e : q n with | true => exact absurd e c | false => rfl
    rw [zMst_s]
    rcases zMst_spec (q := q) n (by omega) with ⟨h1, h2⟩ | ⟨h1, h2, h3⟩
    · rw [if_pos (Or.inl (by omega))]
      by_cases c : q n = true
      · rw [if_pos c]
        refine Or.inr ⟨by omega, c, fun s hs hq => ?_⟩
        by_cases e : s = n
        · rw [e]; exact ⟨Nat.le_refl _, fun _ => Nat.le_refl _⟩
        · have := h2 s (by omega)
          rw [this] at hq
          exact absurd hq (by decide)
      · rw [if_neg c]
        refine Or.inl ⟨h1, fun s hs => ?_⟩
        by_cases e : s = n
        · rw [e]; exact qf c
        · exact h2 s (by omega)
    · by_cases d : 241 ≤ zMst q n ∨ zPop n < zPop (zMst q n)
      · rw [if_pos d]
        have d2 : zPop n < zPop (zMst q n) := by omega
        by_cases c : q n = true
        · rw [if_pos c]
          refine Or.inr ⟨by omega, c, fun s hs hq => ?_⟩
          by_cases e : s = n
          · rw [e]; exact ⟨Nat.le_refl _, fun _ => Nat.le_refl _⟩
          · have := h3 s (by omega) hq
            omega
        · rw [if_neg c]
          refine Or.inr ⟨by omega, h2, fun s hs hq => ?_⟩
          by_cases e : s = n
          · rw [e] at hq; exact absurd hq c
          · exact h3 s (by omega) hq
      · rw [if_neg d]
        have d2 : ¬ zPop n < zPop (zMst q n) := fun w => d (Or.inr w)
        refine Or.inr ⟨by omega, h2, fun s hs hq => ?_⟩
        by_cases e : s = n
        · rw [e]; exact ⟨by omega, fun _ => by omega⟩
        · exact h3 s (by omega) hq
theorem zSo_spec {hs np nm : Nat} {wc wp mp : Nat → Nat} {h t : Nat} (hnp : np ≤ 6) (hA : zSq hs np nm wc wp mp h t (2 ^ np - 1) = true) : ∀ (n z : Nat), z + n = np → (∀ s, s < 2 ^ np → zSq hs np nm wc wp mp h t s = true → z ≤ zPop s) → zFw (zSq hs np nm wc wp mp h t) (2 ^ np) (zSo hs np nm wc wp mp h t n z)
  | 0, z, e, hz => by
    have h6 := zp6 hnp
    have hf := zPop_full np (by omega)
    refine ⟨by rw [zSo]; omega, hA, fun s hl hq => ?_⟩
    have h1 := hz s hl hq
    have h2 := hf.2 s hl (by omega)
    rw [zSo, h2]
    exact ⟨Nat.le_refl _, fun _ => Nat.le_refl _⟩
  | n + 1, z, e, hz => by
    have h6 := zp6 hnp
    have hf := zPop_full np (by omega)
    rw [zSo]
    have sp := zFn_spec (q := fun s => decide (zPop s = z) && zSq hs np nm wc wp mp h t s) (n := 2 ^ np - 1) (i := 0) (by omega)
    by_cases c : zSi hs np nm wc wp mp h t z < 241
    · rw [if_pos c]
      rcases sp with ⟨s1, -⟩ | ⟨s1, s2, s3⟩
      · rw [zSi] at c
        omega
      · have s1 : 0 ≤ zSi hs np nm wc wp mp h t z ∧ zSi hs np nm wc wp mp h t z < 0 + (2 ^ np - 1) := s1
        have s2 : (decide (zPop (zSi hs np nm wc wp mp h t z) = z) && zSq hs np nm wc wp mp h t (zSi hs np nm wc wp mp h t z)) = true := s2
        have s3 : ∀ u, 0 ≤ u → u < zSi hs np nm wc wp mp h t z → (decide (zPop u = z) && zSq hs np nm wc wp mp h t u) = false := s3
        rw [Bool.and_eq_true] at s2
        have p1 : zPop (zSi hs np nm wc wp mp h t z) = z := of_decide_eq_true s2.1
        refine ⟨by omega, s2.2, fun s hl hq => ?_⟩
        have h1 := hz s hl hq
        refine ⟨by omega, fun g => ?_⟩
        rcases Nat.lt_or_ge s (zSi hs np nm wc wp mp h t z) with w | w
        · have h2 := s3 s (Nat.zero_le _) w
          rw [hq, decide_eq_true (show zPop s = z by omega)] at h2
          exact absurd h2 (by decide)
        · exact w
    · rw [if_neg c]
      refine zSo_spec hnp hA n (z + 1) (by omega) (fun s hl hq => ?_)
      have h1 := hz s hl hq
      by_cases d : zPop s = z
      · exfalso
        rcases sp with ⟨-, s2⟩ | ⟨s1, -⟩
        · by_cases e2 : s = 2 ^ np - 1
          · have := hf.1
            rw [← e2] at this
            omega
          · have h2 := s2 s (Nat.zero_le _) (by omega)
            have h2 : (decide (zPop s = z) && zSq hs np nm wc wp mp h t s) = false := h2
            rw [hq, decide_eq_true d] at h2
            exact absurd h2 (by decide)
        · have : zSi hs np nm wc wp mp h t z < 0 + (2 ^ np - 1) := s1.2
          omega
      · omega
theorem zMst_few {hs np nm : Nat} {wc wp mp : Nat → Nat} {h t : Nat} (hnp : np ≤ 6) (ht : t ≤ 240) : zMst (zSq hs np nm wc wp mp h t) (2 ^ np) = zFew hs np nm wc wp mp h t := by
  have h6 := zp6 hnp
  have ms := zMst_spec (q := zSq hs np nm wc wp mp h t) (2 ^ np) h6.2
  rw [zFew]
  by_cases c : zSq hs np nm wc wp mp h t (2 ^ np - 1) = true
  · rw [if_pos c]
    have so := zSo_spec hnp c np 0 (by omega) (fun s _ _ => Nat.zero_le _)
    rcases ms with ⟨-, m2⟩ | ms
    · have := m2 (2 ^ np - 1) (by omega)
      rw [this] at c
      exact absurd c (by decide)
    · exact zFw_u ms so
  · rw [if_neg c]
    rcases ms with ⟨m1, -⟩ | ⟨m1, m2, -⟩
    · exact m1
    · exfalso
      have c1 : ¬ 241 ≤ zFn (zHq hs np nm wc wp mp (2 ^ np - 1) 0 h) (t + 1) 0 := fun g => c (by rw [zSq]; exact decide_eq_true g)
      have c2 := zHq_mono (hs := hs) (np := np) (nm := nm) (wc := wc) (wp := wp) (mp := mp) (si := zMst (zSq hs np nm wc wp mp h t) (2 ^ np)) (f := 0) (si2 := 2 ^ np - 1) (f2 := 0) (h := h) (n := t + 1) (by omega) (fun p hp _ => zFull_bit np hnp p hp) (Nat.le_refl _) (by omega)
      rw [zSq] at m2
      have m3 := of_decide_eq_true m2
      omega
/-- how many of the first numbers hold -/
theorem zCnt {q : Nat → Bool} (hq : ∀ a b, a ≤ b → q b = true → q a = true) : ∀ n, ∃ T, T ≤ n ∧ ∀ x, x < n → (q x = true ↔ x < T)
  | 0 => ⟨0, Nat.le_refl _, fun x hx => absurd hx (Nat.not_lt_zero x)⟩
  | n + 1 => by
    obtain ⟨T, h1, h2⟩ := zCnt hq n
    by_cases c : q n = true
    · refine ⟨n + 1, Nat.le_refl _, fun x hx => ⟨fun _ => hx, fun _ => hq x n (by omega) c⟩⟩
    · refine ⟨T, by omega, fun x hx => ?_⟩
      by_cases e : x = n
      · subst e
        exact ⟨fun g => absurd g c, fun g => by omega⟩
      · exact h2 x (by omega)
theorem zUn_T {q : Nat → Bool} {T : Nat} (hT : T ≤ 10000) (h : ∀ x, x < 10000 → (q x = true ↔ x < T)) : ∀ k f, f ≤ T → T < f + 2 ^ k → zUn q k f = T
  | 0, f, h1, h2 => by rw [zUn]; rw [Nat.pow_zero] at h2; omega
  | k + 1, f, h1, h2 => by
    have hp : 0 < 2 ^ k := Nat.pow_pos (by decide)
    rw [Nat.pow_succ] at h2
    rw [zUn]
    by_cases c : f + 2 ^ k ≤ 10000 ∧ q (f + 2 ^ k - 1) = true
    · rw [if_pos c]
      have := (h (f + 2 ^ k - 1) (by omega)).mp c.2
      exact zUn_T hT h k _ (by omega) (by omega)
    · rw [if_neg c]
      refine zUn_T hT h k f h1 ?_
      by_cases d : f + 2 ^ k ≤ 10000
      · rcases Nat.lt_or_ge T (f + 2 ^ k) with w | w
        · exact w
        · exact absurd ⟨d, (h (f + 2 ^ k - 1) (by omega)).mpr (by omega)⟩ c
      · omega
theorem zMu_T {q : Nat → Bool} {T : Nat} (hT : T ≤ 10000) (h : ∀ x, x < 10000 → (q x = true ↔ x < T)) : ∀ n lo hi, lo ≤ T → T ≤ hi → hi ≤ 10000 → hi - lo < 2 ^ n → zMu q n lo hi = T
  | 0, lo, hi, h1, h2, _, h4 => by rw [zMu]; rw [Nat.pow_zero] at h4; omega
  | n + 1, lo, hi, h1, h2, h3, h4 => by
    by_cases c : lo < hi
    · have hh := zMu_h c h4
      rw [Nat.add_sub_cancel] at hh
      by_cases d : q ((lo + hi) / 2) = true
      · rw [zMu_y c (by omega) d, Nat.add_sub_cancel]
        have := (h ((lo + hi) / 2) (by omega)).mp d
        exact zMu_T hT h n _ hi (by omega) h2 h3 hh.1
      · have d' : q ((lo + hi) / 2) = false := by cases e : q ((lo + hi) / 2) with | true => exact absurd e d | false => rfl
        rw [zMu_n c (by omega) d', Nat.add_sub_cancel]
        have : ¬ (lo + hi) / 2 < T := fun g => d ((h ((lo + hi) / 2) (by omega)).mpr g)
        exact zMu_T hT h n lo _ h1 (by omega) (by omega) hh.2
    · rw [zMu_e c]; omega
theorem zMu_un {hs np nm : Nat} {wc wp mp : Nat → Nat} {si h t : Nat} (ht : t ≤ 240) : zMu (zUq hs np nm wc wp mp si h t) 14 0 10000 = zUn (zUq hs np nm wc wp mp si h t) 14 0 := by
  have anti : ∀ a b, a ≤ b → zUq hs np nm wc wp mp si h t b = true → zUq hs np nm wc wp mp si h t a = true := fun a b hab hb => by
    rw [zUq] at hb ⊢
    have h1 := of_decide_eq_true hb
    refine decide_eq_true (Nat.le_of_not_lt fun g => ?_)
    have g2 := zHq_mono (hs := hs) (np := np) (nm := nm) (wc := wc) (wp := wp) (mp := mp) (si := si) (f := b) (si2 := si) (f2 := a) (h := h) (n := t + 1) (by omega) (fun _ _ w => w) hab g
    omega
  obtain ⟨T, hT, hx⟩ := zCnt anti 10000
  have h14 : (2 : Nat) ^ 14 = 16384 := by decide
  rw [zMu_T hT hx 14 0 10000 (Nat.zero_le _) hT (Nat.le_refl _) (by decide), zUn_T hT hx 14 0 (Nat.zero_le _) (by omega)]
