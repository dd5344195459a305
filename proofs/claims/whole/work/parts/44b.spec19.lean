/-! SPEC 19: words by their numbers; steps of the model's reader -/
def zFa (f : Nat) : Int32 := if f < 401 then nI f else -9
def zFi (f : Nat) : Int := if f < 401 then (f : Int) else -9
theorem zFa_z (f : Nat) : zFa f = zi (zFi f) := by
  rw [zFa, zFi]
  split
  · exact zi_n f
  · rfl
theorem zFi_s (f : Nat) : (f < 401 ∧ zFi f = (f : Int)) ∨ (401 ≤ f ∧ zFi f = -9) := by
  rw [zFi]
  split
  · exact Or.inl ⟨by assumption, rfl⟩
  · exact Or.inr ⟨by omega, rfl⟩
theorem zFa_lt {f : Nat} (h : f < 401) : nI f = zFa f := by rw [zFa, if_pos h]
/-- letters up to a word's end -/
theorem zWhile_all {p : Nat → Bool} {tb : Nat → Nat} {tx : Nat} : ∀ (n i k : Nat), i ≤ k → k < zWhile p tb tx n i → p (tb k) = true
  | 0, i, k, h1, h2 => by rw [zWhile] at h2; omega
  | n + 1, i, k, h1, h2 => by
    rw [zWhile] at h2
    split at h2
    · rename_i c
      by_cases e : k = i
      · subst e; exact c.2
      · exact zWhile_all n (i + 1) k (by omega) h2
    · omega
theorem zTok_word {tb : Nat → Nat} {tx q : Nat} (h : zTokK tb tx q = 3) : zLet tb (zTokS tb tx q) (zTokE tb tx q - zTokS tb tx q) := by
  rw [zTokK] at h
  by_cases c1 : zTokS tb tx q < tx
  · rw [if_pos c1] at h
    by_cases c2 : zLetter (tb (zTokS tb tx q)) = true
    · have e : zTokE tb tx q = zSkip zLetter tb tx (zTokS tb tx q) := by rw [zTokE, if_pos c1, if_pos c2]
      intro k hk
      have h3 := zWhile_all (p := zLetter) (tb := tb) (tx := tx) (tx - zTokS tb tx q) (zTokS tb tx q) (zTokS tb tx q + k) (by omega) (by
        show zTokS tb tx q + k < zSkip zLetter tb tx (zTokS tb tx q)
        rw [← e]; omega)
      exact of_decide_eq_true h3
    · rw [if_neg c2] at h
      split at h
      · split at h <;> exact absurd h (by decide)
      · split at h <;> exact absurd h (by decide)
  · rw [if_neg c1] at h; exact absurd h (by decide)
def zCv (j : Nat) : Nat → Nat
  | 0 => 0
  | n + 1 => 27 * zCv j n + zCh j n - 96
theorem zCode_inj {tb : Nat → Nat} {s j : Nat} : ∀ (n m : Nat), zLet tb s n → (∀ k, k < m → 97 ≤ zCh j k ∧ zCh j k ≤ 122) → (zCode tb s n = zCv j m ↔ n = m ∧ ∀ i, i < n → tb (s + i) = zCh j i)
  | 0, 0, _, _ => ⟨fun _ => ⟨rfl, fun i hi => absurd hi (Nat.not_lt_zero i)⟩, fun _ => rfl⟩
  | 0, m + 1, _, h2 => by
    have h := h2 m (by omega)
    rw [zCode, zCv]
    exact ⟨fun e => absurd e (by omega), fun e => absurd e.1 (by omega)⟩
  | n + 1, 0, h1, _ => by
    have h := h1 n (by omega)
    rw [zCode, zCv]
    exact ⟨fun e => absurd e (by omega), fun e => absurd e.1 (by omega)⟩
  | n + 1, m + 1, h1, h2 => by
    have a := h1 n (by omega)
    have b := h2 m (by omega)
    have ih := zCode_inj (tb := tb) (s := s) (j := j) n m (fun k hk => h1 k (by omega)) (fun k hk => h2 k (by omega))
    rw [zCode, zCv]
    constructor
    · intro e
      have e1 : zCode tb s n = zCv j m := by omega
      have e2 : tb (s + n) = zCh j m := by omega
      obtain ⟨g1, g2⟩ := ih.mp e1
      subst g1
      refine ⟨rfl, fun i hi => ?_⟩
      by_cases c : i = n
      · subst c; exact e2
      · exact g2 i (by omega)
    · intro e
      have e0 : n = m := by omega
      subst e0
      have e1 := ih.mpr ⟨rfl, fun i hi => e.2 i (by omega)⟩
      have e2 := e.2 n (by omega)
      omega
theorem zCh_let : ∀ j, j < 8 → ∀ k, k < zLen.getD j 0 → 97 ≤ zCh j k ∧ zCh j k ≤ 122 := by decide +kernel
theorem zCv_e : zCv 0 5 = 1841546 ∧ zCv 1 6 = 232608281 ∧ zCv 2 2 = 204 ∧ zCv 3 4 = 453701 ∧ zCv 4 5 = 6941627 ∧ zCv 5 4 = 464141 ∧ zCv 6 4 = 125150 ∧ zCv 7 5 = 4562587 := by decide +kernel
def zTj : List Nat := [0, 1, 2, 3, 4, 5, 7, 6]
theorem zMean_i (v : Nat) : (zMean v = 0 ↔ v = 1841546) ∧ (zMean v = 1 ↔ v = 232608281) ∧ (zMean v = 2 ↔ v = 204) ∧ (zMean v = 3 ↔ v = 453701) ∧ (zMean v = 4 ↔ v = 6941627) ∧ (zMean v = 5 ↔ v = 464141) ∧ (zMean v = 7 ↔ v = 125150) ∧ (zMean v = 6 ↔ v = 4562587) ∧ zMean v ≠ 8 ∧ zMean v ≠ 9 ∧ zMean v ≠ 10 := by
  rw [zMean]
  repeat' split
  all_goals omega
theorem zSrt_3 {tb : Nat → Nat} {tx q : Nat} (h : zTokK tb tx q = 3) : zSrt tb tx q = zMean (zCd tb (zTokS tb tx q) (zTokE tb tx q - zTokS tb tx q)) := by
  rw [zSrt, h, if_neg (by decide), if_neg (by decide), if_neg (by decide), if_pos rfl]
theorem zWd_c {tb : Nat → Nat} {tx q j : Nat} (hj : j < 8) (h : zTokK tb tx q = 3) : zWd tb tx q j ↔ zCd tb (zTokS tb tx q) (zTokE tb tx q - zTokS tb tx q) = zCv j (zLen.getD j 0) ∧ zTokE tb tx q - zTokS tb tx q ≤ 6 := by
  have h1 := zTok_word h
  have h2 := zCode_inj (tb := tb) (s := zTokS tb tx q) (j := j) (zTokE tb tx q - zTokS tb tx q) (zLen.getD j 0) h1 (zCh_let j hj)
  have h3 : zTokS tb tx q ≤ zTokE tb tx q := zTokSE
  have h4 := zLen_le hj
  constructor
  · intro w
    have w : zTokK tb tx q = 3 ∧ zTokE tb tx q = zTokS tb tx q + zLen.getD j 0 ∧ ∀ i, i < zLen.getD j 0 → tb (zTokS tb tx q + i) = zCh j i := w
    have e : zTokE tb tx q - zTokS tb tx q = zLen.getD j 0 := by omega
    refine ⟨?_, by omega⟩
    rw [zCd, if_pos (by omega)]
    exact h2.mpr ⟨e, fun i hi => w.2.2 i (by omega)⟩
  · intro w
    have w1 := w.1
    rw [zCd, if_pos w.2] at w1
    obtain ⟨e1, e2⟩ := h2.mp w1
    exact ⟨h, by omega, fun i hi => e2 i (by omega)⟩
theorem zCd_0 {tb : Nat → Nat} {s n : Nat} (h : ¬ n ≤ 6) : zCd tb s n = 0 := by rw [zCd, if_neg h]
theorem zSrt_w {tb : Nat → Nat} {tx q : Nat} : (zWd tb tx q 0 ↔ zSrt tb tx q = 0) ∧ (zWd tb tx q 1 ↔ zSrt tb tx q = 1) ∧ (zWd tb tx q 2 ↔ zSrt tb tx q = 2) ∧ (zWd tb tx q 3 ↔ zSrt tb tx q = 3) ∧ (zWd tb tx q 4 ↔ zSrt tb tx q = 4) ∧ (zWd tb tx q 5 ↔ zSrt tb tx q = 5) ∧ (zWd tb tx q 6 ↔ zSrt tb tx q = 7) ∧ (zWd tb tx q 7 ↔ zSrt tb tx q = 6) ∧ (zTokK tb tx q = 0 ↔ zSrt tb tx q = 8) ∧ (zTokK tb tx q = 2 ↔ zSrt tb tx q = 9) ∧ (zTokK tb tx q = 1 ↔ zSrt tb tx q = 10) := by
  by_cases h : zTokK tb tx q = 3
  · have e := zSrt_3 h
    have m := zMean_i (zCd tb (zTokS tb tx q) (zTokE tb tx q - zTokS tb tx q))
    have v := zCv_e
    have key : ∀ j, j < 8 → zCv j (zLen.getD j 0) ≠ 0 → (zWd tb tx q j ↔ zCd tb (zTokS tb tx q) (zTokE tb tx q - zTokS tb tx q) = zCv j (zLen.getD j 0)) := fun j hj hv => by
      rw [zWd_c hj h]
      constructor
      · exact fun g => g.1
      · intro g
        refine ⟨g, Classical.byContradiction fun g2 => hv ?_⟩
        rw [← g, zCd_0 g2]
    rw [e]
    generalize zCd tb (zTokS tb tx q) (zTokE tb tx q - zTokS tb tx q) = c at m key ⊢
    obtain ⟨m0, m1, m2, m3, m4, m5, m6, m7, m8, m9, m10⟩ := m
    obtain ⟨v0, v1, v2, v3, v4, v5, v6, v7⟩ := v
    refine ⟨?_, ?_, ?_, ?_, ?_, ?_, ?_, ?_, ?_, ?_, ?_⟩
    · rw [m0, ← v0]; exact key 0 (by decide) (by show zCv 0 5 ≠ 0; omega)
    · rw [m1, ← v1]; exact key 1 (by decide) (by show zCv 1 6 ≠ 0; omega)
    · rw [m2, ← v2]; exact key 2 (by decide) (by show zCv 2 2 ≠ 0; omega)
    · rw [m3, ← v3]; exact key 3 (by decide) (by show zCv 3 4 ≠ 0; omega)
    · rw [m4, ← v4]; exact key 4 (by decide) (by show zCv 4 5 ≠ 0; omega)
    · rw [m5, ← v5]; exact key 5 (by decide) (by show zCv 5 4 ≠ 0; omega)
    · rw [m6, ← v6]; exact key 6 (by decide) (by show zCv 6 4 ≠ 0; omega)
    · rw [m7, ← v7]; exact key 7 (by decide) (by show zCv 7 5 ≠ 0; omega)
    · exact ⟨fun g => absurd (g.symm.trans h) (by decide), fun g => absurd g m8⟩
    · exact ⟨fun g => absurd (g.symm.trans h) (by decide), fun g => absurd g m9⟩
    · exact ⟨fun g => absurd (g.symm.trans h) (by decide), fun g => absurd g m10⟩
  · have n : ∀ j, ¬ zWd tb tx q j := fun j g => h g.1
    have k := zTokK_le (tb := tb) (tx := tx) (q := q)
    have e : zSrt tb tx q = if zTokK tb tx q = 0 then 8 else if zTokK tb tx q = 1 then 10 else if zTokK tb tx q = 2 then 9 else 11 := by
      rw [zSrt]
      by_cases c0 : zTokK tb tx q = 0
      · rw [if_pos c0, if_pos c0]
      · rw [if_neg c0, if_neg c0]
        by_cases c1 : zTokK tb tx q = 1
        · rw [if_pos c1, if_pos c1]
        · rw [if_neg c1, if_neg c1]
          by_cases c2 : zTokK tb tx q = 2
          · rw [if_pos c2, if_pos c2]
          · rw [if_neg c2, if_neg c2, if_neg h]
    have d : (zTokK tb tx q = 0 ∧ zSrt tb tx q = 8) ∨ (zTokK tb tx q = 1 ∧ zSrt tb tx q = 10) ∨ (zTokK tb tx q = 2 ∧ zSrt tb tx q = 9) ∨ (zTokK tb tx q = 4 ∧ zSrt tb tx q = 11) := by
      rcases (show zTokK tb tx q = 0 ∨ zTokK tb tx q = 1 ∨ zTokK tb tx q = 2 ∨ zTokK tb tx q = 4 by omega) with g | g | g | g
      · exact Or.inl ⟨g, by rw [e, g]; rfl⟩
      · exact Or.inr (Or.inl ⟨g, by rw [e, g]; rfl⟩)
      · exact Or.inr (Or.inr (Or.inl ⟨g, by rw [e, g]; rfl⟩))
      · exact Or.inr (Or.inr (Or.inr ⟨g, by rw [e, g]; rfl⟩))
    refine ⟨⟨fun g => absurd g (n 0), fun g => by omega⟩, ⟨fun g => absurd g (n 1), fun g => by omega⟩, ⟨fun g => absurd g (n 2), fun g => by omega⟩, ⟨fun g => absurd g (n 3), fun g => by omega⟩, ⟨fun g => absurd g (n 4), fun g => by omega⟩, ⟨fun g => absurd g (n 5), fun g => by omega⟩, ⟨fun g => absurd g (n 6), fun g => by omega⟩, ⟨fun g => absurd g (n 7), fun g => by omega⟩, ?_, ?_, ?_⟩ <;> constructor <;> intro g <;> omega
/-- a step of the model's reader: the token at q is due if c; f: the fault, 401: none -/
abbrev zStep (c : Prop) (tb : Nat → Nat) (tx q f q9 f9 : Nat) : Prop := (f = 401 → c → q9 = zTokE tb tx q ∧ f9 = 401) ∧ (f = 401 → ¬ c → q9 = q ∧ f9 = zTokS tb tx q) ∧ (f ≠ 401 → q9 = q ∧ f9 = f) ∧ q9 ≤ tx ∧ f9 ≤ 401
theorem zStep_n {tb : Nat → Nat} {tx q f q9 f9 lo hi : Nat} {c : Prop} (h : zStep c tb tx q f q9 f9) (e : c ↔ zNmO tb tx q lo hi) : zStep (zNmO tb tx q lo hi) tb tx q f q9 f9 := by
  obtain ⟨h1, h2, h3, h4⟩ := h
  exact ⟨fun a b => h1 a (e.mpr b), fun a b => h2 a (fun g => b (e.mp g)), h3, h4⟩
