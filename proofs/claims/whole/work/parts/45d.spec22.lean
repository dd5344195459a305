/-! SPEC 22: a whole text by the model's reader -/
def zCpz (sd : Nat → Nat) (a n : Nat) : Nat → Nat := fun j => if j < n then sd (a + j) else sd j
theorem zCpz_0 (sd : Nat → Nat) (a : Nat) : zCpz sd a 0 = sd := by
  funext j
  rw [zCpz, if_neg (by omega)]
theorem zCpz_s {sd : Nat → Nat} {a i : Nat} : zu (zCpz sd a i) i (zCpz sd a i (a + i)) = zCpz sd a (i + 1) := by
  funext j
  by_cases c : j = i
  · subst c
    rw [zu_at, zCpz, zCpz, if_pos (show j < j + 1 by omega)]
    split
    · rename_i h
      rw [show a + (a + j) = a + j by omega]
    · rfl
  · rw [zu_ne c, zCpz, zCpz]
    by_cases d : j < i
    · rw [if_pos d, if_pos (by omega)]
    · rw [if_neg d, if_neg (by omega)]
theorem zCpz_at {sd : Nat → Nat} {a n j : Nat} (h : j < n) : zCpz sd a n j = sd (a + j) := by rw [zCpz, if_pos h]
theorem zCpz_le {sd : Nat → Nat} {a n b : Nat} (h : ∀ k, sd k ≤ b) : ∀ k, zCpz sd a n k ≤ b := fun k => by
  rw [zCpz]
  split <;> exact h _
theorem zKb0 (kf : Nat → Nat) (k : Nat) : upd (zf kf) k (vp_nar .boolean 0) = zf (zu kf k 0) := (congrArg (upd (zf kf) k) (show vp_nar .boolean 0 = nI 0 by decide)).trans (zf_upd kf k 0)
theorem zNmQ_ge {tb : Nat → Nat} {tx q lo hi : Nat} : q ≤ zNmQ tb tx q lo hi := by
  rw [zNmQ]
  split
  · exact Nat.le_trans (zSkip_ge zBlank tb tx q) zTokSE
  · exact Nat.le_refl _
theorem zTokE_ge {tb : Nat → Nat} {tx q : Nat} : q ≤ zTokE tb tx q := Nat.le_trans (zSkip_ge zBlank tb tx q) zTokSE
theorem zN3Q_ge {tb : Nat → Nat} {tx q a b c d e f : Nat} : q ≤ zN3Q tb tx q a b c d e f := by
  rw [zN3Q]
  split
  · split
    · exact Nat.le_trans zNmQ_ge (Nat.le_trans zNmQ_ge zNmQ_ge)
    · exact Nat.le_trans zNmQ_ge zNmQ_ge
  · exact zNmQ_ge
theorem zItQ_ge {tb : Nat → Nat} {tx q : Nat} {P : zPl} : q ≤ zItQ tb tx q P := by
  have h1 : q ≤ zTokE tb tx q := zTokE_ge
  have h2 : zTokE tb tx q ≤ zTokE tb tx (zTokE tb tx q) := zTokE_ge
  have t1 : q ≤ zCkQ tb tx q P.fct := by rw [zCkQ]; split; exact Nat.le_trans h1 zNmQ_ge; exact Nat.le_refl _
  have t2 : q ≤ zPeQ tb tx q P.fnp := by rw [zPeQ]; split; exact h1; exact Nat.le_refl _
  have t3 : ∀ lo hi, q ≤ zWyQ tb tx q lo hi P.fnp P.fwc := fun lo hi => by rw [zWyQ]; split; exact Nat.le_trans h1 zN3Q_ge; exact Nat.le_refl _
  have t4 : q ≤ zMaQ tb tx q P.fnm := by rw [zMaQ]; split; exact Nat.le_trans h1 zN3Q_ge; exact Nat.le_refl _
  have t5 : q ≤ zWkQ tb tx q P.fnw := by
    rw [zWkQ]
    split
    · split
      · split
        · exact Nat.le_trans (Nat.le_trans h1 h2) (Nat.le_trans zNmQ_ge zNmQ_ge)
        · exact Nat.le_trans (Nat.le_trans h1 h2) zNmQ_ge
      · exact h1
    · exact Nat.le_refl _
  rw [zItQ]
  split
  · exact t1
  · split
    · exact t2
    · split
      · exact t3 _ _
      · split
        · exact t3 _ _
        · split
          · exact t4
          · split
            · exact t5
            · exact Nat.le_refl _
theorem zTokE_stop {tb : Nat → Nat} {tx q : Nat} (h : zTokK tb tx q = 1) : q + 1 ≤ zTokE tb tx q := by
  have hs : q ≤ zTokS tb tx q := zSkip_ge zBlank tb tx q
  rw [zTokK] at h
  by_cases c1 : zTokS tb tx q < tx
  · rw [if_pos c1] at h
    by_cases c2 : zLetter (tb (zTokS tb tx q)) = true
    · rw [if_pos c2] at h; exact absurd h (by decide)
    · rw [if_neg c2] at h
      by_cases c3 : zDigit (tb (zTokS tb tx q)) = true
      · rw [if_pos c3] at h
        split at h <;> exact absurd h (by decide)
      · rw [zTokE, if_pos c1, if_neg c2, if_neg c3]; omega
  · rw [if_neg c1] at h; exact absurd h (by decide)
/-- what is known at the head of the model's loop -/
abbrev zDyI (tb : Nat → Nat) (tx : Nat) (ZR : Int × Nat × zPl) (n q it f : Nat) (P : zPl) (xh : Nat) (ck pe wy wa mr mh wo wk : Nat → Nat) : Prop := (f = 401 → ZR = zItems tb tx n q it P ∧ zSc P xh ck pe wy wa mr mh wo wk ∧ zPlOk P ∧ it ≤ q ∧ it + n = 401) ∧ (f ≠ 401 → ZR.1 = -10 - (f : Int))
theorem zDay_s {tb : Nat → Nat} {tx n q it q9 f9 xh9 : Nat} {ZR : Int × Nat × zPl} {P : zPl} {ck9 pe9 wy9 wa9 mr9 mh9 wo9 wk9 : Nat → Nat} (ht : tx ≤ 400) (hq : q ≤ tx) (h1 : ZR = zItems tb tx n q it P) (h2 : zPlOk P) (h3 : it ≤ q) (h4 : it + n = 401) (hk : zTokK tb tx q ≠ 0) (hG : zItG tb tx q P q9 f9 xh9 ck9 pe9 wy9 wa9 mr9 mh9 wo9 wk9) : zDyI tb tx ZR (n - 1) q9 (it + 1) f9 (zItP tb tx q P) xh9 ck9 pe9 wy9 wa9 mr9 mh9 wo9 wk9 := by
  obtain ⟨r, rfl⟩ : ∃ r, n = r + 1 := ⟨n - 1, by omega⟩
  rw [Nat.add_sub_cancel]
  rw [zItems, if_neg hk] at h1
  have hl : zTokS tb tx (zItQ tb tx q P) ≤ tx := zItS hq
  by_cases o : zItO tb tx q P ∧ zTokK tb tx (zItQ tb tx q P) = 1
  · rw [if_pos o] at h1
    obtain ⟨e1, e2, e3⟩ := hG.1 o
    refine ⟨fun _ => ⟨by rw [e2]; exact h1, e3, zItP_ok h2, ?_, by omega⟩, fun g => absurd e1 g⟩
    have g1 := zTokE_stop o.2
    have g2 : q ≤ zItQ tb tx q P := zItQ_ge
    omega
  · rw [if_neg o] at h1
    have e := hG.2 o
    refine ⟨fun g => by omega, fun _ => ?_⟩
    rw [h1, e]
theorem zDay_z {tb : Nat → Nat} {tx n q it : Nat} {ZR : Int × Nat × zPl} {P : zPl} (h1 : ZR = zItems tb tx n q it P) (h3 : it ≤ q) (hq : q ≤ tx) (ht : tx ≤ 400) (h4 : it + n = 401) (hk : zTokK tb tx q = 0) : ZR = ((it : Int), q, P) := by
  obtain ⟨r, rfl⟩ : ∃ r, n = r + 1 := ⟨n - 1, by omega⟩
  rw [h1, zItems, if_pos hk]
theorem zDay_e {P : zPl} {xh : Nat} {ck pe wy wa mr mh wo wk : Nat → Nat} (h : zSc P xh ck pe wy wa mr mh wo wk) (hp : zPlOk P) : zMB P.fhs P.fnp P.fnm P.fwc P.fwp P.fmp (zu ck 0 (ck 1)) (zu pe 0 (pe 1)) (zCpz wy 6 6) (zCpz wa 96 96) (zu mr 0 (mr 1)) (zCpz mh 12 12) ∧ zMW P.fnw P.fkp (zu wo 0 (wo 1)) (zCpz wk 18 18) := by
  obtain ⟨a1, a2, a3, a4, a5, a6, a7, a8, a9⟩ := h
  obtain ⟨-, -, p1, p2, p3, p4, -⟩ := hp
  refine ⟨⟨by rw [zu_at, a2], by rw [zu_at, a3], by rw [zu_at, a4], fun p hp => ?_, fun p hp k hk j hj => ?_, fun m hm j hj => ?_⟩, by rw [zu_at, a5], fun w hw j hj => ?_⟩
  · rw [zCpz_at (by omega)]; exact a6 p hp
  · have := p4 p
    rw [zCpz_at (by omega), ← a7 p hp k hk j hj]
    congr 1; omega
  · rw [zCpz_at (by omega), ← a8 m hm j hj]
    congr 1; omega
  · rw [zCpz_at (by omega), ← a9 w hw j hj]
    congr 1; omega
theorem zSc_0 {wc wp mp kp ck pe wy wa mr mh wo wk : Nat → Nat} : zSc (0, 90, 0, 0, 0, wc, wp, mp, kp) 0 (zu ck 1 90) (zu pe 1 0) wy wa (zu mr 1 0) mh (zu wo 1 0) wk := by
  refine ⟨rfl, zu_at _ _ _, zu_at _ _ _, zu_at _ _ _, zu_at _ _ _, fun p hp => ?_, fun p hp => ?_, fun p hp => ?_, fun p hp => ?_⟩
  · exact absurd (show p < 0 from hp) (Nat.not_lt_zero p)
  · exact absurd (show p < 0 from hp) (Nat.not_lt_zero p)
  · exact absurd (show p < 0 from hp) (Nat.not_lt_zero p)
  · exact absurd (show p < 0 from hp) (Nat.not_lt_zero p)
def zStO (c : Prop) (tb : Nat → Nat) (tx q f q9 f9 : Nat) : Prop := zStep c tb tx q f q9 f9
theorem zStO_i {c : Prop} {tb : Nat → Nat} {tx q f q9 f9 : Nat} (h : zStep c tb tx q f q9 f9) : zStO c tb tx q f q9 f9 := h
theorem zII {a c : Nat} {b : Int} (h : ¬ (a : Int) ≠ b) (e : b = (c : Int)) : a = c := by omega
theorem zIJ {a c : Nat} {b : Int} (h : (a : Int) = b) (e : b = (c : Int)) : a = c := by omega
theorem zIN {a c : Nat} {b : Int} (h : (a : Int) ≠ b) (e : b = (c : Int)) : ¬ a = c := by omega
