/-! SPEC 20: an item of the model, and what is read so far -/
def zSc (P : zPl) (xh : Nat) (ck pe wy wa mr mh wo wk : Nat → Nat) : Prop := xh = P.fct ∧ ck 1 = P.fhs ∧ pe 1 = P.fnp ∧ mr 1 = P.fnm ∧ wo 1 = P.fnw ∧ (∀ p, p < P.fnp → wy (6 + p) = P.fwc p) ∧ (∀ p, p < P.fnp → ∀ k, k < P.fwc p → ∀ j, j < 4 → wa (96 + 16 * p + 4 * k + j) = P.fwp (16 * p + 4 * k + j)) ∧ (∀ m, m < P.fnm → ∀ j, j < 3 → mh (12 + 3 * m + j) = P.fmp (3 * m + j)) ∧ (∀ w, w < P.fnw → ∀ j, j < 3 → wk (18 + 3 * w + j) = P.fkp (3 * w + j))
def zHf (ck pe wy wa mr mh wo wk ck9 pe9 wy9 wa9 mr9 mh9 wo9 wk9 : Nat → Nat) : Prop := ck9 0 = ck 0 ∧ pe9 0 = pe 0 ∧ (∀ k, k < 6 → wy9 k = wy k) ∧ (∀ k, k < 96 → wa9 k = wa k) ∧ mr9 0 = mr 0 ∧ (∀ k, k < 12 → mh9 k = mh k) ∧ wo9 0 = wo 0 ∧ (∀ k, k < 18 → wk9 k = wk k)
theorem zHf_r (ck pe wy wa mr mh wo wk : Nat → Nat) : zHf ck pe wy wa mr mh wo wk ck pe wy wa mr mh wo wk := ⟨rfl, rfl, fun _ _ => rfl, fun _ _ => rfl, rfl, fun _ _ => rfl, rfl, fun _ _ => rfl⟩
theorem zHf_t {ck pe wy wa mr mh wo wk ck9 pe9 wy9 wa9 mr9 mh9 wo9 wk9 ck8 pe8 wy8 wa8 mr8 mh8 wo8 wk8 : Nat → Nat} (h : zHf ck pe wy wa mr mh wo wk ck9 pe9 wy9 wa9 mr9 mh9 wo9 wk9) (k : zHf ck9 pe9 wy9 wa9 mr9 mh9 wo9 wk9 ck8 pe8 wy8 wa8 mr8 mh8 wo8 wk8) : zHf ck pe wy wa mr mh wo wk ck8 pe8 wy8 wa8 mr8 mh8 wo8 wk8 := by
  obtain ⟨a1, a2, a3, a4, a5, a6, a7, a8⟩ := h
  obtain ⟨b1, b2, b3, b4, b5, b6, b7, b8⟩ := k
  exact ⟨b1.trans a1, b2.trans a2, fun k hk => (b3 k hk).trans (a3 k hk), fun k hk => (b4 k hk).trans (a4 k hk), b5.trans a5, fun k hk => (b6 k hk).trans (a6 k hk), b7.trans a7, fun k hk => (b8 k hk).trans (a8 k hk)⟩
def zItG (tb : Nat → Nat) (tx q : Nat) (P : zPl) (q9 f9 xh9 : Nat) (ck9 pe9 wy9 wa9 mr9 mh9 wo9 wk9 : Nat → Nat) : Prop := (zItO tb tx q P ∧ zTokK tb tx (zItQ tb tx q P) = 1 → f9 = 401 ∧ q9 = zTokE tb tx (zItQ tb tx q P) ∧ zSc (zItP tb tx q P) xh9 ck9 pe9 wy9 wa9 mr9 mh9 wo9 wk9) ∧ (¬ (zItO tb tx q P ∧ zTokK tb tx (zItQ tb tx q P) = 1) → f9 = zTokS tb tx (zItQ tb tx q P))
theorem zFin {O : Prop} {tb : Nat → Nat} {tx Q q2 f2 q3 f3 bb : Nat} (hO : O → q2 = Q ∧ f2 = 401) (hN : ¬ O → f2 = zTokS tb tx Q) (hS : zStep (bb = 1) tb tx q2 f2 q3 f3) (hb : bb = 1 ↔ zSrt tb tx q2 = 10) (hl : zTokS tb tx Q ≤ tx) (ht : tx ≤ 400) : (O ∧ zTokK tb tx Q = 1 → f3 = 401 ∧ q3 = zTokE tb tx Q) ∧ (¬ (O ∧ zTokK tb tx Q = 1) → f3 = zTokS tb tx Q) := by
  have w := (zSrt_w (tb := tb) (tx := tx) (q := Q)).2.2.2.2.2.2.2.2.2.2
  obtain ⟨s1, s2, s3, s4, s5⟩ := hS
  by_cases o : O
  · obtain ⟨e1, e2⟩ := hO o
    rw [e1] at s1 s2 hb
    constructor
    · intro g
      have h := s1 e2 (hb.mpr (w.mp g.2))
      exact ⟨h.2, h.1⟩
    · intro g
      exact (s2 e2 (fun h => g ⟨o, w.mpr (hb.mp h)⟩)).2
  · have e := hN o
    have h := s3 (by omega)
    exact ⟨fun g => absurd g.1 o, fun _ => by omega⟩
theorem zBb1 {a b : Nat} (h : a = b) : (1 = 1 ↔ a = b) := ⟨fun _ => h, fun _ => rfl⟩
theorem zBb0 {a b : Nat} (h : ¬ a = b) : (0 = 1 ↔ a = b) := ⟨fun g => absurd g (by decide), fun g => absurd g h⟩
theorem zNm_y {tb : Nat → Nat} {tx q lo hi : Nat} (h : zNmO tb tx q lo hi) : zNmQ tb tx q lo hi = zTokE tb tx q := by rw [zNmQ, if_pos h]
theorem zNm_n {tb : Nat → Nat} {tx q lo hi : Nat} (h : ¬ zNmO tb tx q lo hi) : zNmQ tb tx q lo hi = q := by rw [zNmQ, if_neg h]
theorem zN3_s {tb : Nat → Nat} {tx q q2 f2 q3 f3 q4 f4 a b c d e f : Nat} (ht : tx ≤ 400) (hq : q ≤ tx) (s1 : zStep (zNmO tb tx q a b) tb tx q 401 q2 f2) (s2 : zStep (zNmO tb tx q2 c d) tb tx q2 f2 q3 f3) (s3 : zStep (zNmO tb tx q3 e f) tb tx q3 f3 q4 f4) : (zN3O tb tx q a b c d e f → q4 = zN3Q tb tx q a b c d e f ∧ f4 = 401 ∧ q2 = zNmQ tb tx q a b ∧ q3 = zNmQ tb tx (zNmQ tb tx q a b) c d) ∧ (¬ zN3O tb tx q a b c d e f → f4 = zTokS tb tx (zN3Q tb tx q a b c d e f)) := by
  by_cases n1 : zNmO tb tx q a b
  · have m1 := zNm_y n1
    have l1 : zTokE tb tx q ≤ tx := zTokE_le hq
    obtain ⟨e1, e2⟩ := s1.1 rfl n1
    subst e1
    subst e2
    by_cases n2 : zNmO tb tx (zTokE tb tx q) c d
    · have m2 := zNm_y n2
      have l2 : zTokE tb tx (zTokE tb tx q) ≤ tx := zTokE_le l1
      obtain ⟨e1, e2⟩ := s2.1 rfl n2
      subst e1
      subst e2
      by_cases n3 : zNmO tb tx (zTokE tb tx (zTokE tb tx q)) e f
      · have e3 := s3.1 rfl n3
        refine ⟨fun _ => ⟨?_, e3.2, m1.symm, by rw [m1, m2]⟩, fun g => absurd ⟨n1, by rw [m1]; exact n2, by rw [m1, m2]; exact n3⟩ g⟩
        rw [zN3Q, if_pos n1, m1, if_pos n2, m2, zNm_y n3]
        exact e3.1
      · have e3 := s3.2.1 rfl n3
        refine ⟨fun g => absurd (by have h := g.2.2; rw [m1, m2] at h; exact h) n3, fun _ => ?_⟩
        rw [zN3Q, if_pos n1, m1, if_pos n2, m2, zNm_n n3]
        exact e3.2
    · have e2 := s2.2.1 rfl n2
      have l3 : zTokS tb tx (zTokE tb tx q) ≤ tx := zTokS_le l1
      have e3 := s3.2.2.1 (by omega)
      refine ⟨fun g => absurd (by have h := g.2.1; rw [m1] at h; exact h) n2, fun _ => ?_⟩
      rw [zN3Q, if_pos n1, m1, if_neg n2, zNm_n n2]
      omega
  · have e1 := s1.2.1 rfl n1
    have l3 : zTokS tb tx q ≤ tx := zTokS_le hq
    have e2 := s2.2.2.1 (by omega)
    have e3 := s3.2.2.1 (by omega)
    refine ⟨fun g => absurd g.1 n1, fun _ => ?_⟩
    rw [zN3Q, if_neg n1, zNm_n n1]
    omega
theorem zItS {tb : Nat → Nat} {tx q : Nat} {P : zPl} (hq : q ≤ tx) : zTokS tb tx (zItQ tb tx q P) ≤ tx := zTokS_le (zItQ_le hq)
/-- the clock -/
theorem zIt0 {tb : Nat → Nat} {tx q q2 f2 q3 f3 bb xh : Nat} {P : zPl} {ck pe wy wa mr mh wo wk : Nat → Nat} (hs : zSrt tb tx q = 0) (hx : xh = 0) (ht : tx ≤ 400) (hq : q ≤ tx) (hSc : zSc P xh ck pe wy wa mr mh wo wk) (s1 : zStep (zNmO tb tx (zTokE tb tx q) 10 999) tb tx (zTokE tb tx q) 401 q2 f2) (s2 : zStep (bb = 1) tb tx q2 f2 q3 f3) (hb : bb = 1 ↔ zSrt tb tx q2 = 10) : zItG tb tx q P q3 f3 1 (zu ck 1 (zVal tb tx (zTokE tb tx q))) pe wy wa mr mh wo wk := by
  have w0 : zWd tb tx q 0 := zSrt_w.1.mpr hs
  have hct : P.fct = 0 := by have := hSc.1; omega
  have hO : zItO tb tx q P ↔ zNmO tb tx (zTokE tb tx q) 10 999 := by
    show (if zWd tb tx q 0 then zCkO tb tx q P.fct else _) ↔ _
    rw [if_pos w0]
    exact ⟨fun g => g.2, fun g => ⟨hct, g⟩⟩
  have hQ : zItQ tb tx q P = zNmQ tb tx (zTokE tb tx q) 10 999 := by rw [zItQ, if_pos w0, zCkQ, if_pos hct]
  have hI : zItP tb tx q P = (1, zCkH tb tx q P.fct P.fhs, P.fnp, P.fnm, P.fnw, P.fwc, P.fwp, P.fmp, P.fkp) := by rw [zItP, if_pos w0]
  have fin := zFin (O := zItO tb tx q P) (Q := zItQ tb tx q P) (fun o => by rw [hQ, zNm_y (hO.mp o)]; exact s1.1 rfl (hO.mp o)) (fun o => by have n : ¬ zNmO tb tx (zTokE tb tx q) 10 999 := fun g => o (hO.mpr g); rw [hQ, zNm_n n]; exact (s1.2.1 rfl n).2) s2 hb (zItS hq) ht
  refine ⟨fun g => ⟨(fin.1 g).1, (fin.1 g).2, ?_⟩, fin.2⟩
  have n := hO.mp g.1
  obtain ⟨a1, a2, a3, a4, a5, a6, a7, a8, a9⟩ := hSc
  rw [hI]
  refine ⟨rfl, ?_, a3, a4, a5, a6, a7, a8, a9⟩
  show zu ck 1 (zVal tb tx (zTokE tb tx q)) 1 = zCkH tb tx q P.fct P.fhs
  rw [zu_at, zCkH, if_pos ⟨hct, n⟩, zVal_n n.1]
/-- a person -/
theorem zIt1 {tb : Nat → Nat} {tx q q3 f3 bb xh : Nat} {P : zPl} {ck pe wy wa mr mh wo wk : Nat → Nat} (hs : zSrt tb tx q = 1) (hx : pe 1 < 6) (ht : tx ≤ 400) (hq : q ≤ tx) (hSc : zSc P xh ck pe wy wa mr mh wo wk) (s2 : zStep (bb = 1) tb tx (zTokE tb tx q) 401 q3 f3) (hb : bb = 1 ↔ zSrt tb tx (zTokE tb tx q) = 10) : zItG tb tx q P q3 f3 xh ck (zu pe 1 (pe 1 + 1)) (zu wy (6 + pe 1) 0) wa mr mh wo wk := by
  have w := zSrt_w (tb := tb) (tx := tx) (q := q)
  have w0 : ¬ zWd tb tx q 0 := fun g => by have := w.1.mp g; omega
  have w1 : zWd tb tx q 1 := w.2.1.mpr hs
  obtain ⟨a1, a2, a3, a4, a5, a6, a7, a8, a9⟩ := hSc
  have hnp : P.fnp < 6 := by omega
  have hO : zItO tb tx q P := by
    show (if zWd tb tx q 0 then zCkO tb tx q P.fct else if zWd tb tx q 1 then P.fnp < 6 else _)
    rw [if_neg w0, if_pos w1]
    exact hnp
  have hQ : zItQ tb tx q P = zTokE tb tx q := by rw [zItQ, if_neg w0, if_pos w1, zPeQ, if_pos hnp]
  have hI : zItP tb tx q P = (P.fct, P.fhs, P.fnp + 1, P.fnm, P.fnw, zu P.fwc P.fnp 0, P.fwp, P.fmp, P.fkp) := by rw [zItP, if_neg w0, if_pos w1, zPeN, if_pos hnp, zPeW, if_pos hnp]
  have fin := zFin (O := zItO tb tx q P) (Q := zItQ tb tx q P) (fun _ => ⟨hQ.symm, rfl⟩) (fun o => absurd hO o) s2 hb (zItS hq) ht
  refine ⟨fun g => ⟨(fin.1 g).1, (fin.1 g).2, ?_⟩, fin.2⟩
  rw [hI]
  refine ⟨a1, a2, ?_, a4, a5, ?_, ?_, a8, a9⟩
  · show zu pe 1 (pe 1 + 1) 1 = P.fnp + 1
    rw [zu_at, a3]
  · intro p hp
    have hp : p < P.fnp + 1 := hp
    show zu wy (6 + pe 1) 0 (6 + p) = zu P.fwc P.fnp 0 p
    by_cases c : p = P.fnp
    · rw [c, a3, zu_at, zu_at]
    · rw [zu_ne (by omega), zu_ne c]
      exact a6 p (by omega)
  · intro p hp k hk j hj
    have hp : p < P.fnp + 1 := hp
    have hk : k < zu P.fwc P.fnp 0 p := hk
    by_cases c : p = P.fnp
    · rw [c, zu_at] at hk; omega
    · rw [zu_ne c] at hk
      exact a7 p (by omega) k hk j hj
/-- a way -/
theorem zItW {tb : Nat → Nat} {tx q q2 f2 q3 f3 q4 f4 q5 f5 bb xh ki lo hi : Nat} {P : zPl} {ck pe wy wa mr mh wo wk : Nat → Nat} (hO : zItO tb tx q P ↔ zWyO tb tx q lo hi P.fnp P.fwc) (hQ : zItQ tb tx q P = zWyQ tb tx q lo hi P.fnp P.fwc) (hI : zItP tb tx q P = (P.fct, P.fhs, P.fnp, P.fnm, P.fnw, zWyW tb tx q lo hi P.fnp P.fwc, zWyV tb tx q ki lo hi P.fnp P.fwc P.fwp, P.fmp, P.fkp)) (hx : 0 < pe 1 ∧ wy (6 + pe 1 - 1) < 4) (hwc : ∀ k, P.fwc k ≤ 4) (ht : tx ≤ 400) (hq : q ≤ tx) (hSc : zSc P xh ck pe wy wa mr mh wo wk) (s1 : zStep (zNmO tb tx (zTokE tb tx q) lo hi) tb tx (zTokE tb tx q) 401 q2 f2) (s2 : zStep (zNmO tb tx q2 1 999) tb tx q2 f2 q3 f3) (s3 : zStep (zNmO tb tx q3 1 99) tb tx q3 f3 q4 f4) (s4 : zStep (bb = 1) tb tx q4 f4 q5 f5) (hb : bb = 1 ↔ zSrt tb tx q4 = 10) : zItG tb tx q P q5 f5 xh ck pe (zu wy (6 + pe 1 - 1) (wy (6 + pe 1 - 1) + 1)) (zu (zu (zu (zu wa (16 * (6 + pe 1 - 1) + 4 * wy (6 + pe 1 - 1)) ki) (16 * (6 + pe 1 - 1) + 4 * wy (6 + pe 1 - 1) + 1) (zVal tb tx (zTokE tb tx q))) (16 * (6 + pe 1 - 1) + 4 * wy (6 + pe 1 - 1) + 2) (zVal tb tx q2)) (16 * (6 + pe 1 - 1) + 4 * wy (6 + pe 1 - 1) + 3) (zVal tb tx q3)) mr mh wo wk := by
  obtain ⟨a1, a2, a3, a4, a5, a6, a7, a8, a9⟩ := hSc
  have hc0 : wy (6 + pe 1 - 1) = P.fwc (P.fnp - 1) := by
    rw [← a6 (P.fnp - 1) (by omega), show 6 + pe 1 - 1 = 6 + (P.fnp - 1) by omega]
  have hC : zWyC P.fnp P.fwc := ⟨by omega, by omega⟩
  have n3 := zN3_s ht (zTokE_le hq) s1 s2 s3
  have hO2 : zItO tb tx q P ↔ zN3O tb tx (zTokE tb tx q) lo hi 1 999 1 99 := hO.trans ⟨fun g => g.2, fun g => ⟨hC, g⟩⟩
  have hQ2 : zItQ tb tx q P = zN3Q tb tx (zTokE tb tx q) lo hi 1 999 1 99 := by rw [hQ, zWyQ, if_pos hC]
  have fin := zFin (O := zItO tb tx q P) (Q := zItQ tb tx q P) (fun o => by rw [hQ2]; exact ⟨(n3.1 (hO2.mp o)).1, (n3.1 (hO2.mp o)).2.1⟩) (fun o => by rw [hQ2]; exact n3.2 (fun g => o (hO2.mpr g))) s4 hb (zItS hq) ht
  refine ⟨fun g => ⟨(fin.1 g).1, (fin.1 g).2, ?_⟩, fin.2⟩
  have o := hO2.mp g.1
  obtain ⟨-, -, e2, e3⟩ := n3.1 o
  have v1 := zVal_n (tb := tb) (tx := tx) o.1.1
  have v2 := zVal_n (tb := tb) (tx := tx) o.2.1.1
  have v3 := zVal_n (tb := tb) (tx := tx) o.2.2.1
  have hcl := hwc (P.fnp - 1)
  rw [hI, v1, e2, v2, e3, v3, hc0]
  have hWy : zWyO tb tx q lo hi P.fnp P.fwc := ⟨hC, o⟩
  refine ⟨a1, a2, a3, a4, a5, ?_, ?_, a8, a9⟩
  · intro p hp
    have hp : p < P.fnp := hp
    show zu wy (6 + pe 1 - 1) (P.fwc (P.fnp - 1) + 1) (6 + p) = zWyW tb tx q lo hi P.fnp P.fwc p
    rw [zWyW, if_pos hWy]
    by_cases c : p = P.fnp - 1
    · rw [show 6 + p = 6 + pe 1 - 1 by omega, zu_at, c, zu_at]
    · rw [zu_ne (by omega), zu_ne c]
      exact a6 p hp
  · intro p hp k hk j hj
    have hp : p < P.fnp := hp
    have hk : k < zWyW tb tx q lo hi P.fnp P.fwc p := hk
    show _ = zWyV tb tx q ki lo hi P.fnp P.fwc P.fwp (16 * p + 4 * k + j)
    rw [zWyW, if_pos hWy] at hk
    rw [zWyV, if_pos hWy]
    have hpl := hwc p
    by_cases c : p = P.fnp - 1
    · rw [c, zu_at] at hk
      by_cases c2 : k = P.fwc (P.fnp - 1)
      · subst c
        rw [c2]
        rcases (show j = 0 ∨ j = 1 ∨ j = 2 ∨ j = 3 by omega) with e | e | e | e <;> subst e
        · rw [zu_ne (by omega), zu_ne (by omega), zu_ne (by omega), show 96 + 16 * (P.fnp - 1) + 4 * P.fwc (P.fnp - 1) + 0 = 16 * (6 + pe 1 - 1) + 4 * P.fwc (P.fnp - 1) by omega, zu_at, zu_ne (by omega), zu_ne (by omega), zu_ne (by omega), Nat.add_zero, zu_at]
        · rw [zu_ne (by omega), zu_ne (by omega), show 96 + 16 * (P.fnp - 1) + 4 * P.fwc (P.fnp - 1) + 1 = 16 * (6 + pe 1 - 1) + 4 * P.fwc (P.fnp - 1) + 1 by omega, zu_at, zu_ne (by omega), zu_ne (by omega), zu_at]
        · rw [zu_ne (by omega), show 96 + 16 * (P.fnp - 1) + 4 * P.fwc (P.fnp - 1) + 2 = 16 * (6 + pe 1 - 1) + 4 * P.fwc (P.fnp - 1) + 2 by omega, zu_at, zu_ne (by omega), zu_at]
        · rw [show 96 + 16 * (P.fnp - 1) + 4 * P.fwc (P.fnp - 1) + 3 = 16 * (6 + pe 1 - 1) + 4 * P.fwc (P.fnp - 1) + 3 by omega, zu_at, zu_at]
      · subst c
        rw [zu_ne (by omega), zu_ne (by omega), zu_ne (by omega), zu_ne (by omega), zu_ne (by omega), zu_ne (by omega), zu_ne (by omega), zu_ne (by omega)]
        exact a7 _ hp k (by omega) j hj
    · rw [zu_ne c] at hk
      rw [zu_ne (by omega), zu_ne (by omega), zu_ne (by omega), zu_ne (by omega), zu_ne (by omega), zu_ne (by omega), zu_ne (by omega), zu_ne (by omega)]
      exact a7 p hp k hk j hj
