/-! SPEC 21: marches, works, what may not stand -/
theorem zIt2 {tb : Nat → Nat} {tx q q2 f2 q3 f3 q4 f4 q5 f5 bb xh : Nat} {P : zPl} {ck pe wy wa mr mh wo wk : Nat → Nat} (hs : zSrt tb tx q = 2) (hx : 0 < pe 1 ∧ wy (6 + pe 1 - 1) < 4) (hwc : ∀ k, P.fwc k ≤ 4) (ht : tx ≤ 400) (hq : q ≤ tx) (hSc : zSc P xh ck pe wy wa mr mh wo wk) (s1 : zStep (zNmO tb tx (zTokE tb tx q) 0 239) tb tx (zTokE tb tx q) 401 q2 f2) (s2 : zStep (zNmO tb tx q2 1 999) tb tx q2 f2 q3 f3) (s3 : zStep (zNmO tb tx q3 1 99) tb tx q3 f3 q4 f4) (s4 : zStep (bb = 1) tb tx q4 f4 q5 f5) (hb : bb = 1 ↔ zSrt tb tx q4 = 10) : zItG tb tx q P q5 f5 xh ck pe (zu wy (6 + pe 1 - 1) (wy (6 + pe 1 - 1) + 1)) (zu (zu (zu (zu wa (16 * (6 + pe 1 - 1) + 4 * wy (6 + pe 1 - 1)) 0) (16 * (6 + pe 1 - 1) + 4 * wy (6 + pe 1 - 1) + 1) (zVal tb tx (zTokE tb tx q))) (16 * (6 + pe 1 - 1) + 4 * wy (6 + pe 1 - 1) + 2) (zVal tb tx q2)) (16 * (6 + pe 1 - 1) + 4 * wy (6 + pe 1 - 1) + 3) (zVal tb tx q3)) mr mh wo wk := by
  have w := zSrt_w (tb := tb) (tx := tx) (q := q)
  have w0 : ¬ zWd tb tx q 0 := fun g => by have := w.1.mp g; omega
  have w1 : ¬ zWd tb tx q 1 := fun g => by have := w.2.1.mp g; omega
  have w2 : zWd tb tx q 2 := w.2.2.1.mpr hs
  refine zItW ?_ ?_ ?_ hx hwc ht hq hSc s1 s2 s3 s4 hb
  · show (if zWd tb tx q 0 then zCkO tb tx q P.fct else if zWd tb tx q 1 then P.fnp < 6 else if zWd tb tx q 2 then zWyO tb tx q 0 239 P.fnp P.fwc else _) ↔ _
    rw [if_neg w0, if_neg w1, if_pos w2]
  · rw [zItQ, if_neg w0, if_neg w1, if_pos w2]
  · rw [zItP, if_neg w0, if_neg w1, if_pos w2]
theorem zIt3 {tb : Nat → Nat} {tx q q2 f2 q3 f3 q4 f4 q5 f5 bb xh : Nat} {P : zPl} {ck pe wy wa mr mh wo wk : Nat → Nat} (hs : zSrt tb tx q = 3) (hx : 0 < pe 1 ∧ wy (6 + pe 1 - 1) < 4) (hwc : ∀ k, P.fwc k ≤ 4) (ht : tx ≤ 400) (hq : q ≤ tx) (hSc : zSc P xh ck pe wy wa mr mh wo wk) (s1 : zStep (zNmO tb tx (zTokE tb tx q) 1 99) tb tx (zTokE tb tx q) 401 q2 f2) (s2 : zStep (zNmO tb tx q2 1 999) tb tx q2 f2 q3 f3) (s3 : zStep (zNmO tb tx q3 1 99) tb tx q3 f3 q4 f4) (s4 : zStep (bb = 1) tb tx q4 f4 q5 f5) (hb : bb = 1 ↔ zSrt tb tx q4 = 10) : zItG tb tx q P q5 f5 xh ck pe (zu wy (6 + pe 1 - 1) (wy (6 + pe 1 - 1) + 1)) (zu (zu (zu (zu wa (16 * (6 + pe 1 - 1) + 4 * wy (6 + pe 1 - 1)) 1) (16 * (6 + pe 1 - 1) + 4 * wy (6 + pe 1 - 1) + 1) (zVal tb tx (zTokE tb tx q))) (16 * (6 + pe 1 - 1) + 4 * wy (6 + pe 1 - 1) + 2) (zVal tb tx q2)) (16 * (6 + pe 1 - 1) + 4 * wy (6 + pe 1 - 1) + 3) (zVal tb tx q3)) mr mh wo wk := by
  have w := zSrt_w (tb := tb) (tx := tx) (q := q)
  have w0 : ¬ zWd tb tx q 0 := fun g => by have := w.1.mp g; omega
  have w1 : ¬ zWd tb tx q 1 := fun g => by have := w.2.1.mp g; omega
  have w2 : ¬ zWd tb tx q 2 := fun g => by have := w.2.2.1.mp g; omega
  have w3 : zWd tb tx q 3 := w.2.2.2.1.mpr hs
  refine zItW ?_ ?_ ?_ hx hwc ht hq hSc s1 s2 s3 s4 hb
  · show (if zWd tb tx q 0 then zCkO tb tx q P.fct else if zWd tb tx q 1 then P.fnp < 6 else if zWd tb tx q 2 then zWyO tb tx q 0 239 P.fnp P.fwc else if zWd tb tx q 3 then zWyO tb tx q 1 99 P.fnp P.fwc else _) ↔ _
    rw [if_neg w0, if_neg w1, if_neg w2, if_pos w3]
  · rw [zItQ, if_neg w0, if_neg w1, if_neg w2, if_pos w3]
  · rw [zItP, if_neg w0, if_neg w1, if_neg w2, if_pos w3]
/-- a march -/
theorem zIt4 {tb : Nat → Nat} {tx q q2 f2 q3 f3 q4 f4 q5 f5 bb xh : Nat} {P : zPl} {ck pe wy wa mr mh wo wk : Nat → Nat} (hs : zSrt tb tx q = 4) (hx : mr 1 < 4) (ht : tx ≤ 400) (hq : q ≤ tx) (hSc : zSc P xh ck pe wy wa mr mh wo wk) (s1 : zStep (zNmO tb tx (zTokE tb tx q) 0 239) tb tx (zTokE tb tx q) 401 q2 f2) (s2 : zStep (zNmO tb tx q2 1 240) tb tx q2 f2 q3 f3) (s3 : zStep (zNmO tb tx q3 1 999) tb tx q3 f3 q4 f4) (s4 : zStep (bb = 1) tb tx q4 f4 q5 f5) (hb : bb = 1 ↔ zSrt tb tx q4 = 10) : zItG tb tx q P q5 f5 xh ck pe wy wa (zu mr 1 (mr 1 + 1)) (zu (zu (zu mh (12 + 3 * mr 1) (zVal tb tx (zTokE tb tx q))) (12 + 3 * mr 1 + 1) (zVal tb tx q2)) (12 + 3 * mr 1 + 2) (zVal tb tx q3)) wo wk := by
  have w := zSrt_w (tb := tb) (tx := tx) (q := q)
  have w0 : ¬ zWd tb tx q 0 := fun g => by have := w.1.mp g; omega
  have w1 : ¬ zWd tb tx q 1 := fun g => by have := w.2.1.mp g; omega
  have w2 : ¬ zWd tb tx q 2 := fun g => by have := w.2.2.1.mp g; omega
  have w3 : ¬ zWd tb tx q 3 := fun g => by have := w.2.2.2.1.mp g; omega
  have w4 : zWd tb tx q 4 := w.2.2.2.2.1.mpr hs
  obtain ⟨a1, a2, a3, a4, a5, a6, a7, a8, a9⟩ := hSc
  have hC : P.fnm < 4 := by omega
  have n3 := zN3_s ht (zTokE_le hq) s1 s2 s3
  have hO : zItO tb tx q P ↔ zN3O tb tx (zTokE tb tx q) 0 239 1 240 1 999 := by
    show (if zWd tb tx q 0 then zCkO tb tx q P.fct else if zWd tb tx q 1 then P.fnp < 6 else if zWd tb tx q 2 then zWyO tb tx q 0 239 P.fnp P.fwc else if zWd tb tx q 3 then zWyO tb tx q 1 99 P.fnp P.fwc else if zWd tb tx q 4 then zMaO tb tx q P.fnm else _) ↔ _
    rw [if_neg w0, if_neg w1, if_neg w2, if_neg w3, if_pos w4]
    exact ⟨fun g => g.2, fun g => ⟨hC, g⟩⟩
  have hQ : zItQ tb tx q P = zN3Q tb tx (zTokE tb tx q) 0 239 1 240 1 999 := by rw [zItQ, if_neg w0, if_neg w1, if_neg w2, if_neg w3, if_pos w4, zMaQ, if_pos hC]
  have hI : zItP tb tx q P = (P.fct, P.fhs, P.fnp, zMaN tb tx q P.fnm, P.fnw, P.fwc, P.fwp, zMaV tb tx q P.fnm P.fmp, P.fkp) := by rw [zItP, if_neg w0, if_neg w1, if_neg w2, if_neg w3, if_pos w4]
  have fin := zFin (O := zItO tb tx q P) (Q := zItQ tb tx q P) (fun o => by rw [hQ]; exact ⟨(n3.1 (hO.mp o)).1, (n3.1 (hO.mp o)).2.1⟩) (fun o => by rw [hQ]; exact n3.2 (fun g => o (hO.mpr g))) s4 hb (zItS hq) ht
  refine ⟨fun g => ⟨(fin.1 g).1, (fin.1 g).2, ?_⟩, fin.2⟩
  have o := hO.mp g.1
  obtain ⟨-, -, e2, e3⟩ := n3.1 o
  have v1 := zVal_n (tb := tb) (tx := tx) o.1.1
  have v2 := zVal_n (tb := tb) (tx := tx) o.2.1.1
  have v3 := zVal_n (tb := tb) (tx := tx) o.2.2.1
  have hMa : zMaO tb tx q P.fnm := ⟨hC, o⟩
  rw [hI, v1, e2, v2, e3, v3, a4]
  refine ⟨a1, a2, a3, ?_, a5, a6, a7, ?_, a9⟩
  · show zu mr 1 (P.fnm + 1) 1 = zMaN tb tx q P.fnm
    rw [zu_at, zMaN, if_pos hMa]
  · intro i hi j hj
    have hi : i < zMaN tb tx q P.fnm := hi
    show _ = zMaV tb tx q P.fnm P.fmp (3 * i + j)
    rw [zMaN, if_pos hMa] at hi
    rw [zMaV, if_pos hMa]
    by_cases c : i = P.fnm
    · rw [c]
      rcases (show j = 0 ∨ j = 1 ∨ j = 2 by omega) with e | e | e <;> subst e
      · rw [zu_ne (by omega), zu_ne (by omega), Nat.add_zero, zu_at, zu_ne (by omega), zu_ne (by omega), Nat.add_zero, zu_at]
      · rw [zu_ne (by omega), zu_at, zu_ne (by omega), zu_at]
      · rw [zu_at, zu_at]
    · rw [zu_ne (by omega), zu_ne (by omega), zu_ne (by omega), zu_ne (by omega), zu_ne (by omega), zu_ne (by omega)]
      exact a8 i (by omega) j hj
/-- a work: kd 1 by fire -/
theorem zIt5 {tb : Nat → Nat} {tx q q2 f2 q3 f3 q4 f4 q5 f5 bb bc kd hh xh : Nat} {P : zPl} {ck pe wy wa mr mh wo wk : Nat → Nat} (hs : zSrt tb tx q = 5) (hx : wo 1 < 6) (hk : (kd = 1 ∧ hh = 240 ∧ zSrt tb tx (zTokE tb tx q) = 7) ∨ (kd = 0 ∧ hh = 999 ∧ zSrt tb tx (zTokE tb tx q) ≠ 7)) (ht : tx ≤ 400) (hq : q ≤ tx) (hSc : zSc P xh ck pe wy wa mr mh wo wk) (s1 : zStep (bc = 1) tb tx (zTokE tb tx q) 401 q2 f2) (hbc : bc = 1 ↔ zSrt tb tx (zTokE tb tx q) = 7 ∨ zSrt tb tx (zTokE tb tx q) = 6) (s2 : zStep (zNmO tb tx q2 1 hh) tb tx q2 f2 q3 f3) (s3 : zStep (zNmO tb tx q3 0 99) tb tx q3 f3 q4 f4) (s4 : zStep (bb = 1) tb tx q4 f4 q5 f5) (hb : bb = 1 ↔ zSrt tb tx q4 = 10) : zItG tb tx q P q5 f5 xh ck pe wy wa mr mh (zu wo 1 (wo 1 + 1)) (zu (zu (zu wk (18 + 3 * wo 1) kd) (18 + 3 * wo 1 + 1) (zVal tb tx q2)) (18 + 3 * wo 1 + 2) (zVal tb tx q3)) := by
  have w := zSrt_w (tb := tb) (tx := tx) (q := q)
  have w0 : ¬ zWd tb tx q 0 := fun g => by have := w.1.mp g; omega
  have w1 : ¬ zWd tb tx q 1 := fun g => by have := w.2.1.mp g; omega
  have w2 : ¬ zWd tb tx q 2 := fun g => by have := w.2.2.1.mp g; omega
  have w3 : ¬ zWd tb tx q 3 := fun g => by have := w.2.2.2.1.mp g; omega
  have w4 : ¬ zWd tb tx q 4 := fun g => by have := w.2.2.2.2.1.mp g; omega
  have w5 : zWd tb tx q 5 := w.2.2.2.2.2.1.mpr hs
  have y := zSrt_w (tb := tb) (tx := tx) (q := zTokE tb tx q)
  have y6 := y.2.2.2.2.2.2.1
  have y7 := y.2.2.2.2.2.2.2.1
  obtain ⟨a1, a2, a3, a4, a5, a6, a7, a8, a9⟩ := hSc
  have hC : P.fnw < 6 := by omega
  have hW : zWkW tb tx q ↔ bc = 1 := by
    rw [hbc]
    show (zWd tb tx (zTokE tb tx q) 6 ∨ zWd tb tx (zTokE tb tx q) 7) ↔ _
    rw [y6, y7]
  have hH : zWkH tb tx q = hh := by
    rw [zWkH]
    rcases hk with ⟨k1, k2, k3⟩ | ⟨k1, k2, k3⟩
    · rw [if_pos (y6.mpr k3), k2]
    · rw [if_neg (fun g => k3 (y6.mp g)), k2]
  have hI1 : zWkI tb tx q = kd := by
    rw [zWkI]
    rcases hk with ⟨k1, k2, k3⟩ | ⟨k1, k2, k3⟩
    · rw [if_pos (y6.mpr k3), k1]
    · rw [if_neg (fun g => k3 (y6.mp g)), k1]
  have hO : zItO tb tx q P ↔ zWkO tb tx q P.fnw := by
    show (if zWd tb tx q 0 then zCkO tb tx q P.fct else if zWd tb tx q 1 then P.fnp < 6 else if zWd tb tx q 2 then zWyO tb tx q 0 239 P.fnp P.fwc else if zWd tb tx q 3 then zWyO tb tx q 1 99 P.fnp P.fwc else if zWd tb tx q 4 then zMaO tb tx q P.fnm else if zWd tb tx q 5 then zWkO tb tx q P.fnw else _) ↔ _
    rw [if_neg w0, if_neg w1, if_neg w2, if_neg w3, if_neg w4, if_pos w5]
  have hQ : zItQ tb tx q P = zWkQ tb tx q P.fnw := by rw [zItQ, if_neg w0, if_neg w1, if_neg w2, if_neg w3, if_neg w4, if_pos w5]
  have hI : zItP tb tx q P = (P.fct, P.fhs, P.fnp, P.fnm, zWkM tb tx q P.fnw, P.fwc, P.fwp, P.fmp, zWkV tb tx q P.fnw P.fkp) := by rw [zItP, if_neg w0, if_neg w1, if_neg w2, if_neg w3, if_neg w4, if_pos w5]
  have l1 : zTokE tb tx q ≤ tx := zTokE_le hq
  have l2 : zTokE tb tx (zTokE tb tx q) ≤ tx := zTokE_le l1
  have l3 : zTokS tb tx (zTokE tb tx q) ≤ tx := zTokS_le l1
  have l4 : zTokS tb tx (zTokE tb tx (zTokE tb tx q)) ≤ tx := zTokS_le l2
  have main : (zWkO tb tx q P.fnw → q4 = zWkQ tb tx q P.fnw ∧ f4 = 401 ∧ q2 = zTokE tb tx (zTokE tb tx q) ∧ q3 = zWkN tb tx q) ∧ (¬ zWkO tb tx q P.fnw → f4 = zTokS tb tx (zWkQ tb tx q P.fnw)) := by
    have hN : zWkN tb tx q = zNmQ tb tx (zTokE tb tx (zTokE tb tx q)) 1 hh := by show zNmQ tb tx (zTokE tb tx (zTokE tb tx q)) 1 (zWkH tb tx q) = _; rw [hH]
    by_cases c1 : bc = 1
    · have hWq := hW.mpr c1
      obtain ⟨e1, e2⟩ := s1.1 rfl c1
      subst e1
      subst e2
      by_cases n2 : zNmO tb tx (zTokE tb tx (zTokE tb tx q)) 1 hh
      · have m2 := zNm_y n2
        obtain ⟨e1, e2⟩ := s2.1 rfl n2
        subst e1
        subst e2
        by_cases n3 : zNmO tb tx (zTokE tb tx (zTokE tb tx (zTokE tb tx q))) 0 99
        · have e3 := s3.1 rfl n3
          refine ⟨fun _ => ⟨?_, e3.2, rfl, by rw [hN, m2]⟩, fun g => absurd ⟨hC, hWq, by rw [hH]; exact n2, by rw [hN, m2]; exact n3⟩ g⟩
          rw [zWkQ, if_pos hC, if_pos hWq, hH, if_pos n2, hN, m2, zNm_y n3]
          exact e3.1
        · have e3 := s3.2.1 rfl n3
          refine ⟨fun g => absurd (by have h := g.2.2.2; rw [hN, m2] at h; exact h) n3, fun _ => ?_⟩
          rw [zWkQ, if_pos hC, if_pos hWq, hH, if_pos n2, hN, m2, zNm_n n3]
          exact e3.2
      · have e2 := s2.2.1 rfl n2
        have e3 := s3.2.2.1 (by omega)
        refine ⟨fun g => absurd (by have h := g.2.2.1; rw [hH] at h; exact h) n2, fun _ => ?_⟩
        rw [zWkQ, if_pos hC, if_pos hWq, hH, if_neg n2, hN, zNm_n n2]
        omega
    · have hWn : ¬ zWkW tb tx q := fun g => c1 (hW.mp g)
      have e1 := s1.2.1 rfl c1
      have e2 := s2.2.2.1 (by omega)
      have e3 := s3.2.2.1 (by omega)
      refine ⟨fun g => absurd g.2.1 hWn, fun _ => ?_⟩
      rw [zWkQ, if_pos hC, if_neg hWn]
      omega
  have fin := zFin (O := zItO tb tx q P) (Q := zItQ tb tx q P) (fun o => by rw [hQ]; exact ⟨(main.1 (hO.mp o)).1, (main.1 (hO.mp o)).2.1⟩) (fun o => by rw [hQ]; exact main.2 (fun g => o (hO.mpr g))) s4 hb (zItS hq) ht
  refine ⟨fun g => ⟨(fin.1 g).1, (fin.1 g).2, ?_⟩, fin.2⟩
  have o := hO.mp g.1
  obtain ⟨-, -, e2, e3⟩ := main.1 o
  have v2 := zVal_n (tb := tb) (tx := tx) o.2.2.1.1
  have v3 := zVal_n (tb := tb) (tx := tx) o.2.2.2.1
  rw [hI, e2, v2, e3, v3, a5]
  refine ⟨a1, a2, a3, a4, ?_, a6, a7, a8, ?_⟩
  · show zu wo 1 (P.fnw + 1) 1 = zWkM tb tx q P.fnw
    rw [zu_at, zWkM, if_pos o]
  · intro i hi j hj
    have hi : i < zWkM tb tx q P.fnw := hi
    show _ = zWkV tb tx q P.fnw P.fkp (3 * i + j)
    rw [zWkM, if_pos o] at hi
    rw [zWkV, if_pos o, hI1]
    by_cases c : i = P.fnw
    · rw [c]
      rcases (show j = 0 ∨ j = 1 ∨ j = 2 by omega) with e | e | e <;> subst e
      · rw [zu_ne (by omega), zu_ne (by omega), Nat.add_zero, zu_at, zu_ne (by omega), zu_ne (by omega), Nat.add_zero, zu_at]
      · rw [zu_ne (by omega), zu_at, zu_ne (by omega), zu_at]
      · rw [zu_at, zu_at]
    · rw [zu_ne (by omega), zu_ne (by omega), zu_ne (by omega), zu_ne (by omega), zu_ne (by omega), zu_ne (by omega)]
      exact a9 i (by omega) j hj
theorem zHc0 {P : zPl} {pe wy : Nat → Nat} (a3 : pe 1 = P.fnp) (a6 : ∀ p, p < P.fnp → wy (6 + p) = P.fwc p) (h : 0 < pe 1) : wy (6 + pe 1 - 1) = P.fwc (P.fnp - 1) := by
  rw [← a6 (P.fnp - 1) (by omega), show 6 + pe 1 - 1 = 6 + (P.fnp - 1) by omega]
/-- an item that may not stand here -/
theorem zItN {tb : Nat → Nat} {tx q q9 xh : Nat} {P : zPl} {ck pe wy wa mr mh wo wk : Nat → Nat} (hn : ¬ ((zSrt tb tx q = 0 ∧ xh = 0) ∨ (zSrt tb tx q = 1 ∧ pe 1 < 6) ∨ ((zSrt tb tx q = 2 ∨ zSrt tb tx q = 3) ∧ 0 < pe 1 ∧ wy (6 + pe 1 - 1) < 4) ∨ (zSrt tb tx q = 4 ∧ mr 1 < 4) ∨ (zSrt tb tx q = 5 ∧ wo 1 < 6))) (hSc : zSc P xh ck pe wy wa mr mh wo wk) : zItG tb tx q P q9 (zTokS tb tx q) xh ck pe wy wa mr mh wo wk := by
  obtain ⟨w0, w1, w2, w3, w4, w5, -⟩ := zSrt_w (tb := tb) (tx := tx) (q := q)
  obtain ⟨a1, a2, a3, a4, a5, a6, -⟩ := hSc
  have hWy : (zSrt tb tx q = 2 ∨ zSrt tb tx q = 3) → ¬ zWyC P.fnp P.fwc := fun h g => by
    have hp : 0 < pe 1 := by rw [a3]; exact g.1
    exact hn (Or.inr (Or.inr (Or.inl ⟨h, hp, by rw [zHc0 a3 a6 hp]; exact g.2⟩)))
  have key : ¬ zItO tb tx q P ∧ zItQ tb tx q P = q := by
    by_cases c0 : zSrt tb tx q = 0
    · have k0 : ¬ P.fct = 0 := fun e => hn (Or.inl ⟨c0, a1.trans e⟩)
      refine ⟨?_, by rw [zItQ, if_pos (w0.mpr c0), zCkQ, if_neg k0]⟩
      show ¬ (if zWd tb tx q 0 then zCkO tb tx q P.fct else _)
      rw [if_pos (w0.mpr c0)]
      exact fun g => k0 g.1
    · have n0 : ¬ zWd tb tx q 0 := fun g => c0 (w0.mp g)
      by_cases c1 : zSrt tb tx q = 1
      · have k0 : ¬ P.fnp < 6 := fun e => hn (Or.inr (Or.inl ⟨c1, by rw [a3]; exact e⟩))
        refine ⟨?_, by rw [zItQ, if_neg n0, if_pos (w1.mpr c1), zPeQ, if_neg k0]⟩
        show ¬ (if zWd tb tx q 0 then zCkO tb tx q P.fct else if zWd tb tx q 1 then P.fnp < 6 else _)
        rw [if_neg n0, if_pos (w1.mpr c1)]
        exact k0
      · have n1 : ¬ zWd tb tx q 1 := fun g => c1 (w1.mp g)
        by_cases c2 : zSrt tb tx q = 2
        · have k0 := hWy (Or.inl c2)
          refine ⟨?_, by rw [zItQ, if_neg n0, if_neg n1, if_pos (w2.mpr c2), zWyQ, if_neg k0]⟩
          show ¬ (if zWd tb tx q 0 then zCkO tb tx q P.fct else if zWd tb tx q 1 then P.fnp < 6 else if zWd tb tx q 2 then zWyO tb tx q 0 239 P.fnp P.fwc else _)
          rw [if_neg n0, if_neg n1, if_pos (w2.mpr c2)]
          exact fun g => k0 g.1
        · have n2 : ¬ zWd tb tx q 2 := fun g => c2 (w2.mp g)
          by_cases c3 : zSrt tb tx q = 3
          · have k0 := hWy (Or.inr c3)
            refine ⟨?_, by rw [zItQ, if_neg n0, if_neg n1, if_neg n2, if_pos (w3.mpr c3), zWyQ, if_neg k0]⟩
            show ¬ (if zWd tb tx q 0 then zCkO tb tx q P.fct else if zWd tb tx q 1 then P.fnp < 6 else if zWd tb tx q 2 then zWyO tb tx q 0 239 P.fnp P.fwc else if zWd tb tx q 3 then zWyO tb tx q 1 99 P.fnp P.fwc else _)
            rw [if_neg n0, if_neg n1, if_neg n2, if_pos (w3.mpr c3)]
            exact fun g => k0 g.1
          · have n3 : ¬ zWd tb tx q 3 := fun g => c3 (w3.mp g)
            by_cases c4 : zSrt tb tx q = 4
            · have k0 : ¬ P.fnm < 4 := fun e => hn (Or.inr (Or.inr (Or.inr (Or.inl ⟨c4, by rw [a4]; exact e⟩))))
              refine ⟨?_, by rw [zItQ, if_neg n0, if_neg n1, if_neg n2, if_neg n3, if_pos (w4.mpr c4), zMaQ, if_neg k0]⟩
              show ¬ (if zWd tb tx q 0 then zCkO tb tx q P.fct else if zWd tb tx q 1 then P.fnp < 6 else if zWd tb tx q 2 then zWyO tb tx q 0 239 P.fnp P.fwc else if zWd tb tx q 3 then zWyO tb tx q 1 99 P.fnp P.fwc else if zWd tb tx q 4 then zMaO tb tx q P.fnm else _)
              rw [if_neg n0, if_neg n1, if_neg n2, if_neg n3, if_pos (w4.mpr c4)]
              exact fun g => k0 g.1
            · have n4 : ¬ zWd tb tx q 4 := fun g => c4 (w4.mp g)
              by_cases c5 : zSrt tb tx q = 5
              · have k0 : ¬ P.fnw < 6 := fun e => hn (Or.inr (Or.inr (Or.inr (Or.inr ⟨c5, by rw [a5]; exact e⟩))))
                refine ⟨?_, by rw [zItQ, if_neg n0, if_neg n1, if_neg n2, if_neg n3, if_neg n4, if_pos (w5.mpr c5), zWkQ, if_neg k0]⟩
                show ¬ (if zWd tb tx q 0 then zCkO tb tx q P.fct else if zWd tb tx q 1 then P.fnp < 6 else if zWd tb tx q 2 then zWyO tb tx q 0 239 P.fnp P.fwc else if zWd tb tx q 3 then zWyO tb tx q 1 99 P.fnp P.fwc else if zWd tb tx q 4 then zMaO tb tx q P.fnm else if zWd tb tx q 5 then zWkO tb tx q P.fnw else _)
                rw [if_neg n0, if_neg n1, if_neg n2, if_neg n3, if_neg n4, if_pos (w5.mpr c5)]
                exact fun g => k0 g.1
              · have n5 : ¬ zWd tb tx q 5 := fun g => c5 (w5.mp g)
                refine ⟨?_, by rw [zItQ, if_neg n0, if_neg n1, if_neg n2, if_neg n3, if_neg n4, if_neg n5]⟩
                show ¬ (if zWd tb tx q 0 then zCkO tb tx q P.fct else if zWd tb tx q 1 then P.fnp < 6 else if zWd tb tx q 2 then zWyO tb tx q 0 239 P.fnp P.fwc else if zWd tb tx q 3 then zWyO tb tx q 1 99 P.fnp P.fwc else if zWd tb tx q 4 then zMaO tb tx q P.fnm else if zWd tb tx q 5 then zWkO tb tx q P.fnw else False)
                rw [if_neg n0, if_neg n1, if_neg n2, if_neg n3, if_neg n4, if_neg n5]
                exact fun g => g
  exact ⟨fun g => absurd g.1 key.1, fun _ => by rw [key.2]⟩
