/-! SPEC 23: who is ahead stays ahead; strikes and what undoes them -/
def zCum (wp : Nat → Nat) (p : Nat) : Nat → Nat
  | 0 => 0
  | d + 1 => zCum wp p d + wp (16 * p + 4 * d + 2)
theorem zCum_le (wp : Nat → Nat) (p : Nat) : ∀ {a b : Nat}, a ≤ b → zCum wp p a ≤ zCum wp p b
  | a, 0, h => by rw [show a = 0 by omega]; exact Nat.le_refl _
  | a, b + 1, h => by
    by_cases c : a = b + 1
    · rw [c]; exact Nat.le_refl _
    · have := zCum_le wp p (show a ≤ b by omega)
      rw [zCum]; omega
/-- a person's place: ways done d, what is left l, steps taken k -/
abbrev zPt (wp : Nat → Nat) (p d l k : Nat) : Prop := (l = 0 ∧ k = zCum wp p d) ∨ (l ≠ 0 ∧ l ≤ wp (16 * p + 4 * d + 2) ∧ k + l = zCum wp p d + wp (16 * p + 4 * d + 2))
theorem zPt_s {wc wp dn lf : Nat → Nat} {mi hr p k : Nat} (h : zPt wp p (dn p) (lf p) k) : zPt wp p (zDn wc wp dn lf mi hr p) (zLf wc wp dn lf mi hr p) (k + zTk wc wp dn lf mi hr p) := by
  have hT := zTk_le wc wp dn lf mi hr p
  have hF : zLf wc wp dn lf mi hr p = zL1 wc wp dn lf mi hr p - zTk wc wp dn lf mi hr p := rfl
  have hL : (zL1 wc wp dn lf mi hr p = 0 ∧ lf p = 0) ∨ (zL1 wc wp dn lf mi hr p ≠ 0 ∧ zL1 wc wp dn lf mi hr p ≤ wp (16 * p + 4 * dn p + 2) ∧ k + zL1 wc wp dn lf mi hr p = zCum wp p (dn p) + wp (16 * p + 4 * dn p + 2)) := by
    by_cases c : lf p = 0
    · by_cases m : zMay wc wp dn mi hr p
      · rw [zL1_c m c]
        rcases h with ⟨h1, h2⟩ | ⟨h1, -⟩
        · by_cases n : wp (16 * p + 4 * dn p + 2) = 0
          · exact Or.inl ⟨n, c⟩
          · exact Or.inr ⟨n, Nat.le_refl _, by omega⟩
        · exact absurd c h1
      · rw [← zL1_b m]
        exact Or.inl ⟨c, c⟩
    · rw [← zL1_a c]
      rcases h with ⟨h1, -⟩ | h1
      · exact absurd h1 c
      · exact Or.inr h1
  rcases hL with ⟨a, b⟩ | ⟨a, b, d⟩
  · have e1 : zTk wc wp dn lf mi hr p = 0 := by omega
    have e2 : zLf wc wp dn lf mi hr p = 0 := by omega
    have e3 : zDn wc wp dn lf mi hr p = dn p := by rw [zDn, if_neg (fun q => q.1 a)]
    rw [e1, e2, e3]
    rcases h with ⟨-, h2⟩ | ⟨h1, -⟩
    · exact Or.inl ⟨rfl, h2⟩
    · exact absurd b h1
  · by_cases c : zLf wc wp dn lf mi hr p = 0
    · have e3 : zDn wc wp dn lf mi hr p = dn p + 1 := by rw [zDn, if_pos ⟨a, c⟩]
      rw [e3]
      refine Or.inl ⟨c, ?_⟩
      rw [zCum]; omega
    · have e3 : zDn wc wp dn lf mi hr p = dn p := by rw [zDn, if_neg (fun q => c q.2)]
      rw [e3]
      exact Or.inr ⟨c, by omega, by omega⟩
/-- (d, l) is not behind (e, m) -/
abbrev zAh (d l e m : Nat) : Prop := e < d ∨ (d = e ∧ (m = 0 ∨ (l ≠ 0 ∧ l ≤ m)))
theorem zAh_tk {wp : Nat → Nat} {p d l k e m j : Nat} (h1 : zPt wp p d l k) (h2 : zPt wp p e m j) (h : zAh d l e m) : j ≤ k := by
  rcases h with h | ⟨h, g⟩
  · have c1 := zCum_le wp p (show e + 1 ≤ d by omega)
    rw [zCum] at c1
    rcases h1 with h1 | h1 <;> rcases h2 with h2 | h2 <;> omega
  · subst h
    rcases h1 with h1 | h1 <;> rcases h2 with h2 | h2 <;> omega
theorem zDn_01 (wc wp dn lf : Nat → Nat) (mi hr p : Nat) : (zDn wc wp dn lf mi hr p = dn p + 1 ∧ zLf wc wp dn lf mi hr p = 0) ∨ zDn wc wp dn lf mi hr p = dn p := by
  rw [zDn]
  split
  · rename_i c; exact Or.inl ⟨rfl, c.2⟩
  · exact Or.inr rfl
theorem zAh_s {wc wp dn lf dn2 lf2 : Nat → Nat} {mi hr hr2 p k : Nat} (hh : hr2 ≤ hr) (h1 : zPt wp p (dn p) (lf p) k) (h : zAh (dn p) (lf p) (dn2 p) (lf2 p)) : zAh (zDn wc wp dn lf mi hr p) (zLf wc wp dn lf mi hr p) (zDn wc wp dn2 lf2 mi hr2 p) (zLf wc wp dn2 lf2 mi hr2 p) := by
  have a1 := zDn_01 wc wp dn lf mi hr p
  have a2 := zDn_01 wc wp dn2 lf2 mi hr2 p
  rcases h with h | ⟨h, g⟩
  · rcases a1 with a1 | a1 <;> rcases a2 with a2 | a2 <;> omega
  · have f1 : zLf wc wp dn lf mi hr p = zL1 wc wp dn lf mi hr p - zTk wc wp dn lf mi hr p := rfl
    have f2 : zLf wc wp dn2 lf2 mi hr2 p = zL1 wc wp dn2 lf2 mi hr2 p - zTk wc wp dn2 lf2 mi hr2 p := rfl
    have t1 : zTk wc wp dn lf mi hr p = min (zL1 wc wp dn lf mi hr p) (wp (16 * p + 4 * dn p + 3)) := rfl
    have t2 : zTk wc wp dn2 lf2 mi hr2 p = min (zL1 wc wp dn2 lf2 mi hr2 p) (wp (16 * p + 4 * dn p + 3)) := by rw [h]; rfl
    have d1 : zDn wc wp dn lf mi hr p = if zL1 wc wp dn lf mi hr p ≠ 0 ∧ zLf wc wp dn lf mi hr p = 0 then dn p + 1 else dn p := rfl
    have d2 : zDn wc wp dn2 lf2 mi hr2 p = if zL1 wc wp dn2 lf2 mi hr2 p ≠ 0 ∧ zLf wc wp dn2 lf2 mi hr2 p = 0 then dn p + 1 else dn p := by rw [h]; rfl
    have key : zL1 wc wp dn2 lf2 mi hr2 p = 0 ∨ (zL1 wc wp dn lf mi hr p ≠ 0 ∧ zL1 wc wp dn lf mi hr p ≤ zL1 wc wp dn2 lf2 mi hr2 p) := by
      by_cases c2 : lf2 p = 0
      · by_cases m2 : zMay wc wp dn2 mi hr2 p
        · rw [zL1_c m2 c2]
          by_cases n : wp (16 * p + 4 * dn2 p + 2) = 0
          · exact Or.inl n
          · right
            by_cases c1 : lf p = 0
            · have m1 : zMay wc wp dn mi hr p := by
                obtain ⟨b1, b2⟩ := m2
                refine ⟨by omega, ?_⟩
                rw [h]
                split
                · rename_i w; rw [if_pos w] at b2; omega
                · rename_i w; rw [if_neg w] at b2; exact b2
              rw [zL1_c m1 c1, h]
              exact ⟨n, Nat.le_refl _⟩
            · rw [← zL1_a c1, ← h]
              rcases h1 with h1 | h1
              · exact absurd h1.1 c1
              · exact ⟨c1, h1.2.1⟩
        · rw [← zL1_b m2]
          exact Or.inl c2
      · rw [← zL1_a c2]
        rcases g with g | g
        · exact absurd g c2
        · right
          rw [← zL1_a g.1]
          exact g
    rcases key with key | ⟨k1, k2⟩
    · have e2 : zLf wc wp dn2 lf2 mi hr2 p = 0 := by omega
      have e3 : zDn wc wp dn2 lf2 mi hr2 p = dn p := by rw [d2, if_neg (fun q => q.1 key)]
      rcases a1 with a1 | a1 <;> omega
    · by_cases z1 : zLf wc wp dn lf mi hr p = 0
      · have e1 : zDn wc wp dn lf mi hr p = dn p + 1 := by rw [d1, if_pos ⟨k1, z1⟩]
        rcases a2 with a2 | a2 <;> omega
      · have e1 : zDn wc wp dn lf mi hr p = dn p := by rw [d1, if_neg (fun q => z1 q.2)]
        have z2 : zLf wc wp dn2 lf2 mi hr2 p ≠ 0 := by omega
        have e2 : zDn wc wp dn2 lf2 mi hr2 p = dn p := by rw [d2, if_neg (fun q => z2 q.2)]
        omega
theorem zSm_add {f h : Nat → Nat} : ∀ n, zSm (fun p => f p + h p) n = zSm f n + zSm h n
  | 0 => rfl
  | n + 1 => by rw [zSm, zSm, zSm, zSm_add n]; omega
theorem zSm_le2 {f h : Nat → Nat} : ∀ {n : Nat}, (∀ k, k < n → f k ≤ h k) → zSm f n ≤ zSm h n
  | 0, _ => Nat.le_refl _
  | n + 1, e => by
    have h1 := zSm_le2 (f := f) (h := h) (n := n) (fun k hk => e k (by omega))
    have h2 := e n (by omega)
    rw [zSm, zSm]; omega
theorem zNew_y {si n p : Nat} {new old : Nat → Nat} (h : p < n) (h2 : zbit si p = 0) : zNew si n new old p = new p := by
  show (if p < n ∧ zbit si p = 0 then new p else old p) = new p
  rw [if_pos ⟨h, h2⟩]
theorem zNew_x {si n p : Nat} {new old : Nat → Nat} (h2 : ¬ zbit si p = 0) : zNew si n new old p = old p := by
  show (if p < n ∧ zbit si p = 0 then new p else old p) = old p
  rw [if_neg (fun w => h2 w.2)]
/-- what holds behind t minutes -/
theorem zTr_inv {hs np nm : Nat} {wc wp mp : Nat → Nat} {si f : Nat} : ∀ t, (∀ p, p < np → zPt wp p ((zTr hs np nm wc wp mp si f t).2.1 p) ((zTr hs np nm wc wp mp si f t).2.2.1 p) ((zTr hs np nm wc wp mp si f t).2.2.2 p)) ∧ (∀ p, zbit si p ≠ 0 → (zTr hs np nm wc wp mp si f t).2.1 p = 0 ∧ (zTr hs np nm wc wp mp si f t).2.2.1 p = 0) ∧ (zTr hs np nm wc wp mp si f t).1 = f + zSm (fun m => zSm (zMs mp m) nm) t + zSm (zTr hs np nm wc wp mp si f t).2.2.2 np
  | 0 => by
    refine ⟨fun p _ => Or.inl ⟨rfl, rfl⟩, fun p _ => ⟨rfl, rfl⟩, ?_⟩
    have h : zSm (fun _ => 0) np = 0 := (zSm_ext (f := fun _ => 0) (Nat.zero_le np) (fun _ _ _ => rfl)).trans rfl
    show f = f + 0 + zSm (fun _ => 0) np
    omega
  | t + 1 => by
    obtain ⟨h1, h2, h3⟩ := zTr_inv (hs := hs) (np := np) (nm := nm) (wc := wc) (wp := wp) (mp := mp) (si := si) (f := f) t
    rw [zTr_s]
    generalize zTr hs np nm wc wp mp si f t = z at h1 h2 h3 ⊢
    refine ⟨fun p hp => ?_, fun p hp => ?_, ?_⟩
    · show zPt wp p (zNew si np (zDn wc wp z.2.1 z.2.2.1 t (z.1 / hs)) z.2.1 p) (zNew si np (zLf wc wp z.2.1 z.2.2.1 t (z.1 / hs)) z.2.2.1 p) (zNew si np (fun q => z.2.2.2 q + zTk wc wp z.2.1 z.2.2.1 t (z.1 / hs) q) z.2.2.2 p)
      by_cases c : zbit si p = 0
      · rw [zNew_y hp c, zNew_y hp c, zNew_y hp c]
        exact zPt_s (h1 p hp)
      · rw [zNew_x c, zNew_x c, zNew_x c]
        exact h1 p hp
    · show zNew si np (zDn wc wp z.2.1 z.2.2.1 t (z.1 / hs)) z.2.1 p = 0 ∧ zNew si np (zLf wc wp z.2.1 z.2.2.1 t (z.1 / hs)) z.2.2.1 p = 0
      rw [zNew_x hp, zNew_x hp]
      exact h2 p hp
    · show z.1 + (zSm (zMs mp t) nm + zSm (zTs wc wp z.2.1 z.2.2.1 t (z.1 / hs) si) np) = f + zSm (fun m => zSm (zMs mp m) nm) (t + 1) + zSm (zNew si np (fun q => z.2.2.2 q + zTk wc wp z.2.1 z.2.2.1 t (z.1 / hs) q) z.2.2.2) np
      have e : zSm (zNew si np (fun q => z.2.2.2 q + zTk wc wp z.2.1 z.2.2.1 t (z.1 / hs) q) z.2.2.2) np = zSm z.2.2.2 np + zSm (zTs wc wp z.2.1 z.2.2.1 t (z.1 / hs) si) np := by
        rw [← zSm_add]
        refine zSm_cong (fun p hp => ?_)
        by_cases c : zbit si p = 0
        · rw [zNew_y hp c, zTs, if_pos c]
        · rw [zNew_x c, zTs, if_neg c, Nat.add_zero]
      rw [e, h3]
      have e2 : zSm (fun m => zSm (zMs mp m) nm) (t + 1) = zSm (fun m => zSm (zMs mp m) nm) t + zSm (zMs mp t) nm := rfl
      rw [e2]
      omega
theorem zTr_mono {hs np nm : Nat} {wc wp mp : Nat → Nat} {si f si2 f2 : Nat} (hsi : ∀ p, p < np → zbit si p ≠ 0 → zbit si2 p ≠ 0) (hf : f2 ≤ f) : ∀ t, (∀ p, p < np → zAh ((zTr hs np nm wc wp mp si f t).2.1 p) ((zTr hs np nm wc wp mp si f t).2.2.1 p) ((zTr hs np nm wc wp mp si2 f2 t).2.1 p) ((zTr hs np nm wc wp mp si2 f2 t).2.2.1 p)) ∧ (zTr hs np nm wc wp mp si2 f2 t).1 ≤ (zTr hs np nm wc wp mp si f t).1 := by
  have fin : ∀ t, (∀ p, p < np → zAh ((zTr hs np nm wc wp mp si f t).2.1 p) ((zTr hs np nm wc wp mp si f t).2.2.1 p) ((zTr hs np nm wc wp mp si2 f2 t).2.1 p) ((zTr hs np nm wc wp mp si2 f2 t).2.2.1 p)) → (zTr hs np nm wc wp mp si2 f2 t).1 ≤ (zTr hs np nm wc wp mp si f t).1 := fun t h => by
    obtain ⟨a1, -, a3⟩ := zTr_inv (hs := hs) (np := np) (nm := nm) (wc := wc) (wp := wp) (mp := mp) (si := si) (f := f) t
    obtain ⟨b1, -, b3⟩ := zTr_inv (hs := hs) (np := np) (nm := nm) (wc := wc) (wp := wp) (mp := mp) (si := si2) (f := f2) t
    have hs2 := zSm_le2 (f := (zTr hs np nm wc wp mp si2 f2 t).2.2.2) (h := (zTr hs np nm wc wp mp si f t).2.2.2) (n := np) (fun p hp => zAh_tk (a1 p hp) (b1 p hp) (h p hp))
    rw [a3, b3]
    omega
  intro t
  induction t with
  | zero => exact ⟨fun p _ => Or.inr ⟨rfl, Or.inl rfl⟩, hf⟩
  | succ t ih =>
    have key : ∀ p, p < np → zAh ((zTr hs np nm wc wp mp si f (t + 1)).2.1 p) ((zTr hs np nm wc wp mp si f (t + 1)).2.2.1 p) ((zTr hs np nm wc wp mp si2 f2 (t + 1)).2.1 p) ((zTr hs np nm wc wp mp si2 f2 (t + 1)).2.2.1 p) := fun p hp => by
      obtain ⟨a1, a2, -⟩ := zTr_inv (hs := hs) (np := np) (nm := nm) (wc := wc) (wp := wp) (mp := mp) (si := si) (f := f) t
      obtain ⟨-, b2, -⟩ := zTr_inv (hs := hs) (np := np) (nm := nm) (wc := wc) (wp := wp) (mp := mp) (si := si2) (f := f2) t
      rw [zTr_s, zTr_s]
      have hA := ih.1 p hp
      have hB := a1 p hp
      have hC := a2 p
      have hD := b2 p
      have hH : (zTr hs np nm wc wp mp si2 f2 t).1 / hs ≤ (zTr hs np nm wc wp mp si f t).1 / hs := Nat.div_le_div_right ih.2
      generalize zTr hs np nm wc wp mp si f t = a at hA hB hC hH ⊢
      generalize zTr hs np nm wc wp mp si2 f2 t = b at hA hD hH ⊢
      show zAh (zNew si np (zDn wc wp a.2.1 a.2.2.1 t (a.1 / hs)) a.2.1 p) (zNew si np (zLf wc wp a.2.1 a.2.2.1 t (a.1 / hs)) a.2.2.1 p) (zNew si2 np (zDn wc wp b.2.1 b.2.2.1 t (b.1 / hs)) b.2.1 p) (zNew si2 np (zLf wc wp b.2.1 b.2.2.1 t (b.1 / hs)) b.2.2.1 p)
      by_cases c2 : zbit si2 p = 0
      · have c1 : zbit si p = 0 := Classical.byContradiction fun q => hsi p hp q c2
        rw [zNew_y hp c2, zNew_y hp c2, zNew_y hp c1, zNew_y hp c1]
        exact zAh_s hH hB hA
      · have e := hD c2
        rw [zNew_x c2, zNew_x c2, e.1, e.2]
        by_cases q : zNew si np (zDn wc wp a.2.1 a.2.2.1 t (a.1 / hs)) a.2.1 p = 0
        · exact Or.inr ⟨q, Or.inl rfl⟩
        · exact Or.inl (Nat.pos_of_ne_zero q)
    exact ⟨key, fin (t + 1) key⟩
theorem zFn_spec {q : Nat → Bool} : ∀ {n i : Nat}, i + n ≤ 241 → (zFn q n i = 241 ∧ ∀ t, i ≤ t → t < i + n → q t = false) ∨ ((i ≤ zFn q n i ∧ zFn q n i < i + n) ∧ q (zFn q n i) = true ∧ ∀ t, i ≤ t → t < zFn q n i → q t = false)
  | 0, i, _ => Or.inl ⟨rfl, fun t a b => by omega⟩
  | n + 1, i, h => by
    rw [zFn]
    by_cases c : q i = true
    · rw [if_pos c]
      exact Or.inr ⟨⟨Nat.le_refl _, by omega⟩, c, fun t a b => by omega⟩
    · rw [if_neg c]
      have c' : q i = false := by cases e : q i with | true => exact absurd e c | false => rfl
      rcases zFn_spec (q := q) (n := n) (i := i + 1) (by omega) with ⟨h1, h2⟩ | ⟨h1, h2, h3⟩
      · refine Or.inl ⟨h1, fun t a b => ?_⟩
        by_cases e : t = i
        · rw [e]; exact c'
        · exact h2 t (by omega) (by omega)
      · refine Or.inr ⟨⟨by omega, by omega⟩, h2, fun t a b => ?_⟩
        by_cases e : t = i
        · rw [e]; exact c'
        · exact h3 t (by omega) b
theorem zFn_mono {p q : Nat → Bool} {n i : Nat} (hn : i + n ≤ 241) (h : ∀ t, q t = true → p t = true) (hq : zFn q n i < 241) : zFn p n i < 241 := by
  rcases zFn_spec (q := q) hn with ⟨h1, -⟩ | ⟨h1, h2, -⟩
  · omega
  · rcases zFn_spec (q := p) hn with ⟨g1, g2⟩ | ⟨g1, -⟩
    · have := g2 _ h1.1 h1.2
      rw [h _ h2] at this
      exact absurd this (by decide)
    · omega
theorem zHq_mono {hs np nm : Nat} {wc wp mp : Nat → Nat} {si f si2 f2 h n : Nat} (hn : n ≤ 241) (hsi : ∀ p, p < np → zbit si p ≠ 0 → zbit si2 p ≠ 0) (hf : f2 ≤ f) (hq : zFn (zHq hs np nm wc wp mp si2 f2 h) n 0 < 241) : zFn (zHq hs np nm wc wp mp si f h) n 0 < 241 :=
  zFn_mono (by omega) (fun t ht => by
    have h1 : (zTr hs np nm wc wp mp si2 f2 t).1 / hs ≥ h := of_decide_eq_true ht
    have h2 := (zTr_mono (hs := hs) (nm := nm) (wc := wc) (wp := wp) (mp := mp) hsi hf t).2
    exact decide_eq_true (Nat.le_trans h1 (Nat.div_le_div_right h2))) hq
