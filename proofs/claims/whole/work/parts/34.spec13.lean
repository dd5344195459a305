/-! SPEC 13: what model and class agree on; a minute of the model -/
abbrev zPB (hs np nm : Nat) (wc wp mp : Nat → Nat) : Prop := (10 ≤ hs ∧ hs ≤ 999) ∧ np ≤ 6 ∧ nm ≤ 4 ∧ (∀ k, wc k ≤ 4) ∧ (∀ k, wp k < 1000) ∧ (∀ k, mp k < 1000) ∧ zWayOk np wc wp
abbrev zMB (hs np nm : Nat) (wc wp mp ck pe wy wa mr mh : Nat → Nat) : Prop := ck 0 = hs ∧ pe 0 = np ∧ mr 0 = nm ∧ (∀ p, p < np → wy p = wc p) ∧ (∀ p, p < np → ∀ k, k < wc p → ∀ j, j < 4 → wa (16 * p + 4 * k + j) = wp (16 * p + 4 * k + j)) ∧ (∀ m, m < nm → ∀ j, j < 3 → mh (3 * m + j) = mp (3 * m + j))
/-- one more person behind -/
theorem zGm1 {q i si mi st hr : Nat} {wc wp dn lf tk sd9 : Nat → Nat} {r : Int32}
    (h1 : zbit si i = 1 → r = 0 ∧ zRel q sd9 mi st si (zNew si i (zDn wc wp dn lf mi hr) dn) (zNew si i (zLf wc wp dn lf mi hr) lf) (zNew si i (fun q => tk q + zTk wc wp dn lf mi hr q) tk))
    (h2 : zbit si i ≠ 1 → r = nI (zTk wc wp (zNew si i (zDn wc wp dn lf mi hr) dn) (zNew si i (zLf wc wp dn lf mi hr) lf) mi hr i) ∧ zRel q sd9 mi st si (zu (zNew si i (zDn wc wp dn lf mi hr) dn) i (zDn wc wp (zNew si i (zDn wc wp dn lf mi hr) dn) (zNew si i (zLf wc wp dn lf mi hr) lf) mi hr i)) (zu (zNew si i (zLf wc wp dn lf mi hr) lf) i (zLf wc wp (zNew si i (zDn wc wp dn lf mi hr) dn) (zNew si i (zLf wc wp dn lf mi hr) lf) mi hr i)) (zu (zNew si i (fun q => tk q + zTk wc wp dn lf mi hr q) tk) i (zNew si i (fun q => tk q + zTk wc wp dn lf mi hr q) tk i + zTk wc wp (zNew si i (zDn wc wp dn lf mi hr) dn) (zNew si i (zLf wc wp dn lf mi hr) lf) mi hr i))) :
    r = nI (zTs wc wp dn lf mi hr si i) ∧ zRel q sd9 mi st si (zNew si (i + 1) (zDn wc wp dn lf mi hr) dn) (zNew si (i + 1) (zLf wc wp dn lf mi hr) lf) (zNew si (i + 1) (fun q => tk q + zTk wc wp dn lf mi hr q) tk) := by
  have a1 : zNew si i (zDn wc wp dn lf mi hr) dn i = dn i := zNew_at _ _
  have a2 : zNew si i (zLf wc wp dn lf mi hr) lf i = lf i := zNew_at _ _
  have a3 : zNew si i (fun q => tk q + zTk wc wp dn lf mi hr q) tk i = tk i := zNew_at _ _
  by_cases hb9 : zbit si i = 1
  · obtain ⟨e1, e2⟩ := h1 hb9
    have hn : ¬ zbit si i = 0 := by omega
    refine ⟨by rw [e1, zTs, if_neg hn]; rfl, ?_⟩
    rw [zNew_t _ _ hn, zNew_t _ _ hn, zNew_t _ _ hn]
    exact e2
  · obtain ⟨e1, e2⟩ := h2 hb9
    have hb0 : zbit si i = 0 := by have := zbit_lt si i; omega
    refine ⟨by rw [e1, zTs, if_pos hb0, zTk_cong a1 a2], ?_⟩
    rw [zNew_s _ _ hb0, zNew_s _ _ hb0, zNew_s _ _ hb0]
    rw [zDn_cong a1 a2, zLf_cong a1 a2, zTk_cong a1 a2, a3] at e2
    exact e2
/-- steps behind minutes, none beyond the last -/
def zBh (hs np nm : Nat) (wc wp mp : Nat → Nat) (si f : Nat) : Nat → Nat := fun t => (zTr hs np nm wc wp mp si f (min t 240)).1
theorem zBh_at {hs np nm : Nat} {wc wp mp : Nat → Nat} {si f t : Nat} (h : t ≤ 240) : zBh hs np nm wc wp mp si f t = (zTr hs np nm wc wp mp si f t).1 := by rw [zBh, Nat.min_eq_left h]
theorem zBh_lt {hs np nm : Nat} {wc wp mp : Nat → Nat} {si f : Nat} (h : zPB hs np nm wc wp mp) (hf : f ≤ 20000) : ∀ t, zBh hs np nm wc wp mp si f t < 10000000 := fun t => by
  have h1 := (zTr_ok (hs := hs) (wc := wc) (si := si) (f := f) h.2.1 h.2.2.1 h.2.2.2.2.1 h.2.2.2.2.2.1 (min t 240)).2.2
  have h2 : min t 240 ≤ 240 := Nat.min_le_right _ _
  rw [zBh]
  omega
theorem zFn_cong {p q : Nat → Bool} : ∀ {n i : Nat}, (∀ t, i ≤ t → t < i + n → p t = q t) → zFn p n i = zFn q n i
  | 0, _, _ => rfl
  | n + 1, i, h => by rw [zFn, zFn, h i (Nat.le_refl _) (by omega), zFn_cong (n := n) (i := i + 1) (fun t a b => h t (by omega) (by omega))]
theorem zBh_hq {hs np nm : Nat} {wc wp mp : Nat → Nat} {si f h n : Nat} (hn : n ≤ 241) : zFn (fun t => decide (zBh hs np nm wc wp mp si f t / hs ≥ h)) n 0 = zFn (zHq hs np nm wc wp mp si f h) n 0 :=
  zFn_cong (fun t _ b => by rw [zHq, zBh_at (by omega)])
