/-! SPEC 2: the trial; masks; the answers of the class's calls -/
def zStp (hs np nm : Nat) (wc wp mp : Nat → Nat) (si t : Nat) (s : Nat × (Nat → Nat) × (Nat → Nat) × (Nat → Nat)) : Nat × (Nat → Nat) × (Nat → Nat) × (Nat → Nat) :=
  (s.1 + (zSm (zMs mp t) nm + zSm (zTs wc wp s.2.1 s.2.2.1 t (s.1 / hs) si) np), zNew si np (zDn wc wp s.2.1 s.2.2.1 t (s.1 / hs)) s.2.1, zNew si np (zLf wc wp s.2.1 s.2.2.1 t (s.1 / hs)) s.2.2.1, zNew si np (fun q => s.2.2.2 q + zTk wc wp s.2.1 s.2.2.1 t (s.1 / hs) q) s.2.2.2)
/-- steps, ways done, what is left, steps taken behind t minutes, from f steps on, when si sit -/
def zTr (hs np nm : Nat) (wc wp mp : Nat → Nat) (si f : Nat) : Nat → Nat × (Nat → Nat) × (Nat → Nat) × (Nat → Nat)
  | 0 => (f, fun _ => 0, fun _ => 0, fun _ => 0)
  | t + 1 => zStp hs np nm wc wp mp si t (zTr hs np nm wc wp mp si f t)
theorem zTr_s (hs np nm : Nat) (wc wp mp : Nat → Nat) (si f t : Nat) : zTr hs np nm wc wp mp si f (t + 1) = zStp hs np nm wc wp mp si t (zTr hs np nm wc wp mp si f t) := rfl
abbrev zMok (wc dn lf : Nat → Nat) : Prop := (∀ p, dn p ≤ wc p) ∧ (∀ p, lf p ≠ 0 → dn p < wc p) ∧ ∀ p, lf p < 1000
theorem zL1_ok {wc wp dn lf : Nat → Nat} {mi hr : Nat} (hwp : ∀ k, wp k < 1000) (h : zMok wc dn lf) (p : Nat) : zL1 wc wp dn lf mi hr p < 1000 ∧ (zL1 wc wp dn lf mi hr p ≠ 0 → dn p < wc p) := by
  by_cases h0 : lf p = 0
  · by_cases h1 : zMay wc wp dn mi hr p
    · rw [zL1_c h1 h0]; exact ⟨hwp _, fun _ => h1.1⟩
    · rw [← zL1_b h1]; exact ⟨h.2.2 p, h.2.1 p⟩
  · rw [← zL1_a h0]; exact ⟨h.2.2 p, h.2.1 p⟩
theorem zDn_ok {wc wp dn lf : Nat → Nat} {mi hr : Nat} (hwp : ∀ k, wp k < 1000) (h : zMok wc dn lf) (p : Nat) : zDn wc wp dn lf mi hr p ≤ wc p ∧ (zLf wc wp dn lf mi hr p ≠ 0 → zDn wc wp dn lf mi hr p < wc p) ∧ zLf wc wp dn lf mi hr p < 1000 := by
  have h1 := zL1_ok (mi := mi) (hr := hr) hwp h p
  have h2 := h.1 p
  have h3 : zLf wc wp dn lf mi hr p ≤ zL1 wc wp dn lf mi hr p := by rw [zLf]; omega
  by_cases hc : zL1 wc wp dn lf mi hr p ≠ 0 ∧ zLf wc wp dn lf mi hr p = 0
  · have h4 := h1.2 hc.1
    rw [zDn, if_pos hc]
    exact ⟨by omega, fun q => absurd hc.2 q, by omega⟩
  · rw [zDn, if_neg hc]
    refine ⟨h2, fun q => h1.2 (by omega), by omega⟩
theorem zMok_stp {np : Nat} {wc wp dn lf : Nat → Nat} {mi hr si : Nat} (hwp : ∀ k, wp k < 1000) (h : zMok wc dn lf) : zMok wc (zNew si np (zDn wc wp dn lf mi hr) dn) (zNew si np (zLf wc wp dn lf mi hr) lf) := by
  refine ⟨fun p => ?_, fun p => ?_, fun p => ?_⟩ <;> (simp only [zNew]; have h1 := zDn_ok (mi := mi) (hr := hr) hwp h p; have h2 := h.1 p; have h3 := h.2.1 p; have h4 := h.2.2 p; split <;> first | exact h1.1 | exact h1.2.1 | exact h1.2.2 | exact h2 | exact h3 | exact h4)
theorem zTk_le3 {wc wp dn lf : Nat → Nat} {mi hr : Nat} (hwp : ∀ k, wp k < 1000) (p : Nat) : zTk wc wp dn lf mi hr p ≤ 1000 := by
  have h1 := zTk_le2 wc wp dn lf mi hr p
  have h2 := hwp (16 * p + 4 * dn p + 3)
  omega
theorem zNewt_le {np si : Nat} {wc wp dn lf tk : Nat → Nat} {mi hr b : Nat} (hwp : ∀ k, wp k < 1000) (h : ∀ p, tk p ≤ b) : ∀ p, zNew si np (fun q => tk q + zTk wc wp dn lf mi hr q) tk p ≤ b + 1000 := by
  intro p
  have h1 := h p
  have h2 := zTk_le3 (wc := wc) (dn := dn) (lf := lf) (mi := mi) (hr := hr) hwp p
  simp only [zNew]
  split <;> omega
theorem zSum_le {np nm : Nat} {wc wp mp dn lf : Nat → Nat} {mi hr si : Nat} (hnp : np ≤ 6) (hnm : nm ≤ 4) (hwp : ∀ k, wp k < 1000) (hmp : ∀ k, mp k < 1000) : zSm (zMs mp mi) nm + zSm (zTs wc wp dn lf mi hr si) np ≤ 10000 := by
  have h1 := zSm_le (zMs_le hmp mi) nm
  have h2 := zSm_le (zTs_le (wc := wc) (dn := dn) (lf := lf) (mi := mi) (hr := hr) (si := si) hwp) np
  omega
theorem zTr_ok {hs np nm : Nat} {wc wp mp : Nat → Nat} {si f : Nat} (hnp : np ≤ 6) (hnm : nm ≤ 4) (hwp : ∀ k, wp k < 1000) (hmp : ∀ k, mp k < 1000) : ∀ t, zMok wc (zTr hs np nm wc wp mp si f t).2.1 (zTr hs np nm wc wp mp si f t).2.2.1 ∧ (∀ p, (zTr hs np nm wc wp mp si f t).2.2.2 p ≤ 1000 * t) ∧ (zTr hs np nm wc wp mp si f t).1 ≤ f + 10000 * t
  | 0 => ⟨⟨fun _ => Nat.zero_le _, fun _ h => absurd rfl h, fun _ => by show 0 < 1000; omega⟩, fun _ => Nat.zero_le _, Nat.le_refl _⟩
  | t + 1 => by
    obtain ⟨h1, h2, h3⟩ := zTr_ok (hs := hs) (wc := wc) (si := si) (f := f) hnp hnm hwp hmp t
    refine ⟨zMok_stp hwp h1, fun p => ?_, ?_⟩
    · have := zNewt_le (np := np) (si := si) (wc := wc) (dn := (zTr hs np nm wc wp mp si f t).2.1) (lf := (zTr hs np nm wc wp mp si f t).2.2.1) (mi := t) (hr := (zTr hs np nm wc wp mp si f t).1 / hs) hwp h2 p
      rw [zTr_s, zStp]
      dsimp only
      omega
    · have := zSum_le (wc := wc) (dn := (zTr hs np nm wc wp mp si f t).2.1) (lf := (zTr hs np nm wc wp mp si f t).2.2.1) (mi := t) (hr := (zTr hs np nm wc wp mp si f t).1 / hs) (si := si) hnp hnm hwp hmp
      rw [zTr_s, zStp]
      dsimp only
      omega
def zMask (np : Nat) (x : Int32) : Nat := x.toBitVec.toNat % 2 ^ np
theorem zp6 {np : Nat} (h : np ≤ 6) : 1 ≤ 2 ^ np ∧ 2 ^ np ≤ 64 := by
  rcases (show np = 0 ∨ np = 1 ∨ np = 2 ∨ np = 3 ∨ np = 4 ∨ np = 5 ∨ np = 6 by omega) with rfl | rfl | rfl | rfl | rfl | rfl | rfl <;> decide
theorem zMask_lt {np : Nat} (h : np ≤ 6) (x : Int32) : zMask np x < 64 := by
  have := Nat.mod_lt x.toBitVec.toNat (show 2 ^ np > 0 from (zp6 h).1)
  have := (zp6 h).2
  rw [zMask]; omega
theorem zMask_lt2 {np : Nat} (h : np ≤ 6) (x : Int32) : zMask np x < 2 ^ np := Nat.mod_lt _ (zp6 h).1
theorem zi_mask {np : Nat} (h : np ≤ 6) (x : Int32) : x &&& nI (2 ^ np - 1) = nI (zMask np x) := by
  refine pk_and x np ?_
  exact pk_tn (by have := (zp6 h).2; omega)
theorem zMask_n {np n : Nat} (h : np ≤ 6) (hn : n < 2 ^ np) : zMask np (nI n) = n := by
  have := (zp6 h).2
  rw [zMask, pk_tn (by omega)]
  exact Nat.mod_eq_of_lt hn
theorem zi_shl {p : Nat} (h : p ≤ 6) : (1 : Int32) <<< (nI p &&& 31) = nI (2 ^ p) := by
  rcases (show p = 0 ∨ p = 1 ∨ p = 2 ∨ p = 3 ∨ p = 4 ∨ p = 5 ∨ p = 6 by omega) with rfl | rfl | rfl | rfl | rfl | rfl | rfl <;> decide
theorem zi_or {a p : Nat} (h : p < 6) (ha : a < 2 ^ p) : nI a ||| nI (2 ^ p) = nI (a + 2 ^ p) := by
  rcases (show p = 0 ∨ p = 1 ∨ p = 2 ∨ p = 3 ∨ p = 4 ∨ p = 5 by omega) with rfl | rfl | rfl | rfl | rfl | rfl
  all_goals (revert a; decide)
/-- a search: the first of n places from i on where q holds -/
def zFs (q : Nat → Bool) : Nat → Nat → Int32
  | 0, _ => -9
  | n + 1, i => if q i then nI i else zFs q n (i + 1)
theorem zFs_y {q : Nat → Bool} {n i : Nat} (h : q i = true) : zFs q (n + 1) i = nI i := by rw [zFs, if_pos h]
theorem zFs_n {q : Nat → Bool} {n i : Nat} (h : q i = false) : zFs q (n + 1) i = zFs q n (i + 1) := by rw [zFs, if_neg (by rw [h]; decide)]
/-- hour h is there behind t minutes -/
def zHq (hs np nm : Nat) (wc wp mp : Nat → Nat) (si f h : Nat) : Nat → Bool := fun t => decide ((zTr hs np nm wc wp mp si f t).1 / hs ≥ h)
abbrev zSteps (hs np nm : Nat) (wc wp mp : Nat → Nat) : Nat → Nat := fun t => (zTr hs np nm wc wp mp 0 0 t).1
/-- who waits for an hour that isn't there -/
abbrev zWs (wc wp dn lf : Nat → Nat) (hr p : Nat) : Prop := lf p = 0 ∧ dn p < wc p ∧ wp (16 * p + 4 * dn p + 0) = 1 ∧ hr < wp (16 * p + 4 * dn p + 1)
def zWb (wc wp dn lf : Nat → Nat) (hr p : Nat) : Nat := if zWs wc wp dn lf hr p then 2 ^ p else 0
theorem zWb_lt (wc wp dn lf : Nat → Nat) (hr : Nat) : ∀ n, zSm (zWb wc wp dn lf hr) n < 2 ^ n
  | 0 => by simp [zSm]
  | n + 1 => by
    have h1 := zWb_lt wc wp dn lf hr n
    have h2 : zWb wc wp dn lf hr n ≤ 2 ^ n := by rw [zWb]; split <;> omega
    rw [zSm, Nat.pow_succ]; omega
def zHang (hs np nm : Nat) (wc wp mp : Nat → Nat) : Nat := zSm (zWb wc wp (zTr hs np nm wc wp mp 0 0 240).2.1 (zTr hs np nm wc wp mp 0 0 240).2.2.1 ((zTr hs np nm wc wp mp 0 0 240).1 / hs)) np
def zWay (np : Nat) (wc wp : Nat → Nat) (x y w : Int32) : Int32 := if (0 ≤ x.toInt ∧ x.toInt < (np : Int)) ∧ (0 ≤ y.toInt ∧ y.toInt < (wc x.toInt.toNat : Int)) ∧ (0 ≤ w.toInt ∧ w.toInt ≤ 3) then nI (wp (16 * x.toInt.toNat + 4 * y.toInt.toNat + w.toInt.toNat)) else -1
def zPart (n : Nat) (kp : Nat → Nat) (x w : Int32) : Int32 := if (0 ≤ x.toInt ∧ x.toInt < (n : Int)) ∧ (0 ≤ w.toInt ∧ w.toInt ≤ 2) then nI (kp (3 * x.toInt.toNat + w.toInt.toNat)) else -1
/-- the moment's own minutes -/
def zGo (hs np nm : Nat) (wc wp mp : Nat → Nat) (si mi : Nat) (s : Nat × (Nat → Nat) × (Nat → Nat) × (Nat → Nat)) : Nat → Nat × (Nat → Nat) × (Nat → Nat) × (Nat → Nat)
  | 0 => s
  | i + 1 => zStp hs np nm wc wp mp si (mi + i) (zGo hs np nm wc wp mp si mi s i)
theorem zStp_ok {hs np nm : Nat} {wc wp mp : Nat → Nat} {si mi b q : Nat} {z : Nat × (Nat → Nat) × (Nat → Nat) × (Nat → Nat)} (hnp : np ≤ 6) (hnm : nm ≤ 4) (hwp : ∀ k, wp k < 1000) (hmp : ∀ k, mp k < 1000) (h1 : zMok wc z.2.1 z.2.2.1) (h2 : ∀ p, z.2.2.2 p ≤ b) (h3 : z.1 ≤ q) :
    zMok wc (zStp hs np nm wc wp mp si mi z).2.1 (zStp hs np nm wc wp mp si mi z).2.2.1 ∧ (∀ p, (zStp hs np nm wc wp mp si mi z).2.2.2 p ≤ b + 1000) ∧ (zStp hs np nm wc wp mp si mi z).1 ≤ q + 10000 := by
  refine ⟨zMok_stp hwp h1, fun p => zNewt_le hwp h2 p, ?_⟩
  have h4 := zSum_le (wc := wc) (dn := z.2.1) (lf := z.2.2.1) (mi := mi) (hr := z.1 / hs) (si := si) hnp hnm hwp hmp
  exact Nat.add_le_add h3 h4
theorem zGo_ok {hs np nm : Nat} {wc wp mp dn lf tk : Nat → Nat} {si mi st b : Nat} (hnp : np ≤ 6) (hnm : nm ≤ 4) (hwp : ∀ k, wp k < 1000) (hmp : ∀ k, mp k < 1000) (h0 : zMok wc dn lf) (hb : ∀ p, tk p ≤ b) : ∀ t, zMok wc (zGo hs np nm wc wp mp si mi (st, dn, lf, tk) t).2.1 (zGo hs np nm wc wp mp si mi (st, dn, lf, tk) t).2.2.1 ∧ (∀ p, (zGo hs np nm wc wp mp si mi (st, dn, lf, tk) t).2.2.2 p ≤ b + 1000 * t) ∧ (zGo hs np nm wc wp mp si mi (st, dn, lf, tk) t).1 ≤ st + 10000 * t
  | 0 => ⟨h0, hb, Nat.le_refl _⟩
  | t + 1 => by
    obtain ⟨h1, h2, h3⟩ := zGo_ok (hs := hs) (si := si) (mi := mi) (st := st) hnp hnm hwp hmp h0 hb t
    obtain ⟨g1, g2, g3⟩ := zStp_ok (hs := hs) (si := si) (mi := mi + t) hnp hnm hwp hmp h1 h2 h3
    exact ⟨g1, fun p => Nat.le_trans (g2 p) (by omega), Nat.le_trans g3 (by omega)⟩
theorem zGo_ge (hs np nm : Nat) (wc wp mp : Nat → Nat) (si mi : Nat) (s : Nat × (Nat → Nat) × (Nat → Nat) × (Nat → Nat)) : ∀ i, s.1 ≤ (zGo hs np nm wc wp mp si mi s i).1
  | 0 => Nat.le_refl _
  | i + 1 => by
    have h1 := zGo_ge hs np nm wc wp mp si mi s i
    rw [zGo]
    generalize zGo hs np nm wc wp mp si mi s i = z at h1 ⊢
    exact Nat.le_trans h1 (Nat.le_add_right _ _)
/-- how many minutes go by -/
def zGoN (mi : Nat) (x : Int32) : Nat := if 1 ≤ x.toInt ∧ x.toInt ≤ 240 ∧ mi < 240 then min x.toInt.toNat (240 - mi) else 0
theorem zGoN_le (mi : Nat) (x : Int32) : zGoN mi x ≤ 240 := by rw [zGoN]; split <;> omega
def zGoR (hs np nm : Nat) (wc wp mp : Nat → Nat) (si mi : Nat) (s : Nat × (Nat → Nat) × (Nat → Nat) × (Nat → Nat)) (x : Int32) : Int32 := if 1 ≤ x.toInt ∧ x.toInt ≤ 240 then (if mi ≥ 240 then -2 else nI ((zGo hs np nm wc wp mp si mi s (zGoN mi x)).1 - s.1)) else -1
