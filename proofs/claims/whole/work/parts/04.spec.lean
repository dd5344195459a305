/-! SPEC: rows of naturals; the minute of a person, of all; sums -/
abbrev zf (h : Nat → Nat) : Nat → Int32 := fun k => nI (h k)
def zu (h : Nat → Nat) (k v : Nat) : Nat → Nat := fun j => if j = k then v else h j
theorem zf_upd (h : Nat → Nat) (k v : Nat) : upd (zf h) k (nI v) = zf (zu h k v) := by
  funext j
  by_cases q : j = k <;> simp [upd, zf, zu, q]
def zcp (n : Nat) (f g : Nat → Nat) : Nat → Nat := fun k => if k < n then f k else g k
theorem zcp_0 (f g : Nat → Nat) : zcp 0 f g = g := by funext k; simp [zcp]
theorem zcp_s (f g : Nat → Nat) (i : Nat) : zu (zcp i f g) i (f i) = zcp (i + 1) f g := by
  funext k
  simp only [zu, zcp]
  by_cases h : k = i
  · subst h; simp
  · by_cases h2 : k < i
    · rw [if_neg h, if_pos h2, if_pos (by omega)]
    · rw [if_neg h, if_neg h2, if_neg (by omega)]
def zSm (f : Nat → Nat) : Nat → Nat
  | 0 => 0
  | n + 1 => zSm f n + f n
theorem zSm_le {f : Nat → Nat} {b : Nat} (h : ∀ k, f k ≤ b) : ∀ n, zSm f n ≤ n * b
  | 0 => by simp [zSm]
  | n + 1 => by have := zSm_le h n; have := h n; rw [zSm, Nat.succ_mul]; omega
theorem zSm_mono (f : Nat → Nat) (n : Nat) : zSm f n ≤ zSm f (n + 1) := by rw [zSm]; omega
def zbit (s p : Nat) : Nat := s / 2 ^ p % 2
theorem zbit_lt (s p : Nat) : zbit s p < 2 := Nat.mod_lt _ (by omega)
theorem zi_bit {s p : Nat} (hs : s < 2147483648) (hp : p < 6) : (nI s >>> (nI p &&& 31)) &&& 1 = nI (zbit s p) := by
  have h1 : nI s >>> (nI p &&& 31) = nI (s / 2 ^ p) := by
    rcases (show p = 0 ∨ p = 1 ∨ p = 2 ∨ p = 3 ∨ p = 4 ∨ p = 5 by omega) with rfl | rfl | rfl | rfl | rfl | rfl
    · exact pk_shrN (by omega) _ 0 (by decide)
    · exact pk_shrN (by omega) _ 1 (by decide)
    · exact pk_shrN (by omega) _ 2 (by decide)
    · exact pk_shrN (by omega) _ 3 (by decide)
    · exact pk_shrN (by omega) _ 4 (by decide)
    · exact pk_shrN (by omega) _ 5 (by decide)
  rw [h1]
  have h2 : s / 2 ^ p ≤ s := Nat.div_le_self _ _
  have := pk_andN (n := s / 2 ^ p) (by omega) (m := 1) 1 (by decide)
  rw [this]
  rfl
/-- an answer 1 or 0 that tells whether an int lies among the first n naturals -/
theorem zi_ex {x : Int32} {n : Nat} (h : 0 ≤ x.toInt ∧ x.toInt < (n : Int)) : ∃ k, k < n ∧ x = nI k := by
  refine ⟨x.toInt.toNat, by omega, ?_⟩
  exact zi_eq (zi_self x) (zi_n _) (by omega)
theorem zi_ex2 {x : Int32} {a b : Nat} (h : (a : Int) ≤ x.toInt ∧ x.toInt ≤ (b : Int)) : ∃ k, a ≤ k ∧ k ≤ b ∧ x = nI k := by
  refine ⟨x.toInt.toNat, by omega, by omega, ?_⟩
  exact zi_eq (zi_self x) (zi_n _) (by omega)
theorem zi_lo (x : Int32) : -2147483648 ≤ x.toInt := Int32.le_toInt x
theorem zi_hi (x : Int32) : x.toInt < 2147483648 := Int32.toInt_lt x
theorem zi_nt {n : Nat} (h : n < 2147483648) : (nI n).toInt = (n : Int) := nI_toInt (by omega)
/-- a march's steps in a minute -/
def zMs (mp : Nat → Nat) (mi m : Nat) : Nat := if mp (3 * m + 0) ≤ mi ∧ mi < mp (3 * m + 0) + mp (3 * m + 1) then mp (3 * m + 2) else 0
abbrev zMay (wc wp dn : Nat → Nat) (mi hr p : Nat) : Prop := dn p < wc p ∧ (if wp (16 * p + 4 * dn p + 0) = 1 then hr else mi) ≥ wp (16 * p + 4 * dn p + 1)
/-- what is left of a person's way when it takes its steps -/
def zL1 (wc wp dn lf : Nat → Nat) (mi hr p : Nat) : Nat := if lf p = 0 ∧ zMay wc wp dn mi hr p then wp (16 * p + 4 * dn p + 2) else lf p
def zTk (wc wp dn lf : Nat → Nat) (mi hr p : Nat) : Nat := min (zL1 wc wp dn lf mi hr p) (wp (16 * p + 4 * dn p + 3))
def zLf (wc wp dn lf : Nat → Nat) (mi hr p : Nat) : Nat := zL1 wc wp dn lf mi hr p - zTk wc wp dn lf mi hr p
def zDn (wc wp dn lf : Nat → Nat) (mi hr p : Nat) : Nat := if zL1 wc wp dn lf mi hr p ≠ 0 ∧ zLf wc wp dn lf mi hr p = 0 then dn p + 1 else dn p
theorem zL1_a {wc wp dn lf : Nat → Nat} {mi hr p : Nat} (h : ¬ lf p = 0) : lf p = zL1 wc wp dn lf mi hr p := by rw [zL1, if_neg (fun q => h q.1)]
theorem zL1_b {wc wp dn lf : Nat → Nat} {mi hr p : Nat} (h : ¬ zMay wc wp dn mi hr p) : lf p = zL1 wc wp dn lf mi hr p := by rw [zL1, if_neg (fun q => h q.2)]
theorem zL1_c {wc wp dn lf : Nat → Nat} {mi hr p : Nat} (h : zMay wc wp dn mi hr p) (h0 : lf p = 0) : zL1 wc wp dn lf mi hr p = wp (16 * p + 4 * dn p + 2) := by rw [zL1, if_pos ⟨h0, h⟩]
theorem zTk_e {wc wp dn lf : Nat → Nat} {mi hr p : Nat} {a b : Nat} (ha : a = zL1 wc wp dn lf mi hr p) (hb : b = wp (16 * p + 4 * dn p + 3)) (h1 : a < 2147483648) (h2 : b < 2147483648) : (if nI a < nI b then nI a else nI b) = nI (zTk wc wp dn lf mi hr p) := by
  rw [zTk, ← ha, ← hb]
  by_cases h : a < b
  · rw [if_pos (nI_lt h (by omega)), Nat.min_eq_left (by omega)]
  · rw [if_neg (nI_nlt (by omega) (by omega)), Nat.min_eq_right (by omega)]
theorem zTk_le (wc wp dn lf : Nat → Nat) (mi hr p : Nat) : zTk wc wp dn lf mi hr p ≤ zL1 wc wp dn lf mi hr p := Nat.min_le_left _ _
theorem zTk_le2 (wc wp dn lf : Nat → Nat) (mi hr p : Nat) : zTk wc wp dn lf mi hr p ≤ wp (16 * p + 4 * dn p + 3) := Nat.min_le_right _ _
theorem zL1_cong {wc wp dn lf dn2 lf2 : Nat → Nat} {mi hr p : Nat} (h : dn2 p = dn p) (k : lf2 p = lf p) : zL1 wc wp dn2 lf2 mi hr p = zL1 wc wp dn lf mi hr p := by simp only [zL1, zMay, h, k]
theorem zTk_cong {wc wp dn lf dn2 lf2 : Nat → Nat} {mi hr p : Nat} (h : dn2 p = dn p) (k : lf2 p = lf p) : zTk wc wp dn2 lf2 mi hr p = zTk wc wp dn lf mi hr p := by rw [zTk, zTk, zL1_cong h k, h]
theorem zLf_cong {wc wp dn lf dn2 lf2 : Nat → Nat} {mi hr p : Nat} (h : dn2 p = dn p) (k : lf2 p = lf p) : zLf wc wp dn2 lf2 mi hr p = zLf wc wp dn lf mi hr p := by rw [zLf, zLf, zL1_cong h k, zTk_cong h k]
theorem zDn_cong {wc wp dn lf dn2 lf2 : Nat → Nat} {mi hr p : Nat} (h : dn2 p = dn p) (k : lf2 p = lf p) : zDn wc wp dn2 lf2 mi hr p = zDn wc wp dn lf mi hr p := by rw [zDn, zDn, zL1_cong h k, zLf_cong h k, h]
theorem zu_at (f : Nat → Nat) (k v : Nat) : zu f k v k = v := by simp [zu]
theorem zu_ne {f : Nat → Nat} {k v j : Nat} (h : j ≠ k) : zu f k v j = f j := by simp [zu, h]
theorem zu_id {f : Nat → Nat} {k v : Nat} (h : f k = v) : f = zu f k v := by
  funext j
  by_cases q : j = k
  · subst q; rw [zu_at, h]
  · rw [zu_ne q]
theorem zu_zu (f : Nat → Nat) (k v w : Nat) : zu (zu f k v) k w = zu f k w := by
  funext j
  by_cases q : j = k
  · subst q; rw [zu_at, zu_at]
  · rw [zu_ne q, zu_ne q, zu_ne q]
/-- a row of which the first n who don't sit have the new entries -/
def zNew (si n : Nat) (new old : Nat → Nat) : Nat → Nat := fun p => if p < n ∧ zbit si p = 0 then new p else old p
theorem zNew_0 (si : Nat) (new old : Nat → Nat) : zNew si 0 new old = old := by funext p; simp [zNew]
theorem zNew_s {si n : Nat} (new old : Nat → Nat) (h : zbit si n = 0) : zNew si (n + 1) new old = zu (zNew si n new old) n (new n) := by
  funext p
  simp only [zNew, zu]
  by_cases q : p = n
  · subst q; simp [h]
  · by_cases q2 : p < n
    · rw [if_neg q]; simp only [q2, show p < n + 1 by omega]
    · rw [if_neg q, if_neg (by omega), if_neg (by omega)]
theorem zNew_t {si n : Nat} (new old : Nat → Nat) (h : ¬ zbit si n = 0) : zNew si (n + 1) new old = zNew si n new old := by
  funext p
  simp only [zNew]
  by_cases q : p = n
  · subst q; simp [h]
  · by_cases q2 : p < n
    · simp only [q2, show p < n + 1 by omega]
    · rw [if_neg (by omega), if_neg (by omega)]
theorem zNew_at {si n : Nat} (new old : Nat → Nat) : zNew si n new old n = old n := by simp [zNew]
def zTs (wc wp dn lf : Nat → Nat) (mi hr si p : Nat) : Nat := if zbit si p = 0 then zTk wc wp dn lf mi hr p else 0
theorem zMs_le {mp : Nat → Nat} (h : ∀ k, mp k < 1000) (mi : Nat) : ∀ k, zMs mp mi k ≤ 1000 := by
  intro k
  have := h (3 * k + 2)
  rw [zMs]
  split <;> omega
theorem zTs_le {wc wp dn lf : Nat → Nat} {mi hr si : Nat} (h : ∀ k, wp k < 1000) : ∀ p, zTs wc wp dn lf mi hr si p ≤ 1000 := by
  intro p
  have h1 := zTk_le2 wc wp dn lf mi hr p
  have h2 := h (16 * p + 4 * dn p + 3)
  rw [zTs]
  split <;> omega
/-- rows of days whose steps, added, are about x: how many, the first -/
abbrev zHit (wr : Nat → Nat) (x e i k : Nat) : Prop := x ≤ zSm (fun q => wr (i + q)) (k + 1) + e ∧ zSm (fun q => wr (i + q)) (k + 1) ≤ x + e
def zRs (wr : Nat → Nat) (x e i k : Nat) (s : Nat × Int32 × Int32) : Nat × Int32 × Int32 := if zHit wr x e i k then (s.1 + 1, if s.1 = 0 then nI i else s.2.1, if s.1 = 0 then nI (i + k) else s.2.2) else s
def zRi (wr : Nat → Nat) (x e i : Nat) (s : Nat × Int32 × Int32) : Nat → Nat × Int32 × Int32
  | 0 => s
  | k + 1 => zRs wr x e i k (zRi wr x e i s k)
def zRo (wr : Nat → Nat) (x e n : Nat) : Nat → Nat × Int32 × Int32
  | 0 => (0, -9, -9)
  | i + 1 => zRi wr x e i (zRo wr x e n i) (n - i)
theorem zRs_p {wr : Nat → Nat} {x e i k : Nat} {s : Nat × Int32 × Int32} (h : zHit wr x e i k) : zRs wr x e i k s = (s.1 + 1, if s.1 = 0 then nI i else s.2.1, if s.1 = 0 then nI (i + k) else s.2.2) := by rw [zRs, if_pos h]
theorem zRs_n {wr : Nat → Nat} {x e i k : Nat} {s : Nat × Int32 × Int32} (h : ¬ zHit wr x e i k) : zRs wr x e i k s = s := by rw [zRs, if_neg h]
theorem zRs_le (wr : Nat → Nat) (x e i k : Nat) (s : Nat × Int32 × Int32) : (zRs wr x e i k s).1 ≤ s.1 + 1 := by
  by_cases h : zHit wr x e i k
  · rw [zRs_p h]; exact Nat.le_refl _
  · rw [zRs_n h]; omega
theorem zRi_le (wr : Nat → Nat) (x e i : Nat) (s : Nat × Int32 × Int32) : ∀ k, (zRi wr x e i s k).1 ≤ s.1 + k
  | 0 => Nat.le_refl _
  | k + 1 => by have h1 := zRi_le wr x e i s k; have h2 := zRs_le wr x e i k (zRi wr x e i s k); rw [zRi]; omega
theorem zRo_le (wr : Nat → Nat) (x e n : Nat) : ∀ i, (zRo wr x e n i).1 ≤ i * n
  | 0 => by simp [zRo]
  | i + 1 => by have h1 := zRo_le wr x e n i; have h2 := zRi_le wr x e i (zRo wr x e n i) (n - i); rw [zRo, Nat.succ_mul]; omega
