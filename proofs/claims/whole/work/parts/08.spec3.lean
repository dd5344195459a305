/-! SPEC 3: answers with NONE; the calls' answers -/
def zNo (v : Nat) : Int32 := if v < 241 then nI v else -9
def zOi (v : Nat) : Int := if v < 241 then (v : Int) else -9
theorem zNo_z (v : Nat) : zNo v = zi (zOi v) := by
  rw [zNo, zOi]
  split
  · exact zi_n v
  · rfl
theorem zOi_s (v : Nat) : (v < 241 ∧ zOi v = (v : Int)) ∨ (241 ≤ v ∧ zOi v = -9) := by
  rw [zOi]
  split
  · exact Or.inl ⟨by assumption, rfl⟩
  · exact Or.inr ⟨by omega, rfl⟩
theorem zNo_lt {v : Nat} (h : v < 241) : zNo v = nI v := by rw [zNo, if_pos h]
theorem zNo_no {v : Nat} (h : 241 ≤ v) : zNo v = -9 := by rw [zNo, if_neg (by omega)]
abbrev zg (h : Nat → Nat) : Nat → Int32 := fun k => zNo (h k)
theorem zg_upd (h : Nat → Nat) (k v : Nat) : upd (zg h) k (zNo v) = zg (zu h k v) := by
  funext j
  by_cases q : j = k <;> simp [upd, zg, zu, q]
/-- a search: the first of n places from i on where q holds; 241: none -/
def zFn (q : Nat → Bool) : Nat → Nat → Nat
  | 0, _ => 241
  | n + 1, i => if q i then i else zFn q n (i + 1)
theorem zFn_y {q : Nat → Bool} {n i : Nat} (h : q i = true) : zFn q (n + 1) i = i := by rw [zFn, if_pos h]
theorem zFn_n {q : Nat → Bool} {n i : Nat} (h : q i = false) : zFn q (n + 1) i = zFn q n (i + 1) := by rw [zFn, if_neg (by rw [h]; decide)]
theorem zFn_le {q : Nat → Bool} : ∀ {n i : Nat}, i + n ≤ 241 → zFn q n i ≤ 241
  | 0, _, _ => Nat.le_refl _
  | n + 1, i, h => by
    rw [zFn]
    split
    · omega
    · exact zFn_le (by omega)
/-- the last of the first n places where q holds; 241: none -/
def zLn (q : Nat → Bool) : Nat → Nat
  | 0 => 241
  | n + 1 => if q n then n else zLn q n
theorem zLn_y {q : Nat → Bool} {n : Nat} (h : q n = true) : zLn q (n + 1) = n := by rw [zLn, if_pos h]
theorem zLn_n {q : Nat → Bool} {n : Nat} (h : q n = false) : zLn q (n + 1) = zLn q n := by rw [zLn, if_neg (by rw [h]; decide)]
def zNow (mi st si hs on : Nat) (w : Int32) : Int32 := if w = 0 then nI mi else if w = 1 then nI st else if w = 2 then nI (st / hs) else if w = 3 then nI on else if w = 4 then nI si else if w = 5 then nI (mi / 60) else -1
def zOne (mi st hs : Nat) (x : Int32) : Int32 := if 1 ≤ x.toInt ∧ x.toInt ≤ 9999 then (if mi < 240 then nI ((st + x.toInt.toNat) / hs) else -2) else -1
def zOneS (mi st : Nat) (x : Int32) : Nat := if (1 ≤ x.toInt ∧ x.toInt ≤ 9999) ∧ mi < 240 then st + x.toInt.toNat else st
def zPers (np : Nat) (dn lf tk : Nat → Nat) (x w : Int32) : Int32 := if 0 ≤ x.toInt ∧ x.toInt < (np : Int) then (if w = 0 then nI (dn x.toInt.toNat) else if w = 1 then (if lf x.toInt.toNat > 0 then 1 else 0) else if w = 2 then nI (lf x.toInt.toNat) else if w = 3 then nI (tk x.toInt.toNat) else -1) else -1
def zComes (hs np nm : Nat) (wc wp mp : Nat → Nat) (h : Int32) (si : Nat) : Int32 := if 1 ≤ h.toInt ∧ h.toInt ≤ 9999 then zNo (zFn (zHq hs np nm wc wp mp si 0 h.toInt.toNat) 241 0) else -1
def zStpA (to : Nat → Nat) (t : Int32) : Int32 := if 0 ≤ t.toInt ∧ t.toInt ≤ 240 then nI (to t.toInt.toNat) else -1
def zSd (to : Nat → Nat) : Nat → Nat
  | 0 => 0
  | t + 1 => if to (t + 1) > to t then t + 1 else zSd to t
theorem zSd_le (to : Nat → Nat) : ∀ t, zSd to t ≤ t
  | 0 => Nat.le_refl _
  | t + 1 => by have := zSd_le to t; rw [zSd]; split <;> omega
def zHangA (hg : Int32) (to : Nat → Nat) (w : Int32) : Int32 := if w = 0 then hg else if w = 1 then nI (zSd to 240) else -1
def zLeast (hs : Nat) (to : Nat → Nat) (h t : Int32) : Int32 := if (1 ≤ h.toInt ∧ h.toInt ≤ 9999) ∧ 1 ≤ t.toInt ∧ t.toInt ≤ 240 then (if to (t.toInt.toNat - 1) / hs ≥ h.toInt.toNat then -9 else nI (h.toInt.toNat * hs - to t.toInt.toNat)) else -1
/-- when work w ends that is begun at m -/
def zEnd (kp to : Nat → Nat) (w m : Nat) : Nat := if kp (3 * w + 0) = 1 then (if m + kp (3 * w + 1) ≤ 240 then m + kp (3 * w + 1) else 241) else zFn (fun t => decide (to t ≥ to m + kp (3 * w + 1))) (241 - m) m
theorem zEnd_le {kp to : Nat → Nat} {w m : Nat} (h : m ≤ 241) : zEnd kp to w m ≤ 241 := by
  rw [zEnd]
  split
  · split <;> omega
  · exact zFn_le (by omega)
def zEnds (nw : Nat) (kp to : Nat → Nat) (w m : Int32) : Int32 := if (0 ≤ w.toInt ∧ w.toInt < (nw : Int)) ∧ 0 ≤ m.toInt ∧ m.toInt ≤ 240 then zNo (zEnd kp to w.toInt.toNat m.toInt.toNat) else -1
/-- the earliest end of a set of works, by those of the sets with one less -/
def zEw (kp to se : Nat → Nat) (s : Nat) : Nat → Nat
  | 0 => 241
  | w + 1 => if zbit s w = 1 then min (if se (s - 2 ^ w) < 241 then zEnd kp to w (se (s - 2 ^ w)) else 241) (zEw kp to se s w) else zEw kp to se s w
theorem zEw_le (kp to se : Nat → Nat) (s : Nat) : ∀ w, zEw kp to se s w ≤ 241
  | 0 => Nat.le_refl _
  | w + 1 => by
    have := zEw_le kp to se s w
    rw [zEw]
    split
    · exact Nat.le_trans (Nat.min_le_right _ _) this
    · exact this
def zWo (kp : Nat → Nat) (s : Nat) (n : Nat) : Nat := zSm (fun w => if zbit s w = 1 then kp (3 * w + 2) else 0) n
def zBt (kp se : Nat → Nat) (nw : Nat) : Nat → Nat
  | 0 => 0
  | k + 1 => if se (k + 1) < 241 ∧ zWo kp (k + 1) nw > zWo kp (zBt kp se nw k) nw then k + 1 else zBt kp se nw k
theorem zBt_le (kp se : Nat → Nat) (nw : Nat) : ∀ k, zBt kp se nw k ≤ k
  | 0 => Nat.le_refl _
  | k + 1 => by have := zBt_le kp se nw k; rw [zBt]; split <;> omega
theorem zWo_le {kp : Nat → Nat} (h : ∀ k, kp k < 1000) (s : Nat) (n : Nat) : zWo kp s n ≤ n * 1000 := by
  refine zSm_le (fun k => ?_) n
  have := h (3 * k + 2)
  split <;> omega
/-- the earliest ends of all sets -/
def zEf (kp to : Nat → Nat) (nw : Nat) : Nat → Nat → Nat
  | 0, _ => 0
  | n + 1, s => if s = 0 then 0 else zEw kp to (zEf kp to nw n) s nw
def zEt (kp to : Nat → Nat) (nw s : Nat) : Nat := zEf kp to nw 64 s
def zDayA (kp to : Nat → Nat) (nw : Nat) (w : Int32) : Int32 := if 0 ≤ w.toInt ∧ w.toInt ≤ 2 then (if w = 0 then nI (zWo kp (zBt kp (zEt kp to nw) nw (2 ^ nw - 1)) nw) else if w = 1 then nI (zBt kp (zEt kp to nw) nw (2 ^ nw - 1)) else zNo (zEt kp to nw (zBt kp (zEt kp to nw) nw (2 ^ nw - 1)))) else -1
/-- wages -/
def zPay (hs a w : Nat) : Nat := a / hs * w
abbrev zRest (hs k n b s w t : Nat) : Prop := (k = 0 ∨ zPay hs (b + (k - 1) * s) w + t ≤ zPay hs (b + k * s) w) ∧ (k = n ∨ zPay hs (b + (k + 1) * s) w ≤ zPay hs (b + k * s) w + t)
def zRe (hs n b s w t : Nat) : Nat → Nat × Nat × Nat
  | 0 => (241, 241, 0)
  | k + 1 => if zRest hs k n b s w t then (if (zRe hs n b s w t k).2.2 = 0 then k else (zRe hs n b s w t k).1, k, (zRe hs n b s w t k).2.2 + 1) else zRe hs n b s w t k
theorem zRe_le (hs n b s w t : Nat) : ∀ k, (zRe hs n b s w t k).2.2 ≤ k
  | 0 => Nat.le_refl _
  | k + 1 => by
    have := zRe_le hs n b s w t k
    rw [zRe]
    split
    · show (zRe hs n b s w t k).2.2 + 1 ≤ k + 1
      omega
    · omega
def zTg (hs n b s w t k : Nat) : Int := (n : Int) * (zPay hs (b + k * s) w : Int) - (k : Int) * (t : Int)
def zBf (hs n b s w t : Nat) : Nat → Nat
  | 0 => 0
  | k + 1 => if zTg hs n b s w t (k + 1) > zTg hs n b s w t (zBf hs n b s w t k) then k + 1 else zBf hs n b s w t k
theorem zBf_le (hs n b s w t : Nat) : ∀ k, zBf hs n b s w t k ≤ k
  | 0 => Nat.le_refl _
  | k + 1 => by have := zBf_le hs n b s w t k; rw [zBf]; split <;> omega
theorem zPay_le {hs a w : Nat} (hh : 0 < hs) (ha : a ≤ 20000) (hw : w ≤ 99) : zPay hs a w ≤ 1980000 := by
  have h1 : a / hs ≤ a := Nat.div_le_self _ _
  exact Nat.le_trans (Nat.mul_le_mul (Nat.le_trans h1 ha) hw) (by decide)
def zWages (hs : Nat) (n b s w t u : Int32) : Int32 := if ((1 ≤ n.toInt ∧ n.toInt ≤ 8) ∧ (0 ≤ b.toInt ∧ b.toInt ≤ 9999) ∧ (1 ≤ s.toInt ∧ s.toInt ≤ 999)) ∧ (0 ≤ w.toInt ∧ w.toInt ≤ 99) ∧ (0 ≤ t.toInt ∧ t.toInt ≤ 99) ∧ (0 ≤ u.toInt ∧ u.toInt ≤ 3) then (if u = 3 then nI (zBf hs n.toInt.toNat b.toInt.toNat s.toInt.toNat w.toInt.toNat t.toInt.toNat n.toInt.toNat) else if u = 2 then nI (zRe hs n.toInt.toNat b.toInt.toNat s.toInt.toNat w.toInt.toNat t.toInt.toNat (n.toInt.toNat + 1)).2.2 else if u = 0 then zNo (zRe hs n.toInt.toNat b.toInt.toNat s.toInt.toNat w.toInt.toNat t.toInt.toNat (n.toInt.toNat + 1)).1 else zNo (zRe hs n.toInt.toNat b.toInt.toNat s.toInt.toNat w.toInt.toNat t.toInt.toNat (n.toInt.toNat + 1)).2.1) else -1
abbrev zAl (hs : Nat) (to : Nat → Nat) (t : Nat) : Prop := t / 60 = to t / hs
def zAlc (hs : Nat) (to : Nat → Nat) (t : Nat) : Nat := if zAl hs to t then 1 else 0
theorem zAlc_le (hs : Nat) (to : Nat → Nat) (t : Nat) : zAlc hs to t ≤ 1 := by rw [zAlc]; split <;> omega
def zEven (hs : Nat) (to : Nat → Nat) (t w : Int32) : Int32 := if 0 ≤ t.toInt ∧ t.toInt ≤ 240 then (if w = 0 then nI (t.toInt.toNat / 60) else if w = 1 then nI (to t.toInt.toNat / hs) else if w = 2 then nI (zSm (zAlc hs to) 241) else if w = 3 then zNo (zLn (fun t => decide (zAl hs to t)) 241) else -1) else -1
/-- strikes -/
def zPop (s : Nat) : Nat := zSm (fun p => zbit s p) 6
def zSq (hs np nm : Nat) (wc wp mp : Nat → Nat) (h t s : Nat) : Bool := decide (241 ≤ zFn (zHq hs np nm wc wp mp s 0 h) (t + 1) 0)
def zSi (hs np nm : Nat) (wc wp mp : Nat → Nat) (h t z : Nat) : Nat := zFn (fun s => decide (zPop s = z) && zSq hs np nm wc wp mp h t s) (2 ^ np - 1) 0
def zSo (hs np nm : Nat) (wc wp mp : Nat → Nat) (h t : Nat) : Nat → Nat → Nat
  | 0, _ => 2 ^ np - 1
  | n + 1, z => if zSi hs np nm wc wp mp h t z < 241 then zSi hs np nm wc wp mp h t z else zSo hs np nm wc wp mp h t n (z + 1)
def zFew (hs np nm : Nat) (wc wp mp : Nat → Nat) (h t : Nat) : Nat := if zSq hs np nm wc wp mp h t (2 ^ np - 1) = true then zSo hs np nm wc wp mp h t np 0 else 241
def zStrike (hs np nm : Nat) (wc wp mp : Nat → Nat) (h t w : Int32) : Int32 := if (1 ≤ h.toInt ∧ h.toInt ≤ 9999) ∧ (1 ≤ t.toInt ∧ t.toInt ≤ 240) ∧ (0 ≤ w.toInt ∧ w.toInt ≤ 1) then (if 241 ≤ zFew hs np nm wc wp mp h.toInt.toNat t.toInt.toNat then -9 else if w = 0 then nI (zFew hs np nm wc wp mp h.toInt.toNat t.toInt.toNat) else nI (zPop (zFew hs np nm wc wp mp h.toInt.toNat t.toInt.toNat))) else -1
def zUn (q : Nat → Bool) : Nat → Nat → Nat
  | 0, f => f
  | k + 1, f => zUn q k (if f + 2 ^ k ≤ 10000 ∧ q (f + 2 ^ k - 1) = true then f + 2 ^ k else f)
def zUq (hs np nm : Nat) (wc wp mp : Nat → Nat) (si h t f : Nat) : Bool := decide (241 ≤ zFn (zHq hs np nm wc wp mp si f h) (t + 1) 0)
def zUndo (hs np nm : Nat) (wc wp mp : Nat → Nat) (si : Nat) (h t : Int32) : Int32 := if (1 ≤ h.toInt ∧ h.toInt ≤ 9999) ∧ (1 ≤ t.toInt ∧ t.toInt ≤ 240) then (if zUn (zUq hs np nm wc wp mp si h.toInt.toNat t.toInt.toNat) 14 0 > 9999 then -9 else nI (zUn (zUq hs np nm wc wp mp si h.toInt.toNat t.toInt.toNat) 14 0)) else -1
def zStair (nd : Nat) (x : Int32) : Int32 := if 0 ≤ x.toInt ∧ x.toInt ≤ 9999 then (if nd ≥ 20 then -3 else nI (nd + 1)) else -1
abbrev zStairP (nd : Nat) (x : Int32) : Prop := (0 ≤ x.toInt ∧ x.toInt ≤ 9999) ∧ nd < 20
def zWorn (nd : Nat) (wr : Nat → Nat) (x e w : Int32) : Int32 := if (0 ≤ x.toInt ∧ x.toInt ≤ 199999) ∧ (0 ≤ e.toInt ∧ e.toInt ≤ 999) ∧ (0 ≤ w.toInt ∧ w.toInt ≤ 2) then (if w = 0 then nI (zRo wr x.toInt.toNat e.toInt.toNat nd nd).1 else if w = 1 then (zRo wr x.toInt.toNat e.toInt.toNat nd nd).2.1 else (zRo wr x.toInt.toNat e.toInt.toNat nd nd).2.2) else -1
def zMark (np hs mi st : Nat) (lf tk : Nat → Nat) (k x : Int32) : Int32 := if 0 ≤ x.toInt ∧ x.toInt < (np : Int) then (if k = 0 then nI (tk x.toInt.toNat) else if k = 1 then nI (tk x.toInt.toNat + lf x.toInt.toNat) else if k = 2 then nI (tk x.toInt.toNat) - nI (st / hs) else if k = 3 then nI ((tk x.toInt.toNat + lf x.toInt.toNat) * 2) else if k = 4 then nI (tk x.toInt.toNat) - nI (st / hs) + nI mi else if k = 5 then nI (tk x.toInt.toNat + mi / 60) else -1000000) else -1000000
def zMarkT (np : Nat) (k x : Int32) (tr : Int64) : Int64 := if 0 ≤ x.toInt ∧ x.toInt < (np : Int) then (if k = 0 then tr + 1 else if k = 1 then tr + 10 + 1 else if k = 2 then tr + 100 + 1 else if k = 3 then tr + 1000 + 10 + 1 else if k = 4 then tr + 10000 + 100 + 1 else if k = 5 then tr + 100000 + 1 else tr) else tr
def zKeep (mi : Nat) (i : Int32) : Int32 := if 0 ≤ i.toInt ∧ i.toInt ≤ 1 then nI mi else -1
def zCount (np nm nw nd tx hs : Nat) (w : Int32) : Int32 := if w = 0 then nI np else if w = 1 then nI nm else if w = 2 then nI nw else if w = 3 then nI nd else if w = 4 then nI tx else if w = 5 then nI hs else -1
theorem zLeast_m {hs to : Nat} {h : Int32} (hx : 1 ≤ h.toInt ∧ h.toInt ≤ 9999) (hm : h.toInt.toNat * hs ≤ 9999 * 999) (hs1 : hs < 1000) (ht : to < 10000000) : (if (0 : Int32) < h * nI hs - nI to then h * nI hs - nI to else 0) = nI (h.toInt.toNat * hs - to) := by
  have e1 : h = nI h.toInt.toNat := zi_eq (zi_self h) (zi_n _) (by omega)
  have e2 : h * nI hs = nI (h.toInt.toNat * hs) := by
    rw [← pk_mul, ← e1]
  rw [e2]
  generalize h.toInt.toNat * hs = q at *
  have e3 : nI q - nI to = zi ((q : Int) - to) := zi_sub (zi_n q) (zi_n to)
  rw [e3]
  have e4 : (0 : Int32) < zi ((q : Int) - to) ↔ (0 : Int) < (q : Int) - to := zi_lt (zi_c (x := 0) 0 rfl) rfl (by omega) (by omega)
  by_cases c : to < q
  · rw [if_pos (e4.mpr (by omega))]
    exact zi_eq rfl (zi_n _) (by omega)
  · rw [if_neg (fun z => by have := e4.mp z; omega), show q - to = 0 by omega]
    rfl
theorem zbit_pw {s w : Nat} (h : zbit s w = 1) : 2 ^ w ≤ s := by
  rcases Nat.lt_or_ge s (2 ^ w) with q | q
  · rw [zbit, Nat.div_eq_of_lt q] at h; exact absurd h (by decide)
  · exact q
theorem zi_clr {s w : Nat} (hs : s < 64) (hw : w < 6) (h : zbit s w = 1) : nI s &&& (nI (2 ^ w) ^^^ (-1)) = nI (s - 2 ^ w) := by
  have key : ∀ w, w < 6 → ∀ s, s < 64 → zbit s w = 1 → nI s &&& (nI (2 ^ w) ^^^ (-1)) = nI (s - 2 ^ w) := by decide +kernel
  exact key w hw s hs h
theorem zMin64 {n : Nat} (h : n ≤ 6) : (if (64 : Int32) < nI (2 ^ n) then (64 : Int32) else nI (2 ^ n)) = nI (2 ^ n) := by
  have h1 := (zp6 h).1
  have h2 := (zp6 h).2
  rw [if_neg (fun z => by have := (zi_lt (zi_c (x := 64) 64 rfl) (zi_n (2 ^ n)) (by omega) (by omega)).mp z; omega)]
theorem zEw_m {c d e : Nat} (h : c = min e d) : zNo c = zNo (min e d) := by rw [h]
theorem zEw_cong {kp to se se2 : Nat → Nat} {s : Nat} (h : ∀ k, k < s → se k = se2 k) : ∀ n, zEw kp to se s n = zEw kp to se2 s n
  | 0 => rfl
  | n + 1 => by
    rw [zEw, zEw, zEw_cong h n]
    by_cases c : zbit s n = 1
    · have h1 := zbit_pw c
      have h2 : 0 < 2 ^ n := Nat.pow_pos (by decide)
      rw [h (s - 2 ^ n) (by omega)]
    · rw [if_neg c, if_neg c]
theorem zEf_st {kp to : Nat → Nat} {nw : Nat} : ∀ n s, s ≤ n → zEf kp to nw (n + 1) s = zEf kp to nw n s
  | 0, s, h => by
    have h0 : s = 0 := by omega
    subst h0
    rfl
  | n + 1, s, h => by
    rw [zEf, zEf]
    by_cases c : s = 0
    · rw [if_pos c, if_pos c]
    · rw [if_neg c, if_neg c]
      exact zEw_cong (fun k hk => zEf_st n k (by omega)) nw
theorem zEt_0 (kp to : Nat → Nat) (nw : Nat) : zEt kp to nw 0 = 0 := by rw [zEt, zEf, if_pos rfl]
theorem zEt_p {kp to : Nat → Nat} {nw s : Nat} (h0 : s ≠ 0) (h : s < 64) : zEt kp to nw s = zEw kp to (zEt kp to nw) s nw := by
  have e : zEt kp to nw s = zEw kp to (zEf kp to nw 63) s nw := by rw [zEt, zEf, if_neg h0]
  rw [e]
  exact zEw_cong (fun k hk => (zEf_st 63 k (by omega)).symm) nw
theorem zEt_s0 {kp to s8 : Nat → Nat} {nw i : Nat} (h : ∀ k, k < i → s8 k = zEt kp to nw k) (hi : i = 0) : ∀ k, k < i + 1 → zu s8 i 0 k = zEt kp to nw k := by
  intro k hk
  have h0 : k = i := by omega
  subst h0
  rw [zu_at, hi, zEt_0]
theorem zEt_ss {kp to s8 : Nat → Nat} {nw i : Nat} (h : ∀ k, k < i → s8 k = zEt kp to nw k) (hi : i ≠ 0) (hl : i < 64) : ∀ k, k < i + 1 → zu s8 i (zEw kp to s8 i nw) k = zEt kp to nw k := by
  intro k hk
  by_cases q : k = i
  · subst q
    rw [zu_at, zEt_p hi hl]
    exact zEw_cong h nw
  · rw [zu_ne q]
    exact h k (by omega)
theorem zBt_cong {kp se se2 : Nat → Nat} {nw n : Nat} (h : ∀ k, k < n → se k = se2 k) : ∀ i, i < n → zBt kp se nw i = zBt kp se2 nw i
  | 0, _ => rfl
  | i + 1, hi => by rw [zBt, zBt, zBt_cong h i (by omega), h (i + 1) hi]
theorem zi_w {w : Int32} {a : Int} {b : Int32} (h : w.toInt = a) (hb : b.toInt = a) : w = b := Int32.toInt_inj.mp (h.trans hb.symm)
theorem zi_wn {w : Int32} {a : Int} {b : Int32} (h : ¬ w.toInt = a) (hb : b.toInt = a) : ¬ w = b := fun q => h (by rw [q, hb])
theorem zTg_le {hs n b s w t k : Nat} (hh : 0 < hs) (hn : n ≤ 8) (hk : k ≤ n) (hb : b ≤ 9999) (hs1 : s ≤ 999) (hw : w ≤ 99) (ht : t ≤ 99) : -1000 ≤ zTg hs n b s w t k ∧ zTg hs n b s w t k ≤ 20000000 := by
  have h1 : k * s ≤ 8 * 999 := Nat.mul_le_mul (by omega) (by omega)
  have h2 := zPay_le (a := b + k * s) (w := w) hh (by omega) hw
  have h3 : n * zPay hs (b + k * s) w ≤ 8 * 1980000 := Nat.mul_le_mul hn h2
  have h4 : k * t ≤ 8 * 99 := Nat.mul_le_mul (by omega) ht
  rw [zTg]
  have h5 : (n : Int) * (zPay hs (b + k * s) w : Int) = ((n * zPay hs (b + k * s) w : Nat) : Int) := (Int.natCast_mul _ _).symm
  have h6 : (k : Int) * (t : Int) = ((k * t : Nat) : Int) := (Int.natCast_mul _ _).symm
  rw [h5, h6]
  omega
theorem zq_n1 {s z : Nat} {b : Bool} (h : ¬ zPop s = z) : (decide (zPop s = z) && b) = false := by rw [decide_eq_false h]; rfl
theorem zq_n2 {s z : Nat} {b : Bool} (h : b = false) : (decide (zPop s = z) && b) = false := by rw [h, Bool.and_false]
theorem zq_y {s z : Nat} {b : Bool} (h : zPop s = z) (h2 : b = true) : (decide (zPop s = z) && b) = true := by rw [decide_eq_true h, h2]; rfl
theorem zp14 {k : Nat} (h : k ≤ 14) : 2 ^ k ≤ 16384 := Nat.pow_le_pow_right (by decide) h
theorem zUb {k : Nat} (h1 : 1 ≤ k) (h : k ≤ 14) : nI (2 ^ k / 2) >>> ((1 : Int32) &&& 31) = nI (2 ^ (k - 1) / 2) := by
  have h2 := zp14 h
  obtain ⟨q, rfl⟩ : ∃ q, k = q + 1 := ⟨k - 1, by omega⟩
  rw [pk_shrN (n := 2 ^ (q + 1) / 2) (by omega) _ 1 (by decide), Nat.pow_succ]
  simp
theorem zPop_le (s : Nat) : zPop s ≤ 6 := by
  have := zSm_le (f := fun p => zbit s p) (b := 1) (fun p => by have := zbit_lt s p; omega) 6
  rw [zPop]; omega
theorem zFn_lt {q : Nat → Bool} : ∀ {n i : Nat}, zFn q n i < 241 → zFn q n i < i + n
  | 0, _, h => absurd h (by rw [zFn]; decide)
  | n + 1, i, h => by
    rw [zFn] at h ⊢
    split
    · omega
    · rename_i c
      rw [if_neg c] at h
      have := zFn_lt h
      omega
theorem zSo_lt {hs np nm : Nat} {wc wp mp : Nat → Nat} {h t : Nat} (hnp : np ≤ 6) : ∀ n z, zSo hs np nm wc wp mp h t n z < 64
  | 0, z => by have := (zp6 hnp).1; have := (zp6 hnp).2; rw [zSo]; omega
  | n + 1, z => by
    have h1 := (zp6 hnp).2
    rw [zSo]
    split
    · rename_i c
      rw [zSi] at c ⊢
      have := zFn_lt c
      omega
    · exact zSo_lt hnp n (z + 1)
theorem zFew_lt {hs np nm : Nat} {wc wp mp : Nat → Nat} {h t : Nat} (hnp : np ≤ 6) : zFew hs np nm wc wp mp h t < 64 ∨ zFew hs np nm wc wp mp h t = 241 := by
  rw [zFew]
  split
  · exact Or.inl (zSo_lt hnp _ _)
  · exact Or.inr rfl
theorem zPk0 {k : Nat} (h : ¬ 2 ^ k / 2 > 0) : k = 0 := by
  rcases Nat.eq_zero_or_pos k with q | q
  · exact q
  · obtain ⟨r, rfl⟩ : ∃ r, k = r + 1 := ⟨k - 1, by omega⟩
    have : 0 < 2 ^ r := Nat.pow_pos (by decide)
    rw [Nat.pow_succ] at h
    omega
theorem zPk1 {k : Nat} (h : 2 ^ k / 2 > 0) : 1 ≤ k := by
  rcases Nat.eq_zero_or_pos k with q | q
  · subst q; exact absurd h (by decide)
  · exact q
theorem zUn_s {q : Nat → Bool} {k f : Nat} (h : 1 ≤ k) : zUn q k f = zUn q (k - 1) (if f + 2 ^ k / 2 ≤ 10000 ∧ q (f + 2 ^ k / 2 - 1) = true then f + 2 ^ k / 2 else f) := by
  obtain ⟨r, rfl⟩ : ∃ r, k = r + 1 := ⟨k - 1, by omega⟩
  have e : 2 ^ (r + 1) / 2 = 2 ^ r := by rw [Nat.pow_succ]; omega
  rw [zUn, e]
  rfl
