/-! SPEC 5: reading a plan -/
theorem zTokS_le {tb : Nat → Nat} {tx q : Nat} (h : q ≤ tx) : zTokS tb tx q ≤ tx := zSkip_le h
theorem zTokE_le {tb : Nat → Nat} {tx q : Nat} (h : q ≤ tx) : zTokE tb tx q ≤ tx := by
  have h1 : zTokS tb tx q ≤ tx := zTokS_le h
  rw [zTokE]
  split
  · split
    · exact zSkip_le h1
    · split
      · exact zSkip_le h1
      · omega
  · exact h1
theorem zTokSE {tb : Nat → Nat} {tx q : Nat} : zTokS tb tx q ≤ zTokE tb tx q := by
  rw [zTokE]
  split
  · split
    · exact zSkip_ge _ _ _ _
    · split
      · exact zSkip_ge _ _ _ _
      · omega
  · exact Nat.le_refl _
theorem zTokK_le {tb : Nat → Nat} {tx q : Nat} : zTokK tb tx q ≤ 4 := by
  rw [zTokK]
  repeat' split
  all_goals omega
theorem zNum_le {tb : Nat → Nat} (h : ∀ k, tb k < 256) (q : Nat) : ∀ n, zNum tb q n ≤ 10245
  | 0 => Nat.zero_le _
  | n + 1 => by
    have h1 := zNum_le h q n
    have h2 := h (q + n)
    rw [zNum]
    split
    · exact h1
    · omega
theorem zTokN_le {tb : Nat → Nat} (h : ∀ k, tb k < 256) {tx q : Nat} : zTokN tb tx q ≤ 10245 := zNum_le h _ _
/-- a token that a number from lo to hi can be -/
abbrev zNmO (tb : Nat → Nat) (tx q lo hi : Nat) : Prop := zTokK tb tx q = 2 ∧ lo ≤ zTokN tb tx q ∧ zTokN tb tx q ≤ hi
def zNmQ (tb : Nat → Nat) (tx q lo hi : Nat) : Nat := if zNmO tb tx q lo hi then zTokE tb tx q else q
theorem zNmQ_le {tb : Nat → Nat} {tx q lo hi : Nat} (h : q ≤ tx) : zNmQ tb tx q lo hi ≤ tx := by
  rw [zNmQ]
  split
  · exact zTokE_le h
  · exact h
/-- three numbers: whether they stand, where reading stops -/
abbrev zN3O (tb : Nat → Nat) (tx q a b c d e f : Nat) : Prop := zNmO tb tx q a b ∧ zNmO tb tx (zNmQ tb tx q a b) c d ∧ zNmO tb tx (zNmQ tb tx (zNmQ tb tx q a b) c d) e f
def zN3Q (tb : Nat → Nat) (tx q a b c d e f : Nat) : Nat := if zNmO tb tx q a b then (if zNmO tb tx (zNmQ tb tx q a b) c d then zNmQ tb tx (zNmQ tb tx (zNmQ tb tx q a b) c d) e f else zNmQ tb tx (zNmQ tb tx q a b) c d) else zNmQ tb tx q a b
abbrev zWd (tb : Nat → Nat) (tx q j : Nat) : Prop := zIsW (zTokK tb tx q) (zTokS tb tx q) (zTokE tb tx q) tb j
/-- what is read so far -/
abbrev zPl : Type := Nat × Nat × Nat × Nat × Nat × (Nat → Nat) × (Nat → Nat) × (Nat → Nat) × (Nat → Nat)
abbrev zPl.fct (P : zPl) : Nat := P.1
abbrev zPl.fhs (P : zPl) : Nat := P.2.1
abbrev zPl.fnp (P : zPl) : Nat := P.2.2.1
abbrev zPl.fnm (P : zPl) : Nat := P.2.2.2.1
abbrev zPl.fnw (P : zPl) : Nat := P.2.2.2.2.1
abbrev zPl.fwc (P : zPl) : Nat → Nat := P.2.2.2.2.2.1
abbrev zPl.fwp (P : zPl) : Nat → Nat := P.2.2.2.2.2.2.1
abbrev zPl.fmp (P : zPl) : Nat → Nat := P.2.2.2.2.2.2.2.1
abbrev zPl.fkp (P : zPl) : Nat → Nat := P.2.2.2.2.2.2.2.2
abbrev zCkO (tb : Nat → Nat) (tx q ct : Nat) : Prop := ct = 0 ∧ zNmO tb tx (zTokE tb tx q) 10 999
def zCkQ (tb : Nat → Nat) (tx q ct : Nat) : Nat := if ct = 0 then zNmQ tb tx (zTokE tb tx q) 10 999 else q
def zCkH (tb : Nat → Nat) (tx q ct hs : Nat) : Nat := if zCkO tb tx q ct then zTokN tb tx (zTokE tb tx q) else hs
def zPeQ (tb : Nat → Nat) (tx q np : Nat) : Nat := if np < 6 then zTokE tb tx q else q
def zPeN (np : Nat) : Nat := if np < 6 then np + 1 else np
def zPeW (np : Nat) (wc : Nat → Nat) : Nat → Nat := if np < 6 then zu wc np 0 else wc
abbrev zWyC (np : Nat) (wc : Nat → Nat) : Prop := 0 < np ∧ wc (np - 1) < 4
abbrev zWyO (tb : Nat → Nat) (tx q lo hi np : Nat) (wc : Nat → Nat) : Prop := zWyC np wc ∧ zN3O tb tx (zTokE tb tx q) lo hi 1 999 1 99
def zWyQ (tb : Nat → Nat) (tx q lo hi np : Nat) (wc : Nat → Nat) : Nat := if zWyC np wc then zN3Q tb tx (zTokE tb tx q) lo hi 1 999 1 99 else q
def zWyW (tb : Nat → Nat) (tx q lo hi np : Nat) (wc : Nat → Nat) : Nat → Nat := if zWyO tb tx q lo hi np wc then zu wc (np - 1) (wc (np - 1) + 1) else wc
def zWyV (tb : Nat → Nat) (tx q ki lo hi np : Nat) (wc wp : Nat → Nat) : Nat → Nat := if zWyO tb tx q lo hi np wc then zu (zu (zu (zu wp (16 * (np - 1) + 4 * wc (np - 1)) ki) (16 * (np - 1) + 4 * wc (np - 1) + 1) (zTokN tb tx (zTokE tb tx q))) (16 * (np - 1) + 4 * wc (np - 1) + 2) (zTokN tb tx (zNmQ tb tx (zTokE tb tx q) lo hi))) (16 * (np - 1) + 4 * wc (np - 1) + 3) (zTokN tb tx (zNmQ tb tx (zNmQ tb tx (zTokE tb tx q) lo hi) 1 999)) else wp
abbrev zMaO (tb : Nat → Nat) (tx q nm : Nat) : Prop := nm < 4 ∧ zN3O tb tx (zTokE tb tx q) 0 239 1 240 1 999
def zMaQ (tb : Nat → Nat) (tx q nm : Nat) : Nat := if nm < 4 then zN3Q tb tx (zTokE tb tx q) 0 239 1 240 1 999 else q
def zMaN (tb : Nat → Nat) (tx q nm : Nat) : Nat := if zMaO tb tx q nm then nm + 1 else nm
def zMaV (tb : Nat → Nat) (tx q nm : Nat) (mp : Nat → Nat) : Nat → Nat := if zMaO tb tx q nm then zu (zu (zu mp (3 * nm) (zTokN tb tx (zTokE tb tx q))) (3 * nm + 1) (zTokN tb tx (zNmQ tb tx (zTokE tb tx q) 0 239))) (3 * nm + 2) (zTokN tb tx (zNmQ tb tx (zNmQ tb tx (zTokE tb tx q) 0 239) 1 240)) else mp
abbrev zWkW (tb : Nat → Nat) (tx q : Nat) : Prop := zWd tb tx (zTokE tb tx q) 6 ∨ zWd tb tx (zTokE tb tx q) 7
def zWkH (tb : Nat → Nat) (tx q : Nat) : Nat := if zWd tb tx (zTokE tb tx q) 6 then 240 else 999
def zWkI (tb : Nat → Nat) (tx q : Nat) : Nat := if zWd tb tx (zTokE tb tx q) 6 then 1 else 0
theorem zWkH_le {tb : Nat → Nat} {tx q : Nat} : zWkH tb tx q ≤ 999 := by
  rw [zWkH]
  split <;> omega
abbrev zWkN (tb : Nat → Nat) (tx q : Nat) : Nat := zNmQ tb tx (zTokE tb tx (zTokE tb tx q)) 1 (zWkH tb tx q)
abbrev zWkO (tb : Nat → Nat) (tx q nw : Nat) : Prop := nw < 6 ∧ zWkW tb tx q ∧ zNmO tb tx (zTokE tb tx (zTokE tb tx q)) 1 (zWkH tb tx q) ∧ zNmO tb tx (zWkN tb tx q) 0 99
def zWkQ (tb : Nat → Nat) (tx q nw : Nat) : Nat := if nw < 6 then (if zWkW tb tx q then (if zNmO tb tx (zTokE tb tx (zTokE tb tx q)) 1 (zWkH tb tx q) then zNmQ tb tx (zWkN tb tx q) 0 99 else zWkN tb tx q) else zTokE tb tx q) else q
def zWkM (tb : Nat → Nat) (tx q nw : Nat) : Nat := if zWkO tb tx q nw then nw + 1 else nw
def zWkV (tb : Nat → Nat) (tx q nw : Nat) (kp : Nat → Nat) : Nat → Nat := if zWkO tb tx q nw then zu (zu (zu kp (3 * nw) (zWkI tb tx q)) (3 * nw + 1) (zTokN tb tx (zTokE tb tx (zTokE tb tx q)))) (3 * nw + 2) (zTokN tb tx (zWkN tb tx q)) else kp
/-- an item: whether it stands, where reading stops, what is read so far -/
abbrev zItO (tb : Nat → Nat) (tx q : Nat) (P : zPl) : Prop := if zWd tb tx q 0 then zCkO tb tx q P.fct else if zWd tb tx q 1 then P.fnp < 6 else if zWd tb tx q 2 then zWyO tb tx q 0 239 P.fnp P.fwc else if zWd tb tx q 3 then zWyO tb tx q 1 99 P.fnp P.fwc else if zWd tb tx q 4 then zMaO tb tx q P.fnm else if zWd tb tx q 5 then zWkO tb tx q P.fnw else False
def zItQ (tb : Nat → Nat) (tx q : Nat) (P : zPl) : Nat := if zWd tb tx q 0 then zCkQ tb tx q P.fct else if zWd tb tx q 1 then zPeQ tb tx q P.fnp else if zWd tb tx q 2 then zWyQ tb tx q 0 239 P.fnp P.fwc else if zWd tb tx q 3 then zWyQ tb tx q 1 99 P.fnp P.fwc else if zWd tb tx q 4 then zMaQ tb tx q P.fnm else if zWd tb tx q 5 then zWkQ tb tx q P.fnw else q
def zItP (tb : Nat → Nat) (tx q : Nat) (P : zPl) : zPl := if zWd tb tx q 0 then (1, zCkH tb tx q P.fct P.fhs, P.fnp, P.fnm, P.fnw, P.fwc, P.fwp, P.fmp, P.fkp) else if zWd tb tx q 1 then (P.fct, P.fhs, zPeN P.fnp, P.fnm, P.fnw, zPeW P.fnp P.fwc, P.fwp, P.fmp, P.fkp) else if zWd tb tx q 2 then (P.fct, P.fhs, P.fnp, P.fnm, P.fnw, zWyW tb tx q 0 239 P.fnp P.fwc, zWyV tb tx q 0 0 239 P.fnp P.fwc P.fwp, P.fmp, P.fkp) else if zWd tb tx q 3 then (P.fct, P.fhs, P.fnp, P.fnm, P.fnw, zWyW tb tx q 1 99 P.fnp P.fwc, zWyV tb tx q 1 1 99 P.fnp P.fwc P.fwp, P.fmp, P.fkp) else if zWd tb tx q 4 then (P.fct, P.fhs, P.fnp, zMaN tb tx q P.fnm, P.fnw, P.fwc, P.fwp, zMaV tb tx q P.fnm P.fmp, P.fkp) else if zWd tb tx q 5 then (P.fct, P.fhs, P.fnp, P.fnm, zWkM tb tx q P.fnw, P.fwc, P.fwp, P.fmp, zWkV tb tx q P.fnw P.fkp) else P
/-- the items from token q on: how many, or -10 less the fault's place; and the plan -/
def zItems (tb : Nat → Nat) (tx : Nat) : Nat → Nat → Nat → zPl → Int × Nat × zPl
  | 0, q, _, P => (-10 - (zTokS tb tx q : Int), q, P)
  | n + 1, q, it, P => if zTokK tb tx q = 0 then ((it : Int), q, P) else if zItO tb tx q P ∧ zTokK tb tx (zItQ tb tx q P) = 1 then zItems tb tx n (zTokE tb tx (zItQ tb tx q P)) (it + 1) (zItP tb tx q P) else (-10 - (zTokS tb tx (zItQ tb tx q P) : Int), zItQ tb tx q P, zItP tb tx q P)
/-- a plan within its bounds -/
abbrev zPlOk (P : zPl) : Prop := P.fct ≤ 1 ∧ (10 ≤ P.fhs ∧ P.fhs ≤ 999) ∧ P.fnp ≤ 6 ∧ P.fnm ≤ 4 ∧ P.fnw ≤ 6 ∧ (∀ k, P.fwc k ≤ 4) ∧ (∀ k, P.fwp k < 1000) ∧ (∀ k, P.fmp k < 1000) ∧ (∀ k, P.fkp k < 1000)
