/-! THE START: what the tables and the given state say at the law's entry -/
def zTm (i : Nat) : Term := .string "StepClock$Text" ((zStr.map Prod.fst).getD i 0)
theorem zTq {P : Cond → Prop} {w : Cond} {l : List Cond} (h : ∀ c ∈ l, P c) (i : Nat) (e : l[i]? = some w) : P w := h w (List.mem_of_getElem? e)
theorem zArr {ty : FieldType} {s : State} {args : Array Value} (h : (Cond.arrayClass ty).before args s = true) (hp : ∀ C, ty ≠ .object C) : ∃ cA : ClassId, ArrOfT s cA ty ∧ va_RA s cA ty := by
  obtain ⟨cA, kA, comp, h1, h2, h3⟩ := Cond.arrayClass_spec h
  refine ⟨cA, fun n z => ⟨fun k h => (by cases h), kA, h2, comp, h3⟩, ?_⟩
  cases ty <;> first | exact absurd rfl (hp _) | exact h1
theorem zStr_S {s : State} {args : Array Value} (hs : ∀ c ∈ flatC narrow_1, c.before args s = true) {A : Nat → Prop} (hA : ∀ a : Nat, a < s.heap.size → ¬ A a) : ∃ adK adV : Nat → Nat, vk_S 8 zLen zByt adK adV A s s.heap ∧ ∀ i : Nat, i < 8 → (zTm i).eval args s none [] s = some (.ref (adK i)) := by
  have m1 : ∀ i, i < 8 → Cond.exactly (zTm i) "java/lang/String" ∈ flatC narrow_1 := by decide +kernel
  have m2 : ∀ i, i < 8 → Cond.eq (.field (zTm i) "java/lang/String" "coder" "B") (.int 0) ∈ flatC narrow_1 := by decide +kernel
  have m3 : ∀ i, i < 8 → Cond.arrayOf (.field (zTm i) "java/lang/String" "value" "[B") .byte ∈ flatC narrow_1 := by decide +kernel
  have m4 : ∀ i, i < 8 → Cond.eq (.length (.field (zTm i) "java/lang/String" "value" "[B")) (.int (Int32.ofNat (zLen.getD i 0))) ∈ flatC narrow_1 := by decide +kernel
  have m5 : ∀ i, i < 8 → ∀ j, j < zLen.getD i 0 → Cond.eq (.elem (.field (zTm i) "java/lang/String" "value" "[B") (.int (Int32.ofNat j))) (.int ((zByt.getD i []).getD j 0)) ∈ flatC narrow_1 := by decide +kernel
  have m6 : ∀ i, i < 8 → ∀ j, j < 8 → i ≠ j → Cond.not (Cond.eq (zTm i) (zTm j)) ∈ flatC narrow_1 ∨ Cond.not (Cond.eq (zTm j) (zTm i)) ∈ flatC narrow_1 := by decide +kernel
  have m0 : ∀ i, i < 8 → zLen.getD i 0 < 2 ^ 31 := by decide +kernel
  exact vk_Sof (tm := zTm) m0 (fun i hi => hs _ (m1 i hi)) (fun i hi => hs _ (m2 i hi)) (fun i hi => hs _ (m3 i hi)) (fun i hi => hs _ (m4 i hi)) (fun i hi j hj => hs _ (m5 i hi j hj)) (fun i j hi hj hij => (m6 i hi j hj hij).imp (hs _) (hs _)) hA
theorem law_facts {s : State} {b : Nat} (hts : ∀ w ∈ lw_tbl, w.before #[Value.ref b] s = true) (hgv : (Jvm.Cond.and given_1 narrow_1).before #[Value.ref b] s = true) : ∃ g : zG, zK g s ∧ zE g (fun q => s.heap.size ≤ q) s s.heap := by
  have hs0 := flat_of_before _ hgv
  have hs : ∀ c ∈ flatC narrow_1, c.before #[Value.ref b] s = true := fun c hc => hs0 c (List.mem_append_right _ hc)
  have hA : ∀ a : Nat, a < s.heap.size → ¬ (fun q : Nat => s.heap.size ≤ q) a := fun a h => Nat.not_le.mpr h
  obtain ⟨c0, i0, k0⟩ := u_known (C := RX0) (T := TX0) (N := 6) (n := 6) hts zIn_wsX00 (zTq hts 146 (by decide +kernel))
  obtain ⟨c1, i1, k1⟩ := u_known (C := RX1) (T := TX1) (N := 8) (n := 8) hts zIn_wsX10 (zTq hts 109 (by decide +kernel))
  obtain ⟨c2, i2, k2⟩ := u_known (C := RX2) (T := TX2) (N := 5) (n := 5) hts zIn_wsX20 (zTq hts 174 (by decide +kernel))
  obtain ⟨c3, i3, k3⟩ := u_known (C := RX3) (T := TX3) (N := 7) (n := 7) hts zIn_wsX30 (zTq hts 79 (by decide +kernel))
  obtain ⟨c4, i4, k4⟩ := u_known (C := RX4) (T := TX4) (N := 14) (n := 14) hts zIn_wsX40 (zTq hts 71 (by decide +kernel))
  obtain ⟨c5, i5, k5⟩ := u_known (C := RX5) (T := TX5) (N := 23) (n := 23) hts zIn_wsX50 (zTq hts 738 (by decide +kernel))
  obtain ⟨a0, p0, q0⟩ := zArr (ty := .int) (zTq hts 107 (by decide +kernel)) (fun _ h => by cases h)
  obtain ⟨a1, p1, q1⟩ := zArr (ty := .byte) (zTq hts 467 (by decide +kernel)) (fun _ h => by cases h)
  obtain ⟨a2, p2, q2⟩ := zArr (ty := .boolean) (zTq hts 813 (by decide +kernel)) (fun _ h => by cases h)
  obtain ⟨adK, adV, hS, hev⟩ := zStr_S hs hA
  refine ⟨((fun k => if k = 0 then c0 else if k = 1 then c1 else if k = 2 then c2 else if k = 3 then c3 else if k = 4 then c4 else c5, fun k => if k = 0 then i0 else if k = 1 then i1 else if k = 2 then i2 else if k = 3 then i3 else if k = 4 then i4 else i5), (a0, a1, a2), adK, adV), ⟨⟨?_, ?_⟩, ?_, ?_⟩, hS, ?_, ?_⟩
  · intro k q hq
    match k, hq with
    | 0, hq => cases hq; exact k0
    | 1, hq => cases hq; exact k1
    | 2, hq => cases hq; exact k2
    | 3, hq => cases hq; exact k3
    | 4, hq => cases hq; exact k4
    | 5, hq => cases hq; exact k5
    | k + 6, hq => simp [vwCl] at hq
  · intro k q hq
    match k, hq with
    | 0, hq => cases hq; exact ⟨p0, q0⟩
    | 1, hq => cases hq; exact ⟨p1, q1⟩
    | 2, hq => cases hq; exact ⟨p2, q2⟩
    | k + 3, hq => simp at hq
  · have hm : ∀ w ∈ zNs, w ∈ lw_tbl := by decide +kernel
    have ho : zNs.all (fun w => w.onTables) = true := by decide +kernel
    exact fun w hw => va_Nw.of (List.all_eq_true.mp ho w hw) (hts w (hm w hw))
  · intro i q hq
    have hm : ∀ q ∈ zStr, Cond.stringRef RX3 q.1 q.2 ∈ lw_tbl := by decide +kernel
    have hi : i < 8 := (List.getElem?_eq_some_iff.mp hq).1
    have e : (zStr.map Prod.fst).getD i 0 = q.1 := by rw [List.getD_eq_getElem?_getD, List.getElem?_map, hq]; rfl
    have h2 := hev i hi
    rw [zTm, e] at h2
    exact vk_R.of (hts _ (hm q (List.mem_of_getElem? hq))) h2
  · exact va_Zof (zTq hts 305 (by decide +kernel)) (zTq hts 64 (by decide +kernel)) (va_eqt (hs _ (by decide +kernel))) hA
  · exact va_Zqof (zTq hts 321 (by decide +kernel)) (zTq hts 66 (by decide +kernel)) (hs _ (by decide +kernel)) hA
