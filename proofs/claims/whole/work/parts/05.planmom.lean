set_option maxHeartbeats 4000000 in
set_option maxRecDepth 100000 in
theorem c_X4_copyRow (l : Launch) (g : zG) (a b n : Nat) (f h : Nat → Nat) (hn : n < 2147483648) : zV l yX4_copyRow wsX4_copyRow 0 0 0 0 g [.ref a, .ref b] [(a, .inl (g.2.1.1, n, .inl (zf f))), (b, .inl (g.2.1.1, n, .inl (zf h)))] (fun (u : Unit) => True) (fun (u : Unit) => [(a, .inl (g.2.1.1, n, .inl (zf f))), (b, .inl (g.2.1.1, n, .inl (zf f)))]) := by
  refine zz_bodyV (cc := cX4_copyRow) (nL := 3) (own := RX4) (by decide) rfl rfl (Nat.le_of_ble_eq_true rfl) ?_
  intro pP eE s mM below meth cC A Q ls F hin hA hK hE hP hD hl hret
  have hS : va_S A s.heap s.heap [] := va_S.rf
  obtain ⟨hx, hb, hml, hown, hts⟩ := id F
  have hl : lv_has ls 3 [(0, .ref a), (1, .ref b)] := hl
  refine lv_iconst (v := 0) hx hb dX4_copyRow_0 (by decide) ?_
  refine lv_istore_n (lv' := [(2, .int 0), (0, .ref a), (1, .ref b)]) hx hb dX4_copyRow_1 rfl hl (by decide) rfl (fun ls hl => ?_)
  have hcut2 : ∀ (fu : Nat) (i : Nat) (H : Heap) (locs : List Loc) (ls : Array Slot), (i ≤ n) → (n - i) < fu → va_P g.1 vwCl [(a, .inl (g.2.1.1, n, .inl (zf f))), (b, .inl (g.2.1.1, n, .inl (zf (zcp i f h))))] H → va_D A [(a, .inl (g.2.1.1, n, .inl (zf f))), (b, .inl (g.2.1.1, n, .inl (zf (zcp i f h))))] → va_S A s.heap H locs → lv_has ls 3 [(0, .ref a), (1, .ref b), (2, .int (nI i))] → W pP l eE { frames := 0, cells := 0, slots := 0, locals := 0 } s mM ([.ref a, .ref b] : List Value).toArray below meth cC H locs 0 0 Q (F0 mM 2 ls []) := by
    intro fu
    induction fu with
    | zero =>
      intro i H locs ls hi hm
      exact absurd hm (Nat.not_lt_zero _)
    | succ fu ih2 =>
      intro i H locs ls hi hm hP hD hS hl
      refine lv_iload_n hx hb dX4_copyRow_2 rfl (lv_at hl 2 rfl) ?_
      refine lv_aload_n hx hb dX4_copyRow_3 rfl (lv_at hl 0 rfl) ?_
      refine va_alen hx hb hK.1 hP 0 0 (v := nI n) rfl rfl rfl dX4_copyRow_4 ?_
      refine zz_icmp_ge (tgt := 26) hx hb dX4_copyRow_5 (by decide) (zi_n i) (zi_n n) (by omega) (by omega) (fun c_1 => ?_) (fun c_1 => ?_)
      · have eq_2 : ∀ k, k < n → (zf (zcp i f h)) k = (zf f) k := by intro k hk; simp only [zf, zcp, if_pos (show k < i by omega)]
        have hD := hD.set (p := 1) (e := .inl (g.2.1.1, n, .inl (zf f))) rfl
        have hP := zz_extP hP 1 (zf f) rfl eq_2
        have hP : va_P g.1 vwCl [(a, .inl (g.2.1.1, n, .inl (zf f))), (b, .inl (g.2.1.1, n, .inl (zf f)))] _ := hP
        have hD : va_D A [(a, .inl (g.2.1.1, n, .inl (zf f))), (b, .inl (g.2.1.1, n, .inl (zf f)))] := hD
        exact hret 26 _ _ _ () dX4_copyRow_26 hP hD hS (show True from by trivial)
      · refine lv_iload_n hx hb dX4_copyRow_8 rfl (lv_at hl 2 rfl) ?_
        refine lv_aload_n hx hb dX4_copyRow_9 rfl (lv_at hl 1 rfl) ?_
        refine va_alen hx hb hK.1 hP 1 0 (v := nI n) rfl rfl rfl dX4_copyRow_10 ?_
        refine zz_icmp_ge (tgt := 26) hx hb dX4_copyRow_11 (by decide) (zi_n i) (zi_n n) (by omega) (by omega) (fun c_4 => ?_) (fun c_4 => ?_)
        · have eq_5 : ∀ k, k < n → (zf (zcp i f h)) k = (zf f) k := by intro k hk; simp only [zf, zcp, if_pos (show k < i by omega)]
          have hD := hD.set (p := 1) (e := .inl (g.2.1.1, n, .inl (zf f))) rfl
          have hP := zz_extP hP 1 (zf f) rfl eq_5
          have hP : va_P g.1 vwCl [(a, .inl (g.2.1.1, n, .inl (zf f))), (b, .inl (g.2.1.1, n, .inl (zf f)))] _ := hP
          have hD : va_D A [(a, .inl (g.2.1.1, n, .inl (zf f))), (b, .inl (g.2.1.1, n, .inl (zf f)))] := hD
          exact hret 26 _ _ _ () dX4_copyRow_26 hP hD hS (show True from by trivial)
        · refine lv_aload_n hx hb dX4_copyRow_14 rfl (lv_at hl 1 rfl) ?_
          refine lv_iload_n hx hb dX4_copyRow_15 rfl (lv_at hl 2 rfl) ?_
          refine lv_aload_n hx hb dX4_copyRow_16 rfl (lv_at hl 0 rfl) ?_
          refine lv_iload_n hx hb dX4_copyRow_17 rfl (lv_at hl 2 rfl) ?_
          refine zz_iald hx hb hK.1 hP 0 0 rfl rfl i rfl (by omega) (by omega) dX4_copyRow_18 ?_
          refine zz_iast hx hb hK.1 hP hD hS 1 0 rfl rfl i rfl (by omega) (by omega) dX4_copyRow_19 (fun H locs hP hD hS => ?_)
          have hP : va_P g.1 vwCl [(a, .inl (g.2.1.1, n, .inl (zf f))), (b, .inl (g.2.1.1, n, .inl (upd (zf (zcp i f h)) i (nI (f i)))))] _ := hP
          have hD : va_D A [(a, .inl (g.2.1.1, n, .inl (zf f))), (b, .inl (g.2.1.1, n, .inl (upd (zf (zcp i f h)) i (nI (f i)))))] := hD
          rw [zf_upd] at hP hD
          refine lv_iinc (v := nI (i + 1)) (lv' := [(2, .int (nI (i + 1))), (0, .ref a), (1, .ref b)]) hx hb dX4_copyRow_20 hl (k := 2) rfl (zi_eq (zi_add (zi_n i) (zi_c 1 rfl)) (zi_n (i + 1)) (by omega)) (by decide) rfl (fun ls hl => ?_)
          refine lv_goto (tgt := 2) hx hb dX4_copyRow_23 (by decide) ?_
          have eq_7 : (zu (zcp i f h) i (f i)) = (zcp (i + 1) f h) := by exact zcp_s f h i
          have hP : va_P g.1 vwCl [(a, .inl (g.2.1.1, n, .inl (zf f))), (b, .inl (g.2.1.1, n, .inl (zf (zcp (i + 1) f h))))] _ := Eq.mp (congrArg (fun z => va_P g.1 vwCl [(a, .inl (g.2.1.1, n, .inl (zf f))), (b, .inl (g.2.1.1, n, .inl (zf z)))] _) eq_7) hP
          have hD : va_D A [(a, .inl (g.2.1.1, n, .inl (zf f))), (b, .inl (g.2.1.1, n, .inl (zf (zcp (i + 1) f h))))] := Eq.mp (congrArg (fun z => va_D A [(a, .inl (g.2.1.1, n, .inl (zf f))), (b, .inl (g.2.1.1, n, .inl (zf z)))]) eq_7) hD
          exact ih2 (i + 1) _ _ _ (show (i + 1) ≤ n from by omega) (by omega) hP hD hS (lv_sub hl [1, 2, 0] rfl)
  have eq_8 : h = (zcp 0 f h) := by exact (zcp_0 f h).symm
  have hP : va_P g.1 vwCl [(a, .inl (g.2.1.1, n, .inl (zf f))), (b, .inl (g.2.1.1, n, .inl (zf (zcp 0 f h))))] _ := Eq.mp (congrArg (fun z => va_P g.1 vwCl [(a, .inl (g.2.1.1, n, .inl (zf f))), (b, .inl (g.2.1.1, n, .inl (zf z)))] _) eq_8) hP
  have hD : va_D A [(a, .inl (g.2.1.1, n, .inl (zf f))), (b, .inl (g.2.1.1, n, .inl (zf (zcp 0 f h))))] := Eq.mp (congrArg (fun z => va_D A [(a, .inl (g.2.1.1, n, .inl (zf f))), (b, .inl (g.2.1.1, n, .inl (zf z)))]) eq_8) hD
  exact hcut2 ((n - 0) + 1) 0 _ _ _ (show 0 ≤ n from by omega) (by omega) hP hD hS (lv_sub hl [1, 2, 0] rfl)

set_option maxHeartbeats 4000000 in
set_option maxRecDepth 100000 in
theorem c_X1_hourOf (l : Launch) (g : zG) (P : Nat) (Pa Pb Pc Pd : Nat) (hs np nm nw : Nat) (x : Nat) (hhs : 0 < hs ∧ hs < 2147483648) (hx1 : x < 2147483648) : zI l yX1_hourOf wsX1_hourOf 0 0 g [.ref P, .int (nI x)] [(P, .inr (1, [.ref Pa, .ref Pb, .ref Pc, .ref Pd, .int (nI hs), .int (nI np), .int (nI nm), .int (nI nw)]))] (fun (r : Int32) (u : Unit) => r = nI (x / hs)) (fun (u : Unit) => [(P, .inr (1, [.ref Pa, .ref Pb, .ref Pc, .ref Pd, .int (nI hs), .int (nI np), .int (nI nm), .int (nI nw)]))]) := by
  refine zz_bodyI (cc := cX1_hourOf) (nL := 2) (own := RX1) (ty := .int) (by decide) rfl rfl (Nat.le_of_ble_eq_true rfl) ?_
  intro pP eE s mM below meth cC A Q ls F hA hK hE hP hD hl hret
  have hS : va_S A s.heap s.heap [] := va_S.rf
  obtain ⟨hx, hb, hml, hown, hts⟩ := id F
  have hiX1 : ∀ w ∈ u_ws RX1 TX1 8, w ∈ wsX1_hourOf := by decide +kernel
  have hf0 := hts (.fieldLink RX1 24 "StepClock$Plan" "hourSteps" "I") (by decide +kernel)
  have hl : lv_has ls 2 [(0, .ref P), (1, .int (nI x))] := hl
  refine lv_aload_n hx hb dX1_hourOf_0 rfl (lv_at hl 0 rfl) ?_
  refine va_get (D := g.1) (ci := 1) (v := .int (nI hs)) (C := RX1) (T := TX1) (N := 8) hx hb hts hiX1 hown hK.1 hP 0 rfl rfl 4 (by decide) hf0 (fun _ h9 => h9) rfl dX1_hourOf_1 ?_
  refine zz_if_le (tgt := 16) hx hb dX1_hourOf_4 (by decide) (zi_n hs) (by omega) (fun c_1 => (by exfalso; omega)) (fun c_1 => ?_)
  refine lv_iload_n hx hb dX1_hourOf_7 rfl (lv_at hl 1 rfl) ?_
  refine lv_aload_n hx hb dX1_hourOf_8 rfl (lv_at hl 0 rfl) ?_
  refine va_get (D := g.1) (ci := 1) (v := .int (nI hs)) (C := RX1) (T := TX1) (N := 8) hx hb hts hiX1 hown hK.1 hP 0 rfl rfl 4 (by decide) hf0 (fun _ h9 => h9) rfl dX1_hourOf_9 ?_
  refine lv_idiv hx hb dX1_hourOf_12 (nI_ne0 (by omega) (by omega)) ?_
  refine lv_goto (tgt := 17) hx hb dX1_hourOf_13 (by decide) ?_
  exact hret 17 _ _ _ ((nI x) / (nI hs)) () dX1_hourOf_17 rfl hP hD hS (show ((nI x) / (nI hs)) = nI (x / hs) from by exact pk_div (by omega) (by omega) (by omega))

set_option maxHeartbeats 4000000 in
set_option maxRecDepth 100000 in
theorem c_X1_isPerson (l : Launch) (g : zG) (P Pa Pb Pc Pd : Nat) (hs np nm nw : Nat) (wc : Nat → Nat) (x : Int32) (hnp : np ≤ 6) : zI l yX1_isPerson wsX1_isPerson 0 0 g [.ref P, .int x] [(P, .inr (1, [.ref Pa, .ref Pb, .ref Pc, .ref Pd, .int (nI hs), .int (nI np), .int (nI nm), .int (nI nw)])), (Pa, .inl (g.2.1.1, 6, .inl (zf wc)))] (fun (r : Int32) (u : Unit) => r = if 0 ≤ x.toInt ∧ x.toInt < (np : Int) then 1 else 0) (fun (u : Unit) => [(P, .inr (1, [.ref Pa, .ref Pb, .ref Pc, .ref Pd, .int (nI hs), .int (nI np), .int (nI nm), .int (nI nw)])), (Pa, .inl (g.2.1.1, 6, .inl (zf wc)))]) := by
  refine zz_bodyI (cc := cX1_isPerson) (nL := 2) (own := RX1) (ty := .boolean) (by decide) rfl rfl (Nat.le_of_ble_eq_true rfl) ?_
  intro pP eE s mM below meth cC A Q ls F hA hK hE hP hD hl hret
  have hS : va_S A s.heap s.heap [] := va_S.rf
  obtain ⟨hx, hb, hml, hown, hts⟩ := id F
  have hiX1 : ∀ w ∈ u_ws RX1 TX1 8, w ∈ wsX1_isPerson := by decide +kernel
  have hf0 := hts (.fieldLink RX1 28 "StepClock$Plan" "people" "I") (by decide +kernel)
  have hf1 := hts (.fieldLink RX1 9 "StepClock$Plan" "wayCounts" "[I") (by decide +kernel)
  have hl : lv_has ls 2 [(0, .ref P), (1, .int x)] := hl
  have hlox := zi_lo x
  have hhix := zi_hi x
  refine lv_iload_n hx hb dX1_isPerson_0 rfl (lv_at hl 1 rfl) ?_
  refine zz_if_lt (tgt := 25) hx hb dX1_isPerson_1 (by decide) (zi_self x) (by omega) (fun c_1 => ?_) (fun c_1 => ?_)
  · refine lv_iconst (v := 0) hx hb dX1_isPerson_25 (by decide) ?_
    exact hret 26 _ _ _ 0 () dX1_isPerson_26 rfl hP hD hS (show 0 = if 0 ≤ x.toInt ∧ x.toInt < (np : Int) then 1 else 0 from by first | (exfalso; omega) | (rw [if_pos (by omega)]) | (rw [if_neg (by omega)]))
  · refine lv_iload_n hx hb dX1_isPerson_4 rfl (lv_at hl 1 rfl) ?_
    refine lv_aload_n hx hb dX1_isPerson_5 rfl (lv_at hl 0 rfl) ?_
    refine va_get (D := g.1) (ci := 1) (v := .int (nI np)) (C := RX1) (T := TX1) (N := 8) hx hb hts hiX1 hown hK.1 hP 0 rfl rfl 5 (by decide) hf0 (fun _ h9 => h9) rfl dX1_isPerson_6 ?_
    refine zz_icmp_ge (tgt := 25) hx hb dX1_isPerson_9 (by decide) (zi_self x) (zi_n np) (by omega) (by omega) (fun c_2 => ?_) (fun c_2 => ?_)
    · refine lv_iconst (v := 0) hx hb dX1_isPerson_25 (by decide) ?_
      exact hret 26 _ _ _ 0 () dX1_isPerson_26 rfl hP hD hS (show 0 = if 0 ≤ x.toInt ∧ x.toInt < (np : Int) then 1 else 0 from by first | (exfalso; omega) | (rw [if_pos (by omega)]) | (rw [if_neg (by omega)]))
    · refine lv_iload_n hx hb dX1_isPerson_12 rfl (lv_at hl 1 rfl) ?_
      refine lv_aload_n hx hb dX1_isPerson_13 rfl (lv_at hl 0 rfl) ?_
      refine va_get (D := g.1) (ci := 1) (v := .ref Pa) (C := RX1) (T := TX1) (N := 8) hx hb hts hiX1 hown hK.1 hP 0 rfl rfl 0 (by decide) hf1 (fun _ h9 => h9) rfl dX1_isPerson_14 ?_
      refine va_alen hx hb hK.1 hP 1 0 (v := 6) rfl rfl rfl dX1_isPerson_17 ?_
      refine zz_icmp_ge (tgt := 25) hx hb dX1_isPerson_18 (by decide) (zi_self x) (zi_c 6 rfl) (by omega) (by omega) (fun c_3 => ?_) (fun c_3 => ?_)
      · refine lv_iconst (v := 0) hx hb dX1_isPerson_25 (by decide) ?_
        exact hret 26 _ _ _ 0 () dX1_isPerson_26 rfl hP hD hS (show 0 = if 0 ≤ x.toInt ∧ x.toInt < (np : Int) then 1 else 0 from by first | (exfalso; omega) | (rw [if_pos (by omega)]) | (rw [if_neg (by omega)]))
      · refine lv_iconst (v := 1) hx hb dX1_isPerson_21 (by decide) ?_
        refine lv_goto (tgt := 26) hx hb dX1_isPerson_22 (by decide) ?_
        exact hret 26 _ _ _ 1 () dX1_isPerson_26 rfl hP hD hS (show 1 = if 0 ≤ x.toInt ∧ x.toInt < (np : Int) then 1 else 0 from by first | (exfalso; omega) | (rw [if_pos (by omega)]) | (rw [if_neg (by omega)]))

set_option maxHeartbeats 4000000 in
set_option maxRecDepth 100000 in
theorem c_X1_isWay (l : Launch) (g : zG) (P Pa Pb Pc Pd : Nat) (hs np nm nw : Nat) (wc : Nat → Nat) (x y : Int32) (hnp : np ≤ 6) (hwc : ∀ p, wc p ≤ 4) : zI l yX1_isWay wsX1_isWay 0 0 g [.ref P, .int x, .int y] [(P, .inr (1, [.ref Pa, .ref Pb, .ref Pc, .ref Pd, .int (nI hs), .int (nI np), .int (nI nm), .int (nI nw)])), (Pa, .inl (g.2.1.1, 6, .inl (zf wc)))] (fun (r : Int32) (u : Unit) => r = if (0 ≤ x.toInt ∧ x.toInt < (np : Int)) ∧ (0 ≤ y.toInt ∧ y.toInt < (wc x.toInt.toNat : Int)) then 1 else 0) (fun (u : Unit) => [(P, .inr (1, [.ref Pa, .ref Pb, .ref Pc, .ref Pd, .int (nI hs), .int (nI np), .int (nI nm), .int (nI nw)])), (Pa, .inl (g.2.1.1, 6, .inl (zf wc)))]) := by
  refine zz_bodyI (cc := cX1_isWay) (nL := 3) (own := RX1) (ty := .boolean) (by decide) rfl rfl (Nat.le_of_ble_eq_true rfl) ?_
  intro pP eE s mM below meth cC A Q ls F hA hK hE hP hD hl hret
  have hS : va_S A s.heap s.heap [] := va_S.rf
  obtain ⟨hx, hb, hml, hown, hts⟩ := id F
  have hiX1 : ∀ w ∈ u_ws RX1 TX1 8, w ∈ wsX1_isWay := by decide +kernel
  have hf0 := hts (.fieldLink RX1 28 "StepClock$Plan" "people" "I") (by decide +kernel)
  have hf1 := hts (.fieldLink RX1 9 "StepClock$Plan" "wayCounts" "[I") (by decide +kernel)
  have hl : lv_has ls 3 [(0, .ref P), (1, .int x), (2, .int y)] := hl
  have hlox := zi_lo x
  have hhix := zi_hi x
  have hloy := zi_lo y
  have hhiy := zi_hi y
  refine lv_iload_n hx hb dX1_isWay_0 rfl (lv_at hl 1 rfl) ?_
  refine zz_if_lt (tgt := 39) hx hb dX1_isWay_1 (by decide) (zi_self x) (by omega) (fun c_1 => ?_) (fun c_1 => ?_)
  · refine lv_iconst (v := 0) hx hb dX1_isWay_39 (by decide) ?_
    exact hret 40 _ _ _ 0 () dX1_isWay_40 rfl hP hD hS (show 0 = if (0 ≤ x.toInt ∧ x.toInt < (np : Int)) ∧ (0 ≤ y.toInt ∧ y.toInt < (wc x.toInt.toNat : Int)) then 1 else 0 from by first | (exfalso; omega) | (rw [if_pos (by omega)]) | (rw [if_neg (by omega)]))
  · refine lv_iload_n hx hb dX1_isWay_4 rfl (lv_at hl 1 rfl) ?_
    refine lv_aload_n hx hb dX1_isWay_5 rfl (lv_at hl 0 rfl) ?_
    refine va_get (D := g.1) (ci := 1) (v := .int (nI np)) (C := RX1) (T := TX1) (N := 8) hx hb hts hiX1 hown hK.1 hP 0 rfl rfl 5 (by decide) hf0 (fun _ h9 => h9) rfl dX1_isWay_6 ?_
    refine zz_icmp_ge (tgt := 39) hx hb dX1_isWay_9 (by decide) (zi_self x) (zi_n np) (by omega) (by omega) (fun c_2 => ?_) (fun c_2 => ?_)
    · refine lv_iconst (v := 0) hx hb dX1_isWay_39 (by decide) ?_
      exact hret 40 _ _ _ 0 () dX1_isWay_40 rfl hP hD hS (show 0 = if (0 ≤ x.toInt ∧ x.toInt < (np : Int)) ∧ (0 ≤ y.toInt ∧ y.toInt < (wc x.toInt.toNat : Int)) then 1 else 0 from by first | (exfalso; omega) | (rw [if_pos (by omega)]) | (rw [if_neg (by omega)]))
    · refine lv_iload_n hx hb dX1_isWay_12 rfl (lv_at hl 1 rfl) ?_
      refine lv_aload_n hx hb dX1_isWay_13 rfl (lv_at hl 0 rfl) ?_
      refine va_get (D := g.1) (ci := 1) (v := .ref Pa) (C := RX1) (T := TX1) (N := 8) hx hb hts hiX1 hown hK.1 hP 0 rfl rfl 0 (by decide) hf1 (fun _ h9 => h9) rfl dX1_isWay_14 ?_
      refine va_alen hx hb hK.1 hP 1 0 (v := 6) rfl rfl rfl dX1_isWay_17 ?_
      refine zz_icmp_ge (tgt := 39) hx hb dX1_isWay_18 (by decide) (zi_self x) (zi_c 6 rfl) (by omega) (by omega) (fun c_3 => ?_) (fun c_3 => ?_)
      · refine lv_iconst (v := 0) hx hb dX1_isWay_39 (by decide) ?_
        exact hret 40 _ _ _ 0 () dX1_isWay_40 rfl hP hD hS (show 0 = if (0 ≤ x.toInt ∧ x.toInt < (np : Int)) ∧ (0 ≤ y.toInt ∧ y.toInt < (wc x.toInt.toNat : Int)) then 1 else 0 from by first | (exfalso; omega) | (rw [if_pos (by omega)]) | (rw [if_neg (by omega)]))
      · refine lv_iload_n hx hb dX1_isWay_21 rfl (lv_at hl 2 rfl) ?_
        refine zz_if_lt (tgt := 39) hx hb dX1_isWay_22 (by decide) (zi_self y) (by omega) (fun c_4 => ?_) (fun c_4 => ?_)
        · refine lv_iconst (v := 0) hx hb dX1_isWay_39 (by decide) ?_
          exact hret 40 _ _ _ 0 () dX1_isWay_40 rfl hP hD hS (show 0 = if (0 ≤ x.toInt ∧ x.toInt < (np : Int)) ∧ (0 ≤ y.toInt ∧ y.toInt < (wc x.toInt.toNat : Int)) then 1 else 0 from by first | (exfalso; omega) | (rw [if_pos (by omega)]) | (rw [if_neg (by omega)]))
        · refine lv_iload_n hx hb dX1_isWay_25 rfl (lv_at hl 2 rfl) ?_
          refine lv_aload_n hx hb dX1_isWay_26 rfl (lv_at hl 0 rfl) ?_
          refine va_get (D := g.1) (ci := 1) (v := .ref Pa) (C := RX1) (T := TX1) (N := 8) hx hb hts hiX1 hown hK.1 hP 0 rfl rfl 0 (by decide) hf1 (fun _ h9 => h9) rfl dX1_isWay_27 ?_
          refine lv_iload_n hx hb dX1_isWay_30 rfl (lv_at hl 1 rfl) ?_
          refine zz_iald hx hb hK.1 hP 1 0 rfl rfl ((x.toInt).toNat) (zi_eq (zi_self x) (zi_n ((x.toInt).toNat)) (by omega)) (by omega) (by decide) dX1_isWay_31 ?_
          have hq_5 := hwc ((x.toInt).toNat)
          refine zz_icmp_ge (tgt := 39) hx hb dX1_isWay_32 (by decide) (zi_self y) (zi_n (wc ((x.toInt).toNat))) (by omega) (by omega) (fun c_6 => ?_) (fun c_6 => ?_)
          · refine lv_iconst (v := 0) hx hb dX1_isWay_39 (by decide) ?_
            exact hret 40 _ _ _ 0 () dX1_isWay_40 rfl hP hD hS (show 0 = if (0 ≤ x.toInt ∧ x.toInt < (np : Int)) ∧ (0 ≤ y.toInt ∧ y.toInt < (wc x.toInt.toNat : Int)) then 1 else 0 from by first | (exfalso; omega) | (rw [if_pos (by omega)]) | (rw [if_neg (by omega)]))
          · refine lv_iconst (v := 1) hx hb dX1_isWay_35 (by decide) ?_
            refine lv_goto (tgt := 40) hx hb dX1_isWay_36 (by decide) ?_
            exact hret 40 _ _ _ 1 () dX1_isWay_40 rfl hP hD hS (show 1 = if (0 ≤ x.toInt ∧ x.toInt < (np : Int)) ∧ (0 ≤ y.toInt ∧ y.toInt < (wc x.toInt.toNat : Int)) then 1 else 0 from by first | (exfalso; omega) | (rw [if_pos (by omega)]) | (rw [if_neg (by omega)]))

set_option maxHeartbeats 4000000 in
set_option maxRecDepth 100000 in
theorem c_X1_isWay_n (l : Launch) (g : zG) (P Pa Pb Pc Pd : Nat) (hs np nm nw : Nat) (wc : Nat → Nat) (p k : Nat) (hnp : np ≤ 6) (hwc : ∀ p, wc p ≤ 4) (hp : p < np) (hk : k < 2147483648) : zI l yX1_isWay wsX1_isWay 0 0 g [.ref P, .int (nI p), .int (nI k)] [(P, .inr (1, [.ref Pa, .ref Pb, .ref Pc, .ref Pd, .int (nI hs), .int (nI np), .int (nI nm), .int (nI nw)])), (Pa, .inl (g.2.1.1, 6, .inl (zf wc)))] (fun (r : Int32) (u : Unit) => r = if k < wc p then 1 else 0) (fun (u : Unit) => [(P, .inr (1, [.ref Pa, .ref Pb, .ref Pc, .ref Pd, .int (nI hs), .int (nI np), .int (nI nm), .int (nI nw)])), (Pa, .inl (g.2.1.1, 6, .inl (zf wc)))]) := by
  refine zz_bodyI (cc := cX1_isWay) (nL := 3) (own := RX1) (ty := .boolean) (by decide) rfl rfl (Nat.le_of_ble_eq_true rfl) ?_
  intro pP eE s mM below meth cC A Q ls F hA hK hE hP hD hl hret
  have hS : va_S A s.heap s.heap [] := va_S.rf
  obtain ⟨hx, hb, hml, hown, hts⟩ := id F
  have hiX1 : ∀ w ∈ u_ws RX1 TX1 8, w ∈ wsX1_isWay := by decide +kernel
  have hf0 := hts (.fieldLink RX1 28 "StepClock$Plan" "people" "I") (by decide +kernel)
  have hf1 := hts (.fieldLink RX1 9 "StepClock$Plan" "wayCounts" "[I") (by decide +kernel)
  have hl : lv_has ls 3 [(0, .ref P), (1, .int (nI p)), (2, .int (nI k))] := hl
  refine lv_iload_n hx hb dX1_isWay_0 rfl (lv_at hl 1 rfl) ?_
  refine zz_if_lt (tgt := 39) hx hb dX1_isWay_1 (by decide) (zi_n p) (by omega) (fun c_1 => (by exfalso; omega)) (fun c_1 => ?_)
  refine lv_iload_n hx hb dX1_isWay_4 rfl (lv_at hl 1 rfl) ?_
  refine lv_aload_n hx hb dX1_isWay_5 rfl (lv_at hl 0 rfl) ?_
  refine va_get (D := g.1) (ci := 1) (v := .int (nI np)) (C := RX1) (T := TX1) (N := 8) hx hb hts hiX1 hown hK.1 hP 0 rfl rfl 5 (by decide) hf0 (fun _ h9 => h9) rfl dX1_isWay_6 ?_
  refine zz_icmp_ge (tgt := 39) hx hb dX1_isWay_9 (by decide) (zi_n p) (zi_n np) (by omega) (by omega) (fun c_2 => ?_) (fun c_2 => ?_)
  · refine lv_iconst (v := 0) hx hb dX1_isWay_39 (by decide) ?_
    exact hret 40 _ _ _ 0 () dX1_isWay_40 rfl hP hD hS (show 0 = if k < wc p then 1 else 0 from by first | (exfalso; omega) | (rw [if_pos (by omega)]) | (rw [if_neg (by omega)]))
  · refine lv_iload_n hx hb dX1_isWay_12 rfl (lv_at hl 1 rfl) ?_
    refine lv_aload_n hx hb dX1_isWay_13 rfl (lv_at hl 0 rfl) ?_
    refine va_get (D := g.1) (ci := 1) (v := .ref Pa) (C := RX1) (T := TX1) (N := 8) hx hb hts hiX1 hown hK.1 hP 0 rfl rfl 0 (by decide) hf1 (fun _ h9 => h9) rfl dX1_isWay_14 ?_
    refine va_alen hx hb hK.1 hP 1 0 (v := 6) rfl rfl rfl dX1_isWay_17 ?_
    refine zz_icmp_ge (tgt := 39) hx hb dX1_isWay_18 (by decide) (zi_n p) (zi_c 6 rfl) (by omega) (by omega) (fun c_3 => (by exfalso; omega)) (fun c_3 => ?_)
    refine lv_iload_n hx hb dX1_isWay_21 rfl (lv_at hl 2 rfl) ?_
    refine zz_if_lt (tgt := 39) hx hb dX1_isWay_22 (by decide) (zi_n k) (by omega) (fun c_4 => (by exfalso; omega)) (fun c_4 => ?_)
    refine lv_iload_n hx hb dX1_isWay_25 rfl (lv_at hl 2 rfl) ?_
    refine lv_aload_n hx hb dX1_isWay_26 rfl (lv_at hl 0 rfl) ?_
    refine va_get (D := g.1) (ci := 1) (v := .ref Pa) (C := RX1) (T := TX1) (N := 8) hx hb hts hiX1 hown hK.1 hP 0 rfl rfl 0 (by decide) hf1 (fun _ h9 => h9) rfl dX1_isWay_27 ?_
    refine lv_iload_n hx hb dX1_isWay_30 rfl (lv_at hl 1 rfl) ?_
    refine zz_iald hx hb hK.1 hP 1 0 rfl rfl p rfl (by omega) (by decide) dX1_isWay_31 ?_
    have hq_5 := hwc p
    refine zz_icmp_ge (tgt := 39) hx hb dX1_isWay_32 (by decide) (zi_n k) (zi_n (wc p)) (by omega) (by omega) (fun c_6 => ?_) (fun c_6 => ?_)
    · refine lv_iconst (v := 0) hx hb dX1_isWay_39 (by decide) ?_
      exact hret 40 _ _ _ 0 () dX1_isWay_40 rfl hP hD hS (show 0 = if k < wc p then 1 else 0 from by first | (exfalso; omega) | (rw [if_pos (by omega)]) | (rw [if_neg (by omega)]))
    · refine lv_iconst (v := 1) hx hb dX1_isWay_35 (by decide) ?_
      refine lv_goto (tgt := 40) hx hb dX1_isWay_36 (by decide) ?_
      exact hret 40 _ _ _ 1 () dX1_isWay_40 rfl hP hD hS (show 1 = if k < wc p then 1 else 0 from by first | (exfalso; omega) | (rw [if_pos (by omega)]) | (rw [if_neg (by omega)]))

set_option maxHeartbeats 4000000 in
set_option maxRecDepth 100000 in
theorem c_X1_wayPart (l : Launch) (g : zG) (P Pa Pb Pc Pd : Nat) (hs np nm nw : Nat) (wp : Nat → Nat) (p k w : Nat) (hp : p < 6) (hk : k < 4) (hw3 : w < 4) : zI l yX1_wayPart wsX1_wayPart 0 0 g [.ref P, .int (nI p), .int (nI k), .int (nI w)] [(P, .inr (1, [.ref Pa, .ref Pb, .ref Pc, .ref Pd, .int (nI hs), .int (nI np), .int (nI nm), .int (nI nw)])), (Pb, .inl (g.2.1.1, 96, .inl (zf wp)))] (fun (r : Int32) (u : Unit) => r = nI (wp (16 * p + 4 * k + w))) (fun (u : Unit) => [(P, .inr (1, [.ref Pa, .ref Pb, .ref Pc, .ref Pd, .int (nI hs), .int (nI np), .int (nI nm), .int (nI nw)])), (Pb, .inl (g.2.1.1, 96, .inl (zf wp)))]) := by
  refine zz_bodyI (cc := cX1_wayPart) (nL := 5) (own := RX1) (ty := .int) (by decide) rfl rfl (Nat.le_of_ble_eq_true rfl) ?_
  intro pP eE s mM below meth cC A Q ls F hA hK hE hP hD hl hret
  have hS : va_S A s.heap s.heap [] := va_S.rf
  obtain ⟨hx, hb, hml, hown, hts⟩ := id F
  have hiX1 : ∀ w ∈ u_ws RX1 TX1 8, w ∈ wsX1_wayPart := by decide +kernel
  have hf0 := hts (.fieldLink RX1 15 "StepClock$Plan" "wayParts" "[I") (by decide +kernel)
  have hl : lv_has ls 5 [(0, .ref P), (1, .int (nI p)), (2, .int (nI k)), (3, .int (nI w))] := hl
  refine lv_iload_n hx hb dX1_wayPart_0 rfl (lv_at hl 1 rfl) ?_
  refine lv_iconst (v := 4) hx hb dX1_wayPart_1 (by decide) ?_
  refine lv_imul hx hb dX1_wayPart_2 ?_
  refine lv_iload_n hx hb dX1_wayPart_3 rfl (lv_at hl 2 rfl) ?_
  refine lv_iadd hx hb dX1_wayPart_4 ?_
  refine lv_iconst (v := 4) hx hb dX1_wayPart_5 (by decide) ?_
  refine lv_imul hx hb dX1_wayPart_6 ?_
  refine lv_iload_n hx hb dX1_wayPart_7 rfl (lv_at hl 3 rfl) ?_
  refine lv_iadd hx hb dX1_wayPart_8 ?_
  refine zz_topi (y := nI ((((p * 4) + k) * 4) + w)) (zi_eq (zi_add (zi_mul (zi_add (zi_mul (zi_n p) (zi_c 4 rfl)) (zi_n k)) (zi_c 4 rfl)) (zi_n w)) (zi_n ((((p * 4) + k) * 4) + w)) (by omega)) ?_
  refine lv_istore (lv' := [(4, .int (nI ((((p * 4) + k) * 4) + w))), (0, .ref P), (1, .int (nI p)), (2, .int (nI k)), (3, .int (nI w))]) hx hb dX1_wayPart_9 hl (by decide) rfl (fun ls hl => ?_)
  refine lv_iload hx hb dX1_wayPart_11 (lv_at hl 0 rfl) ?_
  refine zz_if_lt (tgt := 36) hx hb dX1_wayPart_13 (by decide) (zi_n ((((p * 4) + k) * 4) + w)) (by omega) (fun c_1 => (by exfalso; omega)) (fun c_1 => ?_)
  refine lv_iload hx hb dX1_wayPart_16 (lv_at hl 0 rfl) ?_
  refine lv_aload_n hx hb dX1_wayPart_18 rfl (lv_at hl 1 rfl) ?_
  refine va_get (D := g.1) (ci := 1) (v := .ref Pb) (C := RX1) (T := TX1) (N := 8) hx hb hts hiX1 hown hK.1 hP 0 rfl rfl 1 (by decide) hf0 (fun _ h9 => h9) rfl dX1_wayPart_19 ?_
  refine va_alen hx hb hK.1 hP 1 0 (v := 96) rfl rfl rfl dX1_wayPart_22 ?_
  refine zz_icmp_ge (tgt := 36) hx hb dX1_wayPart_23 (by decide) (zi_n ((((p * 4) + k) * 4) + w)) (zi_c 96 rfl) (by omega) (by omega) (fun c_2 => (by exfalso; omega)) (fun c_2 => ?_)
  refine lv_aload_n hx hb dX1_wayPart_26 rfl (lv_at hl 1 rfl) ?_
  refine va_get (D := g.1) (ci := 1) (v := .ref Pb) (C := RX1) (T := TX1) (N := 8) hx hb hts hiX1 hown hK.1 hP 0 rfl rfl 1 (by decide) hf0 (fun _ h9 => h9) rfl dX1_wayPart_27 ?_
  refine lv_iload hx hb dX1_wayPart_30 (lv_at hl 0 rfl) ?_
  refine zz_iald hx hb hK.1 hP 1 0 rfl rfl ((((p * 4) + k) * 4) + w) rfl (by omega) (by decide) dX1_wayPart_32 ?_
  refine lv_goto (tgt := 37) hx hb dX1_wayPart_33 (by decide) ?_
  exact hret 37 _ _ _ (nI (wp ((((p * 4) + k) * 4) + w))) () dX1_wayPart_37 rfl hP hD hS (show (nI (wp ((((p * 4) + k) * 4) + w))) = nI (wp (16 * p + 4 * k + w)) from by first | rfl | (congr 2; omega))

set_option maxHeartbeats 4000000 in
set_option maxRecDepth 100000 in
theorem c_X1_marchPart (l : Launch) (g : zG) (P Pa Pb Pc Pd : Nat) (hs np nm nw : Nat) (mp : Nat → Nat) (k w : Nat) (hk : k < 4) (hw3 : w < 3) : zI l yX1_marchPart wsX1_marchPart 0 0 g [.ref P, .int (nI k), .int (nI w)] [(P, .inr (1, [.ref Pa, .ref Pb, .ref Pc, .ref Pd, .int (nI hs), .int (nI np), .int (nI nm), .int (nI nw)])), (Pc, .inl (g.2.1.1, 12, .inl (zf mp)))] (fun (r : Int32) (u : Unit) => r = nI (mp (3 * k + w))) (fun (u : Unit) => [(P, .inr (1, [.ref Pa, .ref Pb, .ref Pc, .ref Pd, .int (nI hs), .int (nI np), .int (nI nm), .int (nI nw)])), (Pc, .inl (g.2.1.1, 12, .inl (zf mp)))]) := by
  refine zz_bodyI (cc := cX1_marchPart) (nL := 4) (own := RX1) (ty := .int) (by decide) rfl rfl (Nat.le_of_ble_eq_true rfl) ?_
  intro pP eE s mM below meth cC A Q ls F hA hK hE hP hD hl hret
  have hS : va_S A s.heap s.heap [] := va_S.rf
  obtain ⟨hx, hb, hml, hown, hts⟩ := id F
  have hiX1 : ∀ w ∈ u_ws RX1 TX1 8, w ∈ wsX1_marchPart := by decide +kernel
  have hf0 := hts (.fieldLink RX1 18 "StepClock$Plan" "marchParts" "[I") (by decide +kernel)
  have hl : lv_has ls 4 [(0, .ref P), (1, .int (nI k)), (2, .int (nI w))] := hl
  refine lv_iload_n hx hb dX1_marchPart_0 rfl (lv_at hl 1 rfl) ?_
  refine lv_iconst (v := 3) hx hb dX1_marchPart_1 (by decide) ?_
  refine lv_imul hx hb dX1_marchPart_2 ?_
  refine lv_iload_n hx hb dX1_marchPart_3 rfl (lv_at hl 2 rfl) ?_
  refine lv_iadd hx hb dX1_marchPart_4 ?_
  refine zz_topi (y := nI ((k * 3) + w)) (zi_eq (zi_add (zi_mul (zi_n k) (zi_c 3 rfl)) (zi_n w)) (zi_n ((k * 3) + w)) (by omega)) ?_
  refine lv_istore_n (lv' := [(3, .int (nI ((k * 3) + w))), (0, .ref P), (1, .int (nI k)), (2, .int (nI w))]) hx hb dX1_marchPart_5 rfl hl (by decide) rfl (fun ls hl => ?_)
  refine lv_iload_n hx hb dX1_marchPart_6 rfl (lv_at hl 0 rfl) ?_
  refine zz_if_lt (tgt := 28) hx hb dX1_marchPart_7 (by decide) (zi_n ((k * 3) + w)) (by omega) (fun c_1 => (by exfalso; omega)) (fun c_1 => ?_)
  refine lv_iload_n hx hb dX1_marchPart_10 rfl (lv_at hl 0 rfl) ?_
  refine lv_aload_n hx hb dX1_marchPart_11 rfl (lv_at hl 1 rfl) ?_
  refine va_get (D := g.1) (ci := 1) (v := .ref Pc) (C := RX1) (T := TX1) (N := 8) hx hb hts hiX1 hown hK.1 hP 0 rfl rfl 2 (by decide) hf0 (fun _ h9 => h9) rfl dX1_marchPart_12 ?_
  refine va_alen hx hb hK.1 hP 1 0 (v := 12) rfl rfl rfl dX1_marchPart_15 ?_
  refine zz_icmp_ge (tgt := 28) hx hb dX1_marchPart_16 (by decide) (zi_n ((k * 3) + w)) (zi_c 12 rfl) (by omega) (by omega) (fun c_2 => (by exfalso; omega)) (fun c_2 => ?_)
  refine lv_aload_n hx hb dX1_marchPart_19 rfl (lv_at hl 1 rfl) ?_
  refine va_get (D := g.1) (ci := 1) (v := .ref Pc) (C := RX1) (T := TX1) (N := 8) hx hb hts hiX1 hown hK.1 hP 0 rfl rfl 2 (by decide) hf0 (fun _ h9 => h9) rfl dX1_marchPart_20 ?_
  refine lv_iload_n hx hb dX1_marchPart_23 rfl (lv_at hl 0 rfl) ?_
  refine zz_iald hx hb hK.1 hP 1 0 rfl rfl ((k * 3) + w) rfl (by omega) (by decide) dX1_marchPart_24 ?_
  refine lv_goto (tgt := 29) hx hb dX1_marchPart_25 (by decide) ?_
  exact hret 29 _ _ _ (nI (mp ((k * 3) + w))) () dX1_marchPart_29 rfl hP hD hS (show (nI (mp ((k * 3) + w))) = nI (mp (3 * k + w)) from by first | rfl | (congr 2; omega))

set_option maxHeartbeats 4000000 in
set_option maxRecDepth 100000 in
theorem c_X1_workPart (l : Launch) (g : zG) (P Pa Pb Pc Pd : Nat) (hs np nm nw : Nat) (kp : Nat → Nat) (k w : Nat) (hk : k < 6) (hw3 : w < 3) : zI l yX1_workPart wsX1_workPart 0 0 g [.ref P, .int (nI k), .int (nI w)] [(P, .inr (1, [.ref Pa, .ref Pb, .ref Pc, .ref Pd, .int (nI hs), .int (nI np), .int (nI nm), .int (nI nw)])), (Pd, .inl (g.2.1.1, 18, .inl (zf kp)))] (fun (r : Int32) (u : Unit) => r = nI (kp (3 * k + w))) (fun (u : Unit) => [(P, .inr (1, [.ref Pa, .ref Pb, .ref Pc, .ref Pd, .int (nI hs), .int (nI np), .int (nI nm), .int (nI nw)])), (Pd, .inl (g.2.1.1, 18, .inl (zf kp)))]) := by
  refine zz_bodyI (cc := cX1_workPart) (nL := 4) (own := RX1) (ty := .int) (by decide) rfl rfl (Nat.le_of_ble_eq_true rfl) ?_
  intro pP eE s mM below meth cC A Q ls F hA hK hE hP hD hl hret
  have hS : va_S A s.heap s.heap [] := va_S.rf
  obtain ⟨hx, hb, hml, hown, hts⟩ := id F
  have hiX1 : ∀ w ∈ u_ws RX1 TX1 8, w ∈ wsX1_workPart := by decide +kernel
  have hf0 := hts (.fieldLink RX1 21 "StepClock$Plan" "workParts" "[I") (by decide +kernel)
  have hl : lv_has ls 4 [(0, .ref P), (1, .int (nI k)), (2, .int (nI w))] := hl
  refine lv_iload_n hx hb dX1_workPart_0 rfl (lv_at hl 1 rfl) ?_
  refine lv_iconst (v := 3) hx hb dX1_workPart_1 (by decide) ?_
  refine lv_imul hx hb dX1_workPart_2 ?_
  refine lv_iload_n hx hb dX1_workPart_3 rfl (lv_at hl 2 rfl) ?_
  refine lv_iadd hx hb dX1_workPart_4 ?_
  refine zz_topi (y := nI ((k * 3) + w)) (zi_eq (zi_add (zi_mul (zi_n k) (zi_c 3 rfl)) (zi_n w)) (zi_n ((k * 3) + w)) (by omega)) ?_
  refine lv_istore_n (lv' := [(3, .int (nI ((k * 3) + w))), (0, .ref P), (1, .int (nI k)), (2, .int (nI w))]) hx hb dX1_workPart_5 rfl hl (by decide) rfl (fun ls hl => ?_)
  refine lv_iload_n hx hb dX1_workPart_6 rfl (lv_at hl 0 rfl) ?_
  refine zz_if_lt (tgt := 28) hx hb dX1_workPart_7 (by decide) (zi_n ((k * 3) + w)) (by omega) (fun c_1 => (by exfalso; omega)) (fun c_1 => ?_)
  refine lv_iload_n hx hb dX1_workPart_10 rfl (lv_at hl 0 rfl) ?_
  refine lv_aload_n hx hb dX1_workPart_11 rfl (lv_at hl 1 rfl) ?_
  refine va_get (D := g.1) (ci := 1) (v := .ref Pd) (C := RX1) (T := TX1) (N := 8) hx hb hts hiX1 hown hK.1 hP 0 rfl rfl 3 (by decide) hf0 (fun _ h9 => h9) rfl dX1_workPart_12 ?_
  refine va_alen hx hb hK.1 hP 1 0 (v := 18) rfl rfl rfl dX1_workPart_15 ?_
  refine zz_icmp_ge (tgt := 28) hx hb dX1_workPart_16 (by decide) (zi_n ((k * 3) + w)) (zi_c 18 rfl) (by omega) (by omega) (fun c_2 => (by exfalso; omega)) (fun c_2 => ?_)
  refine lv_aload_n hx hb dX1_workPart_19 rfl (lv_at hl 1 rfl) ?_
  refine va_get (D := g.1) (ci := 1) (v := .ref Pd) (C := RX1) (T := TX1) (N := 8) hx hb hts hiX1 hown hK.1 hP 0 rfl rfl 3 (by decide) hf0 (fun _ h9 => h9) rfl dX1_workPart_20 ?_
  refine lv_iload_n hx hb dX1_workPart_23 rfl (lv_at hl 0 rfl) ?_
  refine zz_iald hx hb hK.1 hP 1 0 rfl rfl ((k * 3) + w) rfl (by omega) (by decide) dX1_workPart_24 ?_
  refine lv_goto (tgt := 29) hx hb dX1_workPart_25 (by decide) ?_
  exact hret 29 _ _ _ (nI (kp ((k * 3) + w))) () dX1_workPart_29 rfl hP hD hS (show (nI (kp ((k * 3) + w))) = nI (kp (3 * k + w)) from by first | rfl | (congr 2; omega))

set_option maxHeartbeats 4000000 in
set_option maxRecDepth 100000 in
theorem c_X1_canAddPerson (l : Launch) (g : zG) (P Pa Pb Pc Pd : Nat) (hs np nm nw : Nat) (wc : Nat → Nat) (hnp : np ≤ 6) : zI l yX1_canAddPerson wsX1_canAddPerson 0 0 g [.ref P] [(P, .inr (1, [.ref Pa, .ref Pb, .ref Pc, .ref Pd, .int (nI hs), .int (nI np), .int (nI nm), .int (nI nw)])), (Pa, .inl (g.2.1.1, 6, .inl (zf wc)))] (fun (r : Int32) (u : Unit) => r = if np < 6 then 1 else 0) (fun (u : Unit) => [(P, .inr (1, [.ref Pa, .ref Pb, .ref Pc, .ref Pd, .int (nI hs), .int (nI np), .int (nI nm), .int (nI nw)])), (Pa, .inl (g.2.1.1, 6, .inl (zf wc)))]) := by
  refine zz_bodyI (cc := cX1_canAddPerson) (nL := 1) (own := RX1) (ty := .boolean) (by decide) rfl rfl (Nat.le_of_ble_eq_true rfl) ?_
  intro pP eE s mM below meth cC A Q ls F hA hK hE hP hD hl hret
  have hS : va_S A s.heap s.heap [] := va_S.rf
  obtain ⟨hx, hb, hml, hown, hts⟩ := id F
  have hiX1 : ∀ w ∈ u_ws RX1 TX1 8, w ∈ wsX1_canAddPerson := by decide +kernel
  have hf0 := hts (.fieldLink RX1 28 "StepClock$Plan" "people" "I") (by decide +kernel)
  have hf1 := hts (.fieldLink RX1 9 "StepClock$Plan" "wayCounts" "[I") (by decide +kernel)
  have hl : lv_has ls 1 [(0, .ref P)] := hl
  refine lv_aload_n hx hb dX1_canAddPerson_0 rfl (lv_at hl 0 rfl) ?_
  refine va_get (D := g.1) (ci := 1) (v := .int (nI np)) (C := RX1) (T := TX1) (N := 8) hx hb hts hiX1 hown hK.1 hP 0 rfl rfl 5 (by decide) hf0 (fun _ h9 => h9) rfl dX1_canAddPerson_1 ?_
  refine zz_if_lt (tgt := 23) hx hb dX1_canAddPerson_4 (by decide) (zi_n np) (by omega) (fun c_1 => (by exfalso; omega)) (fun c_1 => ?_)
  refine lv_aload_n hx hb dX1_canAddPerson_7 rfl (lv_at hl 0 rfl) ?_
  refine va_get (D := g.1) (ci := 1) (v := .int (nI np)) (C := RX1) (T := TX1) (N := 8) hx hb hts hiX1 hown hK.1 hP 0 rfl rfl 5 (by decide) hf0 (fun _ h9 => h9) rfl dX1_canAddPerson_8 ?_
  refine lv_aload_n hx hb dX1_canAddPerson_11 rfl (lv_at hl 0 rfl) ?_
  refine va_get (D := g.1) (ci := 1) (v := .ref Pa) (C := RX1) (T := TX1) (N := 8) hx hb hts hiX1 hown hK.1 hP 0 rfl rfl 0 (by decide) hf1 (fun _ h9 => h9) rfl dX1_canAddPerson_12 ?_
  refine va_alen hx hb hK.1 hP 1 0 (v := 6) rfl rfl rfl dX1_canAddPerson_15 ?_
  refine zz_icmp_ge (tgt := 23) hx hb dX1_canAddPerson_16 (by decide) (zi_n np) (zi_c 6 rfl) (by omega) (by omega) (fun c_2 => ?_) (fun c_2 => ?_)
  · refine lv_iconst (v := 0) hx hb dX1_canAddPerson_23 (by decide) ?_
    exact hret 24 _ _ _ 0 () dX1_canAddPerson_24 rfl hP hD hS (show 0 = if np < 6 then 1 else 0 from by first | (exfalso; omega) | (rw [if_pos (by omega)]) | (rw [if_neg (by omega)]))
  · refine lv_iconst (v := 1) hx hb dX1_canAddPerson_19 (by decide) ?_
    refine lv_goto (tgt := 24) hx hb dX1_canAddPerson_20 (by decide) ?_
    exact hret 24 _ _ _ 1 () dX1_canAddPerson_24 rfl hP hD hS (show 1 = if np < 6 then 1 else 0 from by first | (exfalso; omega) | (rw [if_pos (by omega)]) | (rw [if_neg (by omega)]))

set_option maxHeartbeats 4000000 in
set_option maxRecDepth 100000 in
theorem c_X1_addPerson (l : Launch) (g : zG) (P Pa Pb Pc Pd : Nat) (hs np nm nw : Nat) (wc : Nat → Nat) (hnp : np < 6) : zV l yX1_addPerson wsX1_addPerson 1 20 0 0 g [.ref P] [(P, .inr (1, [.ref Pa, .ref Pb, .ref Pc, .ref Pd, .int (nI hs), .int (nI np), .int (nI nm), .int (nI nw)])), (Pa, .inl (g.2.1.1, 6, .inl (zf wc)))] (fun (u : Unit) => True) (fun (u : Unit) => [(P, .inr (1, [.ref Pa, .ref Pb, .ref Pc, .ref Pd, .int (nI hs), .int (nI (np + 1)), .int (nI nm), .int (nI nw)])), (Pa, .inl (g.2.1.1, 6, .inl (zf (zu wc np 0))))]) := by
  refine zz_bodyV (cc := cX1_addPerson) (nL := 1) (own := RX1) (by decide) rfl rfl (Nat.le_of_ble_eq_true rfl) ?_
  intro pP eE s mM below meth cC A Q ls F hin hA hK hE hP hD hl hret
  have hS : va_S A s.heap s.heap [] := va_S.rf
  obtain ⟨hx, hb, hml, hown, hts⟩ := id F
  have hiX1 : ∀ w ∈ u_ws RX1 TX1 8, w ∈ wsX1_addPerson := by decide +kernel
  have hf0 := hts (.fieldLink RX1 9 "StepClock$Plan" "wayCounts" "[I") (by decide +kernel)
  have hf1 := hts (.fieldLink RX1 28 "StepClock$Plan" "people" "I") (by decide +kernel)
  have hl : lv_has ls 1 [(0, .ref P)] := hl
  refine lv_aload_n hx hb dX1_addPerson_0 rfl (lv_at hl 0 rfl) ?_
  refine zz_callI (wr := []) (wc := [(P, .inr (1, [.ref Pa, .ref Pb, .ref Pc, .ref Pd, .int (nI hs), .int (nI np), .int (nI nm), .int (nI nw)])), (Pa, .inl (g.2.1.1, 6, .inl (zf wc)))]) (As := []) (rest := []) F hK hE hA hP hD hS (c_X1_canAddPerson l g (P := P) (Pa := Pa) (Pb := Pb) (Pc := Pc) (Pd := Pd) (hs := hs) (np := np) (nm := nm) (nw := nw) (wc := wc) (hnp := by first | assumption | omega)) (cwV 0 hts gX1_addPerson_X1_canAddPerson rfl rfl rfl (by decide +kernel) ⟨Nat.le_of_ble_eq_true rfl, Nat.le_of_ble_eq_true rfl⟩) [0, 1] [] rfl rfl (by decide) (by decide) (by decide) 1 0 rfl rfl rfl rfl rfl hl.1 (Nat.le_of_ble_eq_true rfl) dX1_addPerson_1 ⟨Nat.le_of_ble_eq_true rfl, Nat.le_of_ble_eq_true rfl⟩ (fun r_1 u_1 H locs hw hP hD hS => ?_)
  have hP : va_P g.1 vwCl [(P, .inr (1, [.ref Pa, .ref Pb, .ref Pc, .ref Pd, .int (nI hs), .int (nI np), .int (nI nm), .int (nI nw)])), (Pa, .inl (g.2.1.1, 6, .inl (zf wc)))] _ := hP
  have hD : va_D A [(P, .inr (1, [.ref Pa, .ref Pb, .ref Pc, .ref Pd, .int (nI hs), .int (nI np), .int (nI nm), .int (nI nw)])), (Pa, .inl (g.2.1.1, 6, .inl (zf wc)))] := hD
  have hr_1 := hw
  have hr_1 : r_1 = if np < 6 then 1 else 0 := hr_1
  rw [if_pos (show np < 6 from by omega)] at hr_1
  subst hr_1
  refine zz_if_eq (tgt := 27) hx hb dX1_addPerson_4 (by decide) (zi_c 1 rfl) (by omega) (fun c_3 => (by exfalso; omega)) (fun c_3 => ?_)
  refine lv_aload_n hx hb dX1_addPerson_7 rfl (lv_at hl 0 rfl) ?_
  refine va_get (D := g.1) (ci := 1) (v := .ref Pa) (C := RX1) (T := TX1) (N := 8) hx hb hts hiX1 hown hK.1 hP 0 rfl rfl 0 (by decide) hf0 (fun _ h9 => h9) rfl dX1_addPerson_8 ?_
  refine lv_aload_n hx hb dX1_addPerson_11 rfl (lv_at hl 0 rfl) ?_
  refine va_get (D := g.1) (ci := 1) (v := .int (nI np)) (C := RX1) (T := TX1) (N := 8) hx hb hts hiX1 hown hK.1 hP 0 rfl rfl 5 (by decide) hf1 (fun _ h9 => h9) rfl dX1_addPerson_12 ?_
  refine lv_iconst (v := 0) hx hb dX1_addPerson_15 (by decide) ?_
  refine zz_iast hx hb hK.1 hP hD hS 1 0 rfl rfl np rfl (by omega) (by decide) dX1_addPerson_16 (fun H locs hP hD hS => ?_)
  have hP : va_P g.1 vwCl [(P, .inr (1, [.ref Pa, .ref Pb, .ref Pc, .ref Pd, .int (nI hs), .int (nI np), .int (nI nm), .int (nI nw)])), (Pa, .inl (g.2.1.1, 6, .inl (upd (zf wc) np (nI 0))))] _ := hP
  have hD : va_D A [(P, .inr (1, [.ref Pa, .ref Pb, .ref Pc, .ref Pd, .int (nI hs), .int (nI np), .int (nI nm), .int (nI nw)])), (Pa, .inl (g.2.1.1, 6, .inl (upd (zf wc) np (nI 0))))] := hD
  rw [zf_upd] at hP hD
  refine lv_aload_n hx hb dX1_addPerson_17 rfl (lv_at hl 0 rfl) ?_
  refine lv_dup hx hb dX1_addPerson_18 rfl ?_
  refine va_get (D := g.1) (ci := 1) (v := .int (nI np)) (C := RX1) (T := TX1) (N := 8) hx hb hts hiX1 hown hK.1 hP 0 rfl rfl 5 (by decide) hf1 (fun _ h9 => h9) rfl dX1_addPerson_19 ?_
  refine lv_iconst (v := 1) hx hb dX1_addPerson_22 (by decide) ?_
  refine lv_iadd hx hb dX1_addPerson_23 ?_
  refine zz_topi (y := nI (np + 1)) (zi_eq (zi_add (zi_n np) (zi_c 1 rfl)) (zi_n (np + 1)) (by omega)) ?_
  refine va_put (D := g.1) (ci := 1) (v := .int (nI (np + 1))) (ty := .int) (C := RX1) (T := TX1) (N := 8) hx hb hts hiX1 tyX1 tyX1_ok nmX1 hown hK.1 hP hD hS 0 rfl rfl 5 (by decide) hf1 (fun _ h9 => h9) rfl (by decide +kernel) rfl rfl (Nat.le_of_ble_eq_true rfl) dX1_addPerson_24 (fun H locs hP hD hS => ?_)
  have hP : va_P g.1 vwCl [(P, .inr (1, [.ref Pa, .ref Pb, .ref Pc, .ref Pd, .int (nI hs), .int (nI (np + 1)), .int (nI nm), .int (nI nw)])), (Pa, .inl (g.2.1.1, 6, .inl (zf (zu wc np 0))))] _ := hP
  have hD : va_D A [(P, .inr (1, [.ref Pa, .ref Pb, .ref Pc, .ref Pd, .int (nI hs), .int (nI (np + 1)), .int (nI nm), .int (nI nw)])), (Pa, .inl (g.2.1.1, 6, .inl (zf (zu wc np 0))))] := hD
  exact hret 27 _ _ _ () dX1_addPerson_27 hP hD hS (show True from by trivial)

set_option maxHeartbeats 4000000 in
set_option maxRecDepth 100000 in
theorem c_X1_canAddWay (l : Launch) (g : zG) (P Pa Pb Pc Pd : Nat) (hs np nm nw : Nat) (wc : Nat → Nat) (hnp : np ≤ 6) (hwc : ∀ p, wc p ≤ 4) : zI l yX1_canAddWay wsX1_canAddWay 1 21 g [.ref P] [(P, .inr (1, [.ref Pa, .ref Pb, .ref Pc, .ref Pd, .int (nI hs), .int (nI np), .int (nI nm), .int (nI nw)])), (Pa, .inl (g.2.1.1, 6, .inl (zf wc)))] (fun (r : Int32) (u : Unit) => r = if 0 < np ∧ wc (np - 1) < 4 then 1 else 0) (fun (u : Unit) => [(P, .inr (1, [.ref Pa, .ref Pb, .ref Pc, .ref Pd, .int (nI hs), .int (nI np), .int (nI nm), .int (nI nw)])), (Pa, .inl (g.2.1.1, 6, .inl (zf wc)))]) := by
  refine zz_bodyI (cc := cX1_canAddWay) (nL := 1) (own := RX1) (ty := .boolean) (by decide) rfl rfl (Nat.le_of_ble_eq_true rfl) ?_
  intro pP eE s mM below meth cC A Q ls F hA hK hE hP hD hl hret
  have hS : va_S A s.heap s.heap [] := va_S.rf
  obtain ⟨hx, hb, hml, hown, hts⟩ := id F
  have hiX1 : ∀ w ∈ u_ws RX1 TX1 8, w ∈ wsX1_canAddWay := by decide +kernel
  have hf0 := hts (.fieldLink RX1 28 "StepClock$Plan" "people" "I") (by decide +kernel)
  have hf1 := hts (.fieldLink RX1 9 "StepClock$Plan" "wayCounts" "[I") (by decide +kernel)
  have hl : lv_has ls 1 [(0, .ref P)] := hl
  have e1 : (nI np - 1).toInt = (np : Int) - 1 := by rw [zi_sub (zi_n np) (zi_c (x := 1) 1 rfl), zi_t (by omega) (by omega)]
  refine lv_aload_n hx hb dX1_canAddWay_0 rfl (lv_at hl 0 rfl) ?_
  refine lv_aload_n hx hb dX1_canAddWay_1 rfl (lv_at hl 0 rfl) ?_
  refine va_get (D := g.1) (ci := 1) (v := .int (nI np)) (C := RX1) (T := TX1) (N := 8) hx hb hts hiX1 hown hK.1 hP 0 rfl rfl 5 (by decide) hf0 (fun _ h9 => h9) rfl dX1_canAddWay_2 ?_
  refine lv_iconst (v := 1) hx hb dX1_canAddWay_5 (by decide) ?_
  refine lv_isub hx hb dX1_canAddWay_6 ?_
  refine zz_callI (wr := []) (wc := [(P, .inr (1, [.ref Pa, .ref Pb, .ref Pc, .ref Pd, .int (nI hs), .int (nI np), .int (nI nm), .int (nI nw)])), (Pa, .inl (g.2.1.1, 6, .inl (zf wc)))]) (As := [.int ((nI np) - 1)]) (rest := []) F hK hE hA hP hD hS (c_X1_isPerson l g (P := P) (Pa := Pa) (Pb := Pb) (Pc := Pc) (Pd := Pd) (hs := hs) (np := np) (nm := nm) (nw := nw) (wc := wc) (x := (nI np) - 1) (hnp := by first | assumption | omega)) (cwV 1 hts gX1_canAddWay_X1_isPerson rfl rfl rfl (by decide +kernel) ⟨Nat.le_of_ble_eq_true rfl, Nat.le_of_ble_eq_true rfl⟩) [0, 1] [] rfl rfl (by decide) (by decide) (by decide) 1 0 rfl rfl rfl rfl rfl hl.1 (Nat.le_of_ble_eq_true rfl) dX1_canAddWay_7 ⟨Nat.le_of_ble_eq_true rfl, Nat.le_of_ble_eq_true rfl⟩ (fun r_1 u_1 H locs hw hP hD hS => ?_)
  have hP : va_P g.1 vwCl [(P, .inr (1, [.ref Pa, .ref Pb, .ref Pc, .ref Pd, .int (nI hs), .int (nI np), .int (nI nm), .int (nI nw)])), (Pa, .inl (g.2.1.1, 6, .inl (zf wc)))] _ := hP
  have hD : va_D A [(P, .inr (1, [.ref Pa, .ref Pb, .ref Pc, .ref Pd, .int (nI hs), .int (nI np), .int (nI nm), .int (nI nw)])), (Pa, .inl (g.2.1.1, 6, .inl (zf wc)))] := hD
  have hr_1 := hw
  have hr_1 : r_1 = if 0 ≤ ((nI np) - 1).toInt ∧ ((nI np) - 1).toInt < (np : Int) then 1 else 0 := hr_1
  by_cases b_2 : 0 ≤ ((nI np) - 1).toInt ∧ ((nI np) - 1).toInt < (np : Int)
  · rw [if_pos b_2] at hr_1
    subst hr_1
    refine zz_if_eq (tgt := 32) hx hb dX1_canAddWay_10 (by decide) (zi_c 1 rfl) (by omega) (fun c_3 => (by exfalso; omega)) (fun c_3 => ?_)
    refine lv_aload_n hx hb dX1_canAddWay_13 rfl (lv_at hl 0 rfl) ?_
    refine va_get (D := g.1) (ci := 1) (v := .ref Pa) (C := RX1) (T := TX1) (N := 8) hx hb hts hiX1 hown hK.1 hP 0 rfl rfl 0 (by decide) hf1 (fun _ h9 => h9) rfl dX1_canAddWay_14 ?_
    refine lv_aload_n hx hb dX1_canAddWay_17 rfl (lv_at hl 0 rfl) ?_
    refine va_get (D := g.1) (ci := 1) (v := .int (nI np)) (C := RX1) (T := TX1) (N := 8) hx hb hts hiX1 hown hK.1 hP 0 rfl rfl 5 (by decide) hf0 (fun _ h9 => h9) rfl dX1_canAddWay_18 ?_
    refine lv_iconst (v := 1) hx hb dX1_canAddWay_21 (by decide) ?_
    refine lv_isub hx hb dX1_canAddWay_22 ?_
    refine zz_iald hx hb hK.1 hP 1 0 rfl rfl (np - 1) (zi_eq (zi_sub (zi_n np) (zi_c 1 rfl)) (zi_n (np - 1)) (by omega)) (by omega) (by decide) dX1_canAddWay_23 ?_
    have hq_4 := hwc (np - 1)
    refine lv_iconst (v := 4) hx hb dX1_canAddWay_24 (by decide) ?_
    refine zz_icmp_ge (tgt := 32) hx hb dX1_canAddWay_25 (by decide) (zi_n (wc (np - 1))) (zi_c 4 rfl) (by omega) (by omega) (fun c_5 => ?_) (fun c_5 => ?_)
    · refine lv_iconst (v := 0) hx hb dX1_canAddWay_32 (by decide) ?_
      exact hret 33 _ _ _ 0 () dX1_canAddWay_33 rfl hP hD hS (show 0 = if 0 < np ∧ wc (np - 1) < 4 then 1 else 0 from by first | (exfalso; omega) | (rw [if_pos (by omega)]) | (rw [if_neg (by omega)]))
    · refine lv_iconst (v := 1) hx hb dX1_canAddWay_28 (by decide) ?_
      refine lv_goto (tgt := 33) hx hb dX1_canAddWay_29 (by decide) ?_
      exact hret 33 _ _ _ 1 () dX1_canAddWay_33 rfl hP hD hS (show 1 = if 0 < np ∧ wc (np - 1) < 4 then 1 else 0 from by first | (exfalso; omega) | (rw [if_pos (by omega)]) | (rw [if_neg (by omega)]))
  · rw [if_neg b_2] at hr_1
    subst hr_1
    refine zz_if_eq (tgt := 32) hx hb dX1_canAddWay_10 (by decide) (zi_c 0 rfl) (by omega) (fun c_6 => ?_) (fun c_6 => (by exfalso; omega))
    refine lv_iconst (v := 0) hx hb dX1_canAddWay_32 (by decide) ?_
    exact hret 33 _ _ _ 0 () dX1_canAddWay_33 rfl hP hD hS (show 0 = if 0 < np ∧ wc (np - 1) < 4 then 1 else 0 from by first | (exfalso; omega) | (rw [if_pos (by omega)]) | (rw [if_neg (by omega)]))

set_option maxHeartbeats 4000000 in
set_option maxRecDepth 100000 in
theorem c_X1_addWay (l : Launch) (g : zG) (P Pa Pb Pc Pd : Nat) (hs np nm nw : Nat) (wc wp : Nat → Nat) (ki fr sp pa : Nat) (hnp : 0 < np ∧ np ≤ 6) (hwc : ∀ p, wc p ≤ 4) (hw3 : wc (np - 1) < 4) : zV l yX1_addWay wsX1_addWay 2 41 0 0 g [.ref P, .int (nI ki), .int (nI fr), .int (nI sp), .int (nI pa)] [(P, .inr (1, [.ref Pa, .ref Pb, .ref Pc, .ref Pd, .int (nI hs), .int (nI np), .int (nI nm), .int (nI nw)])), (Pa, .inl (g.2.1.1, 6, .inl (zf wc))), (Pb, .inl (g.2.1.1, 96, .inl (zf wp)))] (fun (u : Unit) => True) (fun (u : Unit) => [(P, .inr (1, [.ref Pa, .ref Pb, .ref Pc, .ref Pd, .int (nI hs), .int (nI np), .int (nI nm), .int (nI nw)])), (Pa, .inl (g.2.1.1, 6, .inl (zf (zu wc (np - 1) (wc (np - 1) + 1))))), (Pb, .inl (g.2.1.1, 96, .inl (zf (zu (zu (zu (zu wp (16 * (np - 1) + 4 * wc (np - 1)) ki) (16 * (np - 1) + 4 * wc (np - 1) + 1) fr) (16 * (np - 1) + 4 * wc (np - 1) + 2) sp) (16 * (np - 1) + 4 * wc (np - 1) + 3) pa))))]) := by
  refine zz_bodyV (cc := cX1_addWay) (nL := 7) (own := RX1) (by decide) rfl rfl (Nat.le_of_ble_eq_true rfl) ?_
  intro pP eE s mM below meth cC A Q ls F hin hA hK hE hP hD hl hret
  have hS : va_S A s.heap s.heap [] := va_S.rf
  obtain ⟨hx, hb, hml, hown, hts⟩ := id F
  have hiX1 : ∀ w ∈ u_ws RX1 TX1 8, w ∈ wsX1_addWay := by decide +kernel
  have hf0 := hts (.fieldLink RX1 28 "StepClock$Plan" "people" "I") (by decide +kernel)
  have hf1 := hts (.fieldLink RX1 9 "StepClock$Plan" "wayCounts" "[I") (by decide +kernel)
  have hf2 := hts (.fieldLink RX1 15 "StepClock$Plan" "wayParts" "[I") (by decide +kernel)
  have hl : lv_has ls 7 [(0, .ref P), (1, .int (nI ki)), (2, .int (nI fr)), (3, .int (nI sp)), (4, .int (nI pa))] := hl
  refine lv_aload_n hx hb dX1_addWay_0 rfl (lv_at hl 0 rfl) ?_
  refine zz_callI (wr := [(Pb, .inl (g.2.1.1, 96, .inl (zf wp)))]) (wc := [(P, .inr (1, [.ref Pa, .ref Pb, .ref Pc, .ref Pd, .int (nI hs), .int (nI np), .int (nI nm), .int (nI nw)])), (Pa, .inl (g.2.1.1, 6, .inl (zf wc)))]) (As := []) (rest := []) F hK hE hA hP hD hS (c_X1_canAddWay l g (P := P) (Pa := Pa) (Pb := Pb) (Pc := Pc) (Pd := Pd) (hs := hs) (np := np) (nm := nm) (nw := nw) (wc := wc) (hnp := by first | assumption | omega) (hwc := by first | assumption | omega)) (cwV 0 hts gX1_addWay_X1_canAddWay rfl rfl rfl (by decide +kernel) ⟨Nat.le_of_ble_eq_true rfl, Nat.le_of_ble_eq_true rfl⟩) [0, 1] [2] rfl rfl (by decide) (by decide) (by decide) 1 0 rfl rfl rfl rfl rfl hl.1 (Nat.le_of_ble_eq_true rfl) dX1_addWay_1 ⟨Nat.le_of_ble_eq_true rfl, Nat.le_of_ble_eq_true rfl⟩ (fun r_1 u_1 H locs hw hP hD hS => ?_)
  have hP : va_P g.1 vwCl [(Pb, .inl (g.2.1.1, 96, .inl (zf wp))), (P, .inr (1, [.ref Pa, .ref Pb, .ref Pc, .ref Pd, .int (nI hs), .int (nI np), .int (nI nm), .int (nI nw)])), (Pa, .inl (g.2.1.1, 6, .inl (zf wc)))] _ := hP
  have hD : va_D A [(Pb, .inl (g.2.1.1, 96, .inl (zf wp))), (P, .inr (1, [.ref Pa, .ref Pb, .ref Pc, .ref Pd, .int (nI hs), .int (nI np), .int (nI nm), .int (nI nw)])), (Pa, .inl (g.2.1.1, 6, .inl (zf wc)))] := hD
  have hr_1 := hw
  have hr_1 : r_1 = if 0 < np ∧ wc (np - 1) < 4 then 1 else 0 := hr_1
  rw [if_pos (show 0 < np ∧ wc (np - 1) < 4 from by omega)] at hr_1
  subst hr_1
  refine zz_if_ne (tgt := 8) hx hb dX1_addWay_4 (by decide) (zi_c 1 rfl) (by omega) (fun c_3 => ?_) (fun c_3 => (by exfalso; omega))
  refine lv_aload_n hx hb dX1_addWay_8 rfl (lv_at hl 0 rfl) ?_
  refine va_get (D := g.1) (ci := 1) (v := .int (nI np)) (C := RX1) (T := TX1) (N := 8) hx hb hts hiX1 hown hK.1 hP 1 rfl rfl 5 (by decide) hf0 (fun _ h9 => h9) rfl dX1_addWay_9 ?_
  refine lv_iconst (v := 1) hx hb dX1_addWay_12 (by decide) ?_
  refine lv_isub hx hb dX1_addWay_13 ?_
  refine zz_topi (y := nI (np - 1)) (zi_eq (zi_sub (zi_n np) (zi_c 1 rfl)) (zi_n (np - 1)) (by omega)) ?_
  refine lv_istore (lv' := [(5, .int (nI (np - 1))), (0, .ref P), (1, .int (nI ki)), (2, .int (nI fr)), (3, .int (nI sp)), (4, .int (nI pa))]) hx hb dX1_addWay_14 hl (by decide) rfl (fun ls hl => ?_)
  refine lv_iload hx hb dX1_addWay_16 (lv_at hl 0 rfl) ?_
  refine lv_iconst (v := 4) hx hb dX1_addWay_18 (by decide) ?_
  refine lv_imul hx hb dX1_addWay_19 ?_
  refine lv_aload_n hx hb dX1_addWay_20 rfl (lv_at hl 1 rfl) ?_
  refine va_get (D := g.1) (ci := 1) (v := .ref Pa) (C := RX1) (T := TX1) (N := 8) hx hb hts hiX1 hown hK.1 hP 1 rfl rfl 0 (by decide) hf1 (fun _ h9 => h9) rfl dX1_addWay_21 ?_
  refine lv_iload hx hb dX1_addWay_24 (lv_at hl 0 rfl) ?_
  refine zz_iald hx hb hK.1 hP 2 0 rfl rfl (np - 1) rfl (by omega) (by decide) dX1_addWay_26 ?_
  have hq_4 := hwc (np - 1)
  refine lv_iadd hx hb dX1_addWay_27 ?_
  refine lv_iconst (v := 4) hx hb dX1_addWay_28 (by decide) ?_
  refine lv_imul hx hb dX1_addWay_29 ?_
  refine zz_topi (y := nI ((((np - 1) * 4) + (wc (np - 1))) * 4)) (zi_eq (zi_mul (zi_add (zi_mul (zi_n (np - 1)) (zi_c 4 rfl)) (zi_n (wc (np - 1)))) (zi_c 4 rfl)) (zi_n ((((np - 1) * 4) + (wc (np - 1))) * 4)) (by omega)) ?_
  refine lv_istore (lv' := [(6, .int (nI ((((np - 1) * 4) + (wc (np - 1))) * 4))), (5, .int (nI (np - 1))), (0, .ref P), (1, .int (nI ki)), (2, .int (nI fr)), (3, .int (nI sp)), (4, .int (nI pa))]) hx hb dX1_addWay_30 hl (by decide) rfl (fun ls hl => ?_)
  refine lv_iload hx hb dX1_addWay_32 (lv_at hl 0 rfl) ?_
  refine zz_if_lt (tgt := 99) hx hb dX1_addWay_34 (by decide) (zi_n ((((np - 1) * 4) + (wc (np - 1))) * 4)) (by omega) (fun c_5 => (by exfalso; omega)) (fun c_5 => ?_)
  refine lv_iload hx hb dX1_addWay_37 (lv_at hl 0 rfl) ?_
  refine lv_iconst (v := 3) hx hb dX1_addWay_39 (by decide) ?_
  refine lv_iadd hx hb dX1_addWay_40 ?_
  refine lv_aload_n hx hb dX1_addWay_41 rfl (lv_at hl 2 rfl) ?_
  refine va_get (D := g.1) (ci := 1) (v := .ref Pb) (C := RX1) (T := TX1) (N := 8) hx hb hts hiX1 hown hK.1 hP 1 rfl rfl 1 (by decide) hf2 (fun _ h9 => h9) rfl dX1_addWay_42 ?_
  refine va_alen hx hb hK.1 hP 0 0 (v := 96) rfl rfl rfl dX1_addWay_45 ?_
  refine zz_icmp_ge (tgt := 99) hx hb dX1_addWay_46 (by decide) (zi_add (zi_n ((((np - 1) * 4) + (wc (np - 1))) * 4)) (zi_c 3 rfl)) (zi_c 96 rfl) (by omega) (by omega) (fun c_6 => (by exfalso; omega)) (fun c_6 => ?_)
  refine lv_aload_n hx hb dX1_addWay_49 rfl (lv_at hl 2 rfl) ?_
  refine va_get (D := g.1) (ci := 1) (v := .ref Pb) (C := RX1) (T := TX1) (N := 8) hx hb hts hiX1 hown hK.1 hP 1 rfl rfl 1 (by decide) hf2 (fun _ h9 => h9) rfl dX1_addWay_50 ?_
  refine lv_iload hx hb dX1_addWay_53 (lv_at hl 0 rfl) ?_
  refine lv_iload_n hx hb dX1_addWay_55 rfl (lv_at hl 3 rfl) ?_
  refine zz_iast hx hb hK.1 hP hD hS 0 0 rfl rfl ((((np - 1) * 4) + (wc (np - 1))) * 4) rfl (by omega) (by decide) dX1_addWay_56 (fun H locs hP hD hS => ?_)
  have hP : va_P g.1 vwCl [(Pb, .inl (g.2.1.1, 96, .inl (upd (zf wp) ((((np - 1) * 4) + (wc (np - 1))) * 4) (nI ki)))), (P, .inr (1, [.ref Pa, .ref Pb, .ref Pc, .ref Pd, .int (nI hs), .int (nI np), .int (nI nm), .int (nI nw)])), (Pa, .inl (g.2.1.1, 6, .inl (zf wc)))] _ := hP
  have hD : va_D A [(Pb, .inl (g.2.1.1, 96, .inl (upd (zf wp) ((((np - 1) * 4) + (wc (np - 1))) * 4) (nI ki)))), (P, .inr (1, [.ref Pa, .ref Pb, .ref Pc, .ref Pd, .int (nI hs), .int (nI np), .int (nI nm), .int (nI nw)])), (Pa, .inl (g.2.1.1, 6, .inl (zf wc)))] := hD
  rw [zf_upd] at hP hD
  refine lv_aload_n hx hb dX1_addWay_57 rfl (lv_at hl 2 rfl) ?_
  refine va_get (D := g.1) (ci := 1) (v := .ref Pb) (C := RX1) (T := TX1) (N := 8) hx hb hts hiX1 hown hK.1 hP 1 rfl rfl 1 (by decide) hf2 (fun _ h9 => h9) rfl dX1_addWay_58 ?_
  refine lv_iload hx hb dX1_addWay_61 (lv_at hl 0 rfl) ?_
  refine lv_iconst (v := 1) hx hb dX1_addWay_63 (by decide) ?_
  refine lv_iadd hx hb dX1_addWay_64 ?_
  refine lv_iload_n hx hb dX1_addWay_65 rfl (lv_at hl 4 rfl) ?_
  refine zz_iast hx hb hK.1 hP hD hS 0 0 rfl rfl (((((np - 1) * 4) + (wc (np - 1))) * 4) + 1) (zi_eq (zi_add (zi_n ((((np - 1) * 4) + (wc (np - 1))) * 4)) (zi_c 1 rfl)) (zi_n (((((np - 1) * 4) + (wc (np - 1))) * 4) + 1)) (by omega)) (by omega) (by decide) dX1_addWay_66 (fun H locs hP hD hS => ?_)
  have hP : va_P g.1 vwCl [(Pb, .inl (g.2.1.1, 96, .inl (upd (zf (zu wp ((((np - 1) * 4) + (wc (np - 1))) * 4) ki)) (((((np - 1) * 4) + (wc (np - 1))) * 4) + 1) (nI fr)))), (P, .inr (1, [.ref Pa, .ref Pb, .ref Pc, .ref Pd, .int (nI hs), .int (nI np), .int (nI nm), .int (nI nw)])), (Pa, .inl (g.2.1.1, 6, .inl (zf wc)))] _ := hP
  have hD : va_D A [(Pb, .inl (g.2.1.1, 96, .inl (upd (zf (zu wp ((((np - 1) * 4) + (wc (np - 1))) * 4) ki)) (((((np - 1) * 4) + (wc (np - 1))) * 4) + 1) (nI fr)))), (P, .inr (1, [.ref Pa, .ref Pb, .ref Pc, .ref Pd, .int (nI hs), .int (nI np), .int (nI nm), .int (nI nw)])), (Pa, .inl (g.2.1.1, 6, .inl (zf wc)))] := hD
  rw [zf_upd] at hP hD
  refine lv_aload_n hx hb dX1_addWay_67 rfl (lv_at hl 2 rfl) ?_
  refine va_get (D := g.1) (ci := 1) (v := .ref Pb) (C := RX1) (T := TX1) (N := 8) hx hb hts hiX1 hown hK.1 hP 1 rfl rfl 1 (by decide) hf2 (fun _ h9 => h9) rfl dX1_addWay_68 ?_
  refine lv_iload hx hb dX1_addWay_71 (lv_at hl 0 rfl) ?_
  refine lv_iconst (v := 2) hx hb dX1_addWay_73 (by decide) ?_
  refine lv_iadd hx hb dX1_addWay_74 ?_
  refine lv_iload_n hx hb dX1_addWay_75 rfl (lv_at hl 5 rfl) ?_
  refine zz_iast hx hb hK.1 hP hD hS 0 0 rfl rfl (((((np - 1) * 4) + (wc (np - 1))) * 4) + 2) (zi_eq (zi_add (zi_n ((((np - 1) * 4) + (wc (np - 1))) * 4)) (zi_c 2 rfl)) (zi_n (((((np - 1) * 4) + (wc (np - 1))) * 4) + 2)) (by omega)) (by omega) (by decide) dX1_addWay_76 (fun H locs hP hD hS => ?_)
  have hP : va_P g.1 vwCl [(Pb, .inl (g.2.1.1, 96, .inl (upd (zf (zu (zu wp ((((np - 1) * 4) + (wc (np - 1))) * 4) ki) (((((np - 1) * 4) + (wc (np - 1))) * 4) + 1) fr)) (((((np - 1) * 4) + (wc (np - 1))) * 4) + 2) (nI sp)))), (P, .inr (1, [.ref Pa, .ref Pb, .ref Pc, .ref Pd, .int (nI hs), .int (nI np), .int (nI nm), .int (nI nw)])), (Pa, .inl (g.2.1.1, 6, .inl (zf wc)))] _ := hP
  have hD : va_D A [(Pb, .inl (g.2.1.1, 96, .inl (upd (zf (zu (zu wp ((((np - 1) * 4) + (wc (np - 1))) * 4) ki) (((((np - 1) * 4) + (wc (np - 1))) * 4) + 1) fr)) (((((np - 1) * 4) + (wc (np - 1))) * 4) + 2) (nI sp)))), (P, .inr (1, [.ref Pa, .ref Pb, .ref Pc, .ref Pd, .int (nI hs), .int (nI np), .int (nI nm), .int (nI nw)])), (Pa, .inl (g.2.1.1, 6, .inl (zf wc)))] := hD
  rw [zf_upd] at hP hD
  refine lv_aload_n hx hb dX1_addWay_77 rfl (lv_at hl 2 rfl) ?_
  refine va_get (D := g.1) (ci := 1) (v := .ref Pb) (C := RX1) (T := TX1) (N := 8) hx hb hts hiX1 hown hK.1 hP 1 rfl rfl 1 (by decide) hf2 (fun _ h9 => h9) rfl dX1_addWay_78 ?_
  refine lv_iload hx hb dX1_addWay_81 (lv_at hl 0 rfl) ?_
  refine lv_iconst (v := 3) hx hb dX1_addWay_83 (by decide) ?_
  refine lv_iadd hx hb dX1_addWay_84 ?_
  refine lv_iload hx hb dX1_addWay_85 (lv_at hl 6 rfl) ?_
  refine zz_iast hx hb hK.1 hP hD hS 0 0 rfl rfl (((((np - 1) * 4) + (wc (np - 1))) * 4) + 3) (zi_eq (zi_add (zi_n ((((np - 1) * 4) + (wc (np - 1))) * 4)) (zi_c 3 rfl)) (zi_n (((((np - 1) * 4) + (wc (np - 1))) * 4) + 3)) (by omega)) (by omega) (by decide) dX1_addWay_87 (fun H locs hP hD hS => ?_)
  have hP : va_P g.1 vwCl [(Pb, .inl (g.2.1.1, 96, .inl (upd (zf (zu (zu (zu wp ((((np - 1) * 4) + (wc (np - 1))) * 4) ki) (((((np - 1) * 4) + (wc (np - 1))) * 4) + 1) fr) (((((np - 1) * 4) + (wc (np - 1))) * 4) + 2) sp)) (((((np - 1) * 4) + (wc (np - 1))) * 4) + 3) (nI pa)))), (P, .inr (1, [.ref Pa, .ref Pb, .ref Pc, .ref Pd, .int (nI hs), .int (nI np), .int (nI nm), .int (nI nw)])), (Pa, .inl (g.2.1.1, 6, .inl (zf wc)))] _ := hP
  have hD : va_D A [(Pb, .inl (g.2.1.1, 96, .inl (upd (zf (zu (zu (zu wp ((((np - 1) * 4) + (wc (np - 1))) * 4) ki) (((((np - 1) * 4) + (wc (np - 1))) * 4) + 1) fr) (((((np - 1) * 4) + (wc (np - 1))) * 4) + 2) sp)) (((((np - 1) * 4) + (wc (np - 1))) * 4) + 3) (nI pa)))), (P, .inr (1, [.ref Pa, .ref Pb, .ref Pc, .ref Pd, .int (nI hs), .int (nI np), .int (nI nm), .int (nI nw)])), (Pa, .inl (g.2.1.1, 6, .inl (zf wc)))] := hD
  rw [zf_upd] at hP hD
  refine lv_aload_n hx hb dX1_addWay_88 rfl (lv_at hl 2 rfl) ?_
  refine va_get (D := g.1) (ci := 1) (v := .ref Pa) (C := RX1) (T := TX1) (N := 8) hx hb hts hiX1 hown hK.1 hP 1 rfl rfl 0 (by decide) hf1 (fun _ h9 => h9) rfl dX1_addWay_89 ?_
  refine lv_iload hx hb dX1_addWay_92 (lv_at hl 1 rfl) ?_
  refine lv_dup2_11 hx hb dX1_addWay_94 rfl rfl ?_
  refine zz_iald hx hb hK.1 hP 2 0 rfl rfl (np - 1) rfl (by omega) (by decide) dX1_addWay_95 ?_
  have hq_7 := hwc (np - 1)
  refine lv_iconst (v := 1) hx hb dX1_addWay_96 (by decide) ?_
  refine lv_iadd hx hb dX1_addWay_97 ?_
  refine zz_topi (y := nI ((wc (np - 1)) + 1)) (zi_eq (zi_add (zi_n (wc (np - 1))) (zi_c 1 rfl)) (zi_n ((wc (np - 1)) + 1)) (by omega)) ?_
  refine zz_iast hx hb hK.1 hP hD hS 2 0 rfl rfl (np - 1) rfl (by omega) (by decide) dX1_addWay_98 (fun H locs hP hD hS => ?_)
  have hP : va_P g.1 vwCl [(Pb, .inl (g.2.1.1, 96, .inl (zf (zu (zu (zu (zu wp ((((np - 1) * 4) + (wc (np - 1))) * 4) ki) (((((np - 1) * 4) + (wc (np - 1))) * 4) + 1) fr) (((((np - 1) * 4) + (wc (np - 1))) * 4) + 2) sp) (((((np - 1) * 4) + (wc (np - 1))) * 4) + 3) pa)))), (P, .inr (1, [.ref Pa, .ref Pb, .ref Pc, .ref Pd, .int (nI hs), .int (nI np), .int (nI nm), .int (nI nw)])), (Pa, .inl (g.2.1.1, 6, .inl (upd (zf wc) (np - 1) (nI ((wc (np - 1)) + 1)))))] _ := hP
  have hD : va_D A [(Pb, .inl (g.2.1.1, 96, .inl (zf (zu (zu (zu (zu wp ((((np - 1) * 4) + (wc (np - 1))) * 4) ki) (((((np - 1) * 4) + (wc (np - 1))) * 4) + 1) fr) (((((np - 1) * 4) + (wc (np - 1))) * 4) + 2) sp) (((((np - 1) * 4) + (wc (np - 1))) * 4) + 3) pa)))), (P, .inr (1, [.ref Pa, .ref Pb, .ref Pc, .ref Pd, .int (nI hs), .int (nI np), .int (nI nm), .int (nI nw)])), (Pa, .inl (g.2.1.1, 6, .inl (upd (zf wc) (np - 1) (nI ((wc (np - 1)) + 1)))))] := hD
  rw [zf_upd] at hP hD
  have hP := hP.sub (ws' := [(P, .inr (1, [.ref Pa, .ref Pb, .ref Pc, .ref Pd, .int (nI hs), .int (nI np), .int (nI nm), .int (nI nw)])), (Pa, .inl (g.2.1.1, 6, .inl (zf (zu wc (np - 1) ((wc (np - 1)) + 1))))), (Pb, .inl (g.2.1.1, 96, .inl (zf (zu (zu (zu (zu wp ((((np - 1) * 4) + (wc (np - 1))) * 4) ki) (((((np - 1) * 4) + (wc (np - 1))) * 4) + 1) fr) (((((np - 1) * 4) + (wc (np - 1))) * 4) + 2) sp) (((((np - 1) * 4) + (wc (np - 1))) * 4) + 3) pa))))]) [1, 2, 0] rfl
  have hD := hD.sub (ws' := [(P, .inr (1, [.ref Pa, .ref Pb, .ref Pc, .ref Pd, .int (nI hs), .int (nI np), .int (nI nm), .int (nI nw)])), (Pa, .inl (g.2.1.1, 6, .inl (zf (zu wc (np - 1) ((wc (np - 1)) + 1))))), (Pb, .inl (g.2.1.1, 96, .inl (zf (zu (zu (zu (zu wp ((((np - 1) * 4) + (wc (np - 1))) * 4) ki) (((((np - 1) * 4) + (wc (np - 1))) * 4) + 1) fr) (((((np - 1) * 4) + (wc (np - 1))) * 4) + 2) sp) (((((np - 1) * 4) + (wc (np - 1))) * 4) + 3) pa))))]) [1, 2, 0] (by decide) rfl
  have eq_8 : (zu wc (np - 1) ((wc (np - 1)) + 1)) = (zu wc (np - 1) (wc (np - 1) + 1)) := by first | rfl | (congr 1; omega) | (congr 1; simp; done)
  have hP : va_P g.1 vwCl [(P, .inr (1, [.ref Pa, .ref Pb, .ref Pc, .ref Pd, .int (nI hs), .int (nI np), .int (nI nm), .int (nI nw)])), (Pa, .inl (g.2.1.1, 6, .inl (zf (zu wc (np - 1) (wc (np - 1) + 1))))), (Pb, .inl (g.2.1.1, 96, .inl (zf (zu (zu (zu (zu wp ((((np - 1) * 4) + (wc (np - 1))) * 4) ki) (((((np - 1) * 4) + (wc (np - 1))) * 4) + 1) fr) (((((np - 1) * 4) + (wc (np - 1))) * 4) + 2) sp) (((((np - 1) * 4) + (wc (np - 1))) * 4) + 3) pa))))] _ := Eq.mp (congrArg (fun z => va_P g.1 vwCl [(P, .inr (1, [.ref Pa, .ref Pb, .ref Pc, .ref Pd, .int (nI hs), .int (nI np), .int (nI nm), .int (nI nw)])), (Pa, .inl (g.2.1.1, 6, .inl (zf z))), (Pb, .inl (g.2.1.1, 96, .inl (zf (zu (zu (zu (zu wp ((((np - 1) * 4) + (wc (np - 1))) * 4) ki) (((((np - 1) * 4) + (wc (np - 1))) * 4) + 1) fr) (((((np - 1) * 4) + (wc (np - 1))) * 4) + 2) sp) (((((np - 1) * 4) + (wc (np - 1))) * 4) + 3) pa))))] _) eq_8) hP
  have hD : va_D A [(P, .inr (1, [.ref Pa, .ref Pb, .ref Pc, .ref Pd, .int (nI hs), .int (nI np), .int (nI nm), .int (nI nw)])), (Pa, .inl (g.2.1.1, 6, .inl (zf (zu wc (np - 1) (wc (np - 1) + 1))))), (Pb, .inl (g.2.1.1, 96, .inl (zf (zu (zu (zu (zu wp ((((np - 1) * 4) + (wc (np - 1))) * 4) ki) (((((np - 1) * 4) + (wc (np - 1))) * 4) + 1) fr) (((((np - 1) * 4) + (wc (np - 1))) * 4) + 2) sp) (((((np - 1) * 4) + (wc (np - 1))) * 4) + 3) pa))))] := Eq.mp (congrArg (fun z => va_D A [(P, .inr (1, [.ref Pa, .ref Pb, .ref Pc, .ref Pd, .int (nI hs), .int (nI np), .int (nI nm), .int (nI nw)])), (Pa, .inl (g.2.1.1, 6, .inl (zf z))), (Pb, .inl (g.2.1.1, 96, .inl (zf (zu (zu (zu (zu wp ((((np - 1) * 4) + (wc (np - 1))) * 4) ki) (((((np - 1) * 4) + (wc (np - 1))) * 4) + 1) fr) (((((np - 1) * 4) + (wc (np - 1))) * 4) + 2) sp) (((((np - 1) * 4) + (wc (np - 1))) * 4) + 3) pa))))]) eq_8) hD
  have eq_9 : (zu (zu (zu (zu wp ((((np - 1) * 4) + (wc (np - 1))) * 4) ki) (((((np - 1) * 4) + (wc (np - 1))) * 4) + 1) fr) (((((np - 1) * 4) + (wc (np - 1))) * 4) + 2) sp) (((((np - 1) * 4) + (wc (np - 1))) * 4) + 3) pa) = (zu (zu (zu (zu wp (16 * (np - 1) + 4 * wc (np - 1)) ki) (16 * (np - 1) + 4 * wc (np - 1) + 1) fr) (16 * (np - 1) + 4 * wc (np - 1) + 2) sp) (16 * (np - 1) + 4 * wc (np - 1) + 3) pa) := by first | rfl | (congr 1 <;> first | rfl | omega | (congr 1 <;> first | rfl | omega | (congr 1 <;> first | rfl | omega | (congr 1 <;> first | rfl | omega))))
  have hP : va_P g.1 vwCl [(P, .inr (1, [.ref Pa, .ref Pb, .ref Pc, .ref Pd, .int (nI hs), .int (nI np), .int (nI nm), .int (nI nw)])), (Pa, .inl (g.2.1.1, 6, .inl (zf (zu wc (np - 1) (wc (np - 1) + 1))))), (Pb, .inl (g.2.1.1, 96, .inl (zf (zu (zu (zu (zu wp (16 * (np - 1) + 4 * wc (np - 1)) ki) (16 * (np - 1) + 4 * wc (np - 1) + 1) fr) (16 * (np - 1) + 4 * wc (np - 1) + 2) sp) (16 * (np - 1) + 4 * wc (np - 1) + 3) pa))))] _ := Eq.mp (congrArg (fun z => va_P g.1 vwCl [(P, .inr (1, [.ref Pa, .ref Pb, .ref Pc, .ref Pd, .int (nI hs), .int (nI np), .int (nI nm), .int (nI nw)])), (Pa, .inl (g.2.1.1, 6, .inl (zf (zu wc (np - 1) (wc (np - 1) + 1))))), (Pb, .inl (g.2.1.1, 96, .inl (zf z)))] _) eq_9) hP
  have hD : va_D A [(P, .inr (1, [.ref Pa, .ref Pb, .ref Pc, .ref Pd, .int (nI hs), .int (nI np), .int (nI nm), .int (nI nw)])), (Pa, .inl (g.2.1.1, 6, .inl (zf (zu wc (np - 1) (wc (np - 1) + 1))))), (Pb, .inl (g.2.1.1, 96, .inl (zf (zu (zu (zu (zu wp (16 * (np - 1) + 4 * wc (np - 1)) ki) (16 * (np - 1) + 4 * wc (np - 1) + 1) fr) (16 * (np - 1) + 4 * wc (np - 1) + 2) sp) (16 * (np - 1) + 4 * wc (np - 1) + 3) pa))))] := Eq.mp (congrArg (fun z => va_D A [(P, .inr (1, [.ref Pa, .ref Pb, .ref Pc, .ref Pd, .int (nI hs), .int (nI np), .int (nI nm), .int (nI nw)])), (Pa, .inl (g.2.1.1, 6, .inl (zf (zu wc (np - 1) (wc (np - 1) + 1))))), (Pb, .inl (g.2.1.1, 96, .inl (zf z)))]) eq_9) hD
  exact hret 99 _ _ _ () dX1_addWay_99 hP hD hS (show True from by trivial)

set_option maxHeartbeats 4000000 in
set_option maxRecDepth 100000 in
theorem c_X1_canAddMarch (l : Launch) (g : zG) (P : Nat) (Pa Pb Pc Pd : Nat) (hs np nm nw : Nat) (hnm : nm < 2147483648) : zI l yX1_canAddMarch wsX1_canAddMarch 0 0 g [.ref P] [(P, .inr (1, [.ref Pa, .ref Pb, .ref Pc, .ref Pd, .int (nI hs), .int (nI np), .int (nI nm), .int (nI nw)]))] (fun (r : Int32) (u : Unit) => r = if nm < 4 then 1 else 0) (fun (u : Unit) => [(P, .inr (1, [.ref Pa, .ref Pb, .ref Pc, .ref Pd, .int (nI hs), .int (nI np), .int (nI nm), .int (nI nw)]))]) := by
  refine zz_bodyI (cc := cX1_canAddMarch) (nL := 1) (own := RX1) (ty := .boolean) (by decide) rfl rfl (Nat.le_of_ble_eq_true rfl) ?_
  intro pP eE s mM below meth cC A Q ls F hA hK hE hP hD hl hret
  have hS : va_S A s.heap s.heap [] := va_S.rf
  obtain ⟨hx, hb, hml, hown, hts⟩ := id F
  have hiX1 : ∀ w ∈ u_ws RX1 TX1 8, w ∈ wsX1_canAddMarch := by decide +kernel
  have hf0 := hts (.fieldLink RX1 31 "StepClock$Plan" "marches" "I") (by decide +kernel)
  have hl : lv_has ls 1 [(0, .ref P)] := hl
  refine lv_aload_n hx hb dX1_canAddMarch_0 rfl (lv_at hl 0 rfl) ?_
  refine va_get (D := g.1) (ci := 1) (v := .int (nI nm)) (C := RX1) (T := TX1) (N := 8) hx hb hts hiX1 hown hK.1 hP 0 rfl rfl 6 (by decide) hf0 (fun _ h9 => h9) rfl dX1_canAddMarch_1 ?_
  refine lv_iconst (v := 4) hx hb dX1_canAddMarch_4 (by decide) ?_
  refine zz_icmp_ge (tgt := 12) hx hb dX1_canAddMarch_5 (by decide) (zi_n nm) (zi_c 4 rfl) (by omega) (by omega) (fun c_1 => ?_) (fun c_1 => ?_)
  · refine lv_iconst (v := 0) hx hb dX1_canAddMarch_12 (by decide) ?_
    exact hret 13 _ _ _ 0 () dX1_canAddMarch_13 rfl hP hD hS (show 0 = if nm < 4 then 1 else 0 from by first | (exfalso; omega) | (rw [if_pos (by omega)]) | (rw [if_neg (by omega)]))
  · refine lv_iconst (v := 1) hx hb dX1_canAddMarch_8 (by decide) ?_
    refine lv_goto (tgt := 13) hx hb dX1_canAddMarch_9 (by decide) ?_
    exact hret 13 _ _ _ 1 () dX1_canAddMarch_13 rfl hP hD hS (show 1 = if nm < 4 then 1 else 0 from by first | (exfalso; omega) | (rw [if_pos (by omega)]) | (rw [if_neg (by omega)]))

set_option maxHeartbeats 4000000 in
set_option maxRecDepth 100000 in
theorem c_X1_addMarch (l : Launch) (g : zG) (P Pa Pb Pc Pd : Nat) (hs np nm nw : Nat) (mp : Nat → Nat) (fr mn pa : Nat) (hnm : nm < 4) : zV l yX1_addMarch wsX1_addMarch 0 0 0 0 g [.ref P, .int (nI fr), .int (nI mn), .int (nI pa)] [(P, .inr (1, [.ref Pa, .ref Pb, .ref Pc, .ref Pd, .int (nI hs), .int (nI np), .int (nI nm), .int (nI nw)])), (Pc, .inl (g.2.1.1, 12, .inl (zf mp)))] (fun (u : Unit) => True) (fun (u : Unit) => [(P, .inr (1, [.ref Pa, .ref Pb, .ref Pc, .ref Pd, .int (nI hs), .int (nI np), .int (nI (nm + 1)), .int (nI nw)])), (Pc, .inl (g.2.1.1, 12, .inl (zf (zu (zu (zu mp (3 * nm) fr) (3 * nm + 1) mn) (3 * nm + 2) pa))))]) := by
  refine zz_bodyV (cc := cX1_addMarch) (nL := 5) (own := RX1) (by decide) rfl rfl (Nat.le_of_ble_eq_true rfl) ?_
  intro pP eE s mM below meth cC A Q ls F hin hA hK hE hP hD hl hret
  have hS : va_S A s.heap s.heap [] := va_S.rf
  obtain ⟨hx, hb, hml, hown, hts⟩ := id F
  have hiX1 : ∀ w ∈ u_ws RX1 TX1 8, w ∈ wsX1_addMarch := by decide +kernel
  have hf0 := hts (.fieldLink RX1 31 "StepClock$Plan" "marches" "I") (by decide +kernel)
  have hf1 := hts (.fieldLink RX1 18 "StepClock$Plan" "marchParts" "[I") (by decide +kernel)
  have hl : lv_has ls 5 [(0, .ref P), (1, .int (nI fr)), (2, .int (nI mn)), (3, .int (nI pa))] := hl
  refine lv_aload_n hx hb dX1_addMarch_0 rfl (lv_at hl 0 rfl) ?_
  refine va_get (D := g.1) (ci := 1) (v := .int (nI nm)) (C := RX1) (T := TX1) (N := 8) hx hb hts hiX1 hown hK.1 hP 0 rfl rfl 6 (by decide) hf0 (fun _ h9 => h9) rfl dX1_addMarch_1 ?_
  refine lv_iconst (v := 3) hx hb dX1_addMarch_4 (by decide) ?_
  refine lv_imul hx hb dX1_addMarch_5 ?_
  refine zz_topi (y := nI (nm * 3)) (zi_eq (zi_mul (zi_n nm) (zi_c 3 rfl)) (zi_n (nm * 3)) (by omega)) ?_
  refine lv_istore (lv' := [(4, .int (nI (nm * 3))), (0, .ref P), (1, .int (nI fr)), (2, .int (nI mn)), (3, .int (nI pa))]) hx hb dX1_addMarch_6 hl (by decide) rfl (fun ls hl => ?_)
  refine lv_iload hx hb dX1_addMarch_8 (lv_at hl 0 rfl) ?_
  refine zz_if_lt (tgt := 63) hx hb dX1_addMarch_10 (by decide) (zi_n (nm * 3)) (by omega) (fun c_1 => (by exfalso; omega)) (fun c_1 => ?_)
  refine lv_iload hx hb dX1_addMarch_13 (lv_at hl 0 rfl) ?_
  refine lv_iconst (v := 2) hx hb dX1_addMarch_15 (by decide) ?_
  refine lv_iadd hx hb dX1_addMarch_16 ?_
  refine lv_aload_n hx hb dX1_addMarch_17 rfl (lv_at hl 1 rfl) ?_
  refine va_get (D := g.1) (ci := 1) (v := .ref Pc) (C := RX1) (T := TX1) (N := 8) hx hb hts hiX1 hown hK.1 hP 0 rfl rfl 2 (by decide) hf1 (fun _ h9 => h9) rfl dX1_addMarch_18 ?_
  refine va_alen hx hb hK.1 hP 1 0 (v := 12) rfl rfl rfl dX1_addMarch_21 ?_
  refine zz_icmp_ge (tgt := 63) hx hb dX1_addMarch_22 (by decide) (zi_add (zi_n (nm * 3)) (zi_c 2 rfl)) (zi_c 12 rfl) (by omega) (by omega) (fun c_2 => (by exfalso; omega)) (fun c_2 => ?_)
  refine lv_aload_n hx hb dX1_addMarch_25 rfl (lv_at hl 1 rfl) ?_
  refine va_get (D := g.1) (ci := 1) (v := .ref Pc) (C := RX1) (T := TX1) (N := 8) hx hb hts hiX1 hown hK.1 hP 0 rfl rfl 2 (by decide) hf1 (fun _ h9 => h9) rfl dX1_addMarch_26 ?_
  refine lv_iload hx hb dX1_addMarch_29 (lv_at hl 0 rfl) ?_
  refine lv_iload_n hx hb dX1_addMarch_31 rfl (lv_at hl 2 rfl) ?_
  refine zz_iast hx hb hK.1 hP hD hS 1 0 rfl rfl (nm * 3) rfl (by omega) (by decide) dX1_addMarch_32 (fun H locs hP hD hS => ?_)
  have hP : va_P g.1 vwCl [(P, .inr (1, [.ref Pa, .ref Pb, .ref Pc, .ref Pd, .int (nI hs), .int (nI np), .int (nI nm), .int (nI nw)])), (Pc, .inl (g.2.1.1, 12, .inl (upd (zf mp) (nm * 3) (nI fr))))] _ := hP
  have hD : va_D A [(P, .inr (1, [.ref Pa, .ref Pb, .ref Pc, .ref Pd, .int (nI hs), .int (nI np), .int (nI nm), .int (nI nw)])), (Pc, .inl (g.2.1.1, 12, .inl (upd (zf mp) (nm * 3) (nI fr))))] := hD
  rw [zf_upd] at hP hD
  refine lv_aload_n hx hb dX1_addMarch_33 rfl (lv_at hl 1 rfl) ?_
  refine va_get (D := g.1) (ci := 1) (v := .ref Pc) (C := RX1) (T := TX1) (N := 8) hx hb hts hiX1 hown hK.1 hP 0 rfl rfl 2 (by decide) hf1 (fun _ h9 => h9) rfl dX1_addMarch_34 ?_
  refine lv_iload hx hb dX1_addMarch_37 (lv_at hl 0 rfl) ?_
  refine lv_iconst (v := 1) hx hb dX1_addMarch_39 (by decide) ?_
  refine lv_iadd hx hb dX1_addMarch_40 ?_
  refine lv_iload_n hx hb dX1_addMarch_41 rfl (lv_at hl 3 rfl) ?_
  refine zz_iast hx hb hK.1 hP hD hS 1 0 rfl rfl ((nm * 3) + 1) (zi_eq (zi_add (zi_n (nm * 3)) (zi_c 1 rfl)) (zi_n ((nm * 3) + 1)) (by omega)) (by omega) (by decide) dX1_addMarch_42 (fun H locs hP hD hS => ?_)
  have hP : va_P g.1 vwCl [(P, .inr (1, [.ref Pa, .ref Pb, .ref Pc, .ref Pd, .int (nI hs), .int (nI np), .int (nI nm), .int (nI nw)])), (Pc, .inl (g.2.1.1, 12, .inl (upd (zf (zu mp (nm * 3) fr)) ((nm * 3) + 1) (nI mn))))] _ := hP
  have hD : va_D A [(P, .inr (1, [.ref Pa, .ref Pb, .ref Pc, .ref Pd, .int (nI hs), .int (nI np), .int (nI nm), .int (nI nw)])), (Pc, .inl (g.2.1.1, 12, .inl (upd (zf (zu mp (nm * 3) fr)) ((nm * 3) + 1) (nI mn))))] := hD
  rw [zf_upd] at hP hD
  refine lv_aload_n hx hb dX1_addMarch_43 rfl (lv_at hl 1 rfl) ?_
  refine va_get (D := g.1) (ci := 1) (v := .ref Pc) (C := RX1) (T := TX1) (N := 8) hx hb hts hiX1 hown hK.1 hP 0 rfl rfl 2 (by decide) hf1 (fun _ h9 => h9) rfl dX1_addMarch_44 ?_
  refine lv_iload hx hb dX1_addMarch_47 (lv_at hl 0 rfl) ?_
  refine lv_iconst (v := 2) hx hb dX1_addMarch_49 (by decide) ?_
  refine lv_iadd hx hb dX1_addMarch_50 ?_
  refine lv_iload_n hx hb dX1_addMarch_51 rfl (lv_at hl 4 rfl) ?_
  refine zz_iast hx hb hK.1 hP hD hS 1 0 rfl rfl ((nm * 3) + 2) (zi_eq (zi_add (zi_n (nm * 3)) (zi_c 2 rfl)) (zi_n ((nm * 3) + 2)) (by omega)) (by omega) (by decide) dX1_addMarch_52 (fun H locs hP hD hS => ?_)
  have hP : va_P g.1 vwCl [(P, .inr (1, [.ref Pa, .ref Pb, .ref Pc, .ref Pd, .int (nI hs), .int (nI np), .int (nI nm), .int (nI nw)])), (Pc, .inl (g.2.1.1, 12, .inl (upd (zf (zu (zu mp (nm * 3) fr) ((nm * 3) + 1) mn)) ((nm * 3) + 2) (nI pa))))] _ := hP
  have hD : va_D A [(P, .inr (1, [.ref Pa, .ref Pb, .ref Pc, .ref Pd, .int (nI hs), .int (nI np), .int (nI nm), .int (nI nw)])), (Pc, .inl (g.2.1.1, 12, .inl (upd (zf (zu (zu mp (nm * 3) fr) ((nm * 3) + 1) mn)) ((nm * 3) + 2) (nI pa))))] := hD
  rw [zf_upd] at hP hD
  refine lv_aload_n hx hb dX1_addMarch_53 rfl (lv_at hl 1 rfl) ?_
  refine lv_dup hx hb dX1_addMarch_54 rfl ?_
  refine va_get (D := g.1) (ci := 1) (v := .int (nI nm)) (C := RX1) (T := TX1) (N := 8) hx hb hts hiX1 hown hK.1 hP 0 rfl rfl 6 (by decide) hf0 (fun _ h9 => h9) rfl dX1_addMarch_55 ?_
  refine lv_iconst (v := 1) hx hb dX1_addMarch_58 (by decide) ?_
  refine lv_iadd hx hb dX1_addMarch_59 ?_
  refine zz_topi (y := nI (nm + 1)) (zi_eq (zi_add (zi_n nm) (zi_c 1 rfl)) (zi_n (nm + 1)) (by omega)) ?_
  refine va_put (D := g.1) (ci := 1) (v := .int (nI (nm + 1))) (ty := .int) (C := RX1) (T := TX1) (N := 8) hx hb hts hiX1 tyX1 tyX1_ok nmX1 hown hK.1 hP hD hS 0 rfl rfl 6 (by decide) hf0 (fun _ h9 => h9) rfl (by decide +kernel) rfl rfl (Nat.le_of_ble_eq_true rfl) dX1_addMarch_60 (fun H locs hP hD hS => ?_)
  have hP : va_P g.1 vwCl [(P, .inr (1, [.ref Pa, .ref Pb, .ref Pc, .ref Pd, .int (nI hs), .int (nI np), .int (nI (nm + 1)), .int (nI nw)])), (Pc, .inl (g.2.1.1, 12, .inl (zf (zu (zu (zu mp (nm * 3) fr) ((nm * 3) + 1) mn) ((nm * 3) + 2) pa))))] _ := hP
  have hD : va_D A [(P, .inr (1, [.ref Pa, .ref Pb, .ref Pc, .ref Pd, .int (nI hs), .int (nI np), .int (nI (nm + 1)), .int (nI nw)])), (Pc, .inl (g.2.1.1, 12, .inl (zf (zu (zu (zu mp (nm * 3) fr) ((nm * 3) + 1) mn) ((nm * 3) + 2) pa))))] := hD
  have eq_3 : (zu (zu (zu mp (nm * 3) fr) ((nm * 3) + 1) mn) ((nm * 3) + 2) pa) = (zu (zu (zu mp (3 * nm) fr) (3 * nm + 1) mn) (3 * nm + 2) pa) := by first | rfl | (congr 1 <;> first | rfl | omega | (congr 1 <;> first | rfl | omega | (congr 1 <;> first | rfl | omega)))
  have hP : va_P g.1 vwCl [(P, .inr (1, [.ref Pa, .ref Pb, .ref Pc, .ref Pd, .int (nI hs), .int (nI np), .int (nI (nm + 1)), .int (nI nw)])), (Pc, .inl (g.2.1.1, 12, .inl (zf (zu (zu (zu mp (3 * nm) fr) (3 * nm + 1) mn) (3 * nm + 2) pa))))] _ := Eq.mp (congrArg (fun z => va_P g.1 vwCl [(P, .inr (1, [.ref Pa, .ref Pb, .ref Pc, .ref Pd, .int (nI hs), .int (nI np), .int (nI (nm + 1)), .int (nI nw)])), (Pc, .inl (g.2.1.1, 12, .inl (zf z)))] _) eq_3) hP
  have hD : va_D A [(P, .inr (1, [.ref Pa, .ref Pb, .ref Pc, .ref Pd, .int (nI hs), .int (nI np), .int (nI (nm + 1)), .int (nI nw)])), (Pc, .inl (g.2.1.1, 12, .inl (zf (zu (zu (zu mp (3 * nm) fr) (3 * nm + 1) mn) (3 * nm + 2) pa))))] := Eq.mp (congrArg (fun z => va_D A [(P, .inr (1, [.ref Pa, .ref Pb, .ref Pc, .ref Pd, .int (nI hs), .int (nI np), .int (nI (nm + 1)), .int (nI nw)])), (Pc, .inl (g.2.1.1, 12, .inl (zf z)))]) eq_3) hD
  exact hret 63 _ _ _ () dX1_addMarch_63 hP hD hS (show True from by trivial)

set_option maxHeartbeats 4000000 in
set_option maxRecDepth 100000 in
theorem c_X1_canAddWork (l : Launch) (g : zG) (P : Nat) (Pa Pb Pc Pd : Nat) (hs np nm nw : Nat) (hnw : nw < 2147483648) : zI l yX1_canAddWork wsX1_canAddWork 0 0 g [.ref P] [(P, .inr (1, [.ref Pa, .ref Pb, .ref Pc, .ref Pd, .int (nI hs), .int (nI np), .int (nI nm), .int (nI nw)]))] (fun (r : Int32) (u : Unit) => r = if nw < 6 then 1 else 0) (fun (u : Unit) => [(P, .inr (1, [.ref Pa, .ref Pb, .ref Pc, .ref Pd, .int (nI hs), .int (nI np), .int (nI nm), .int (nI nw)]))]) := by
  refine zz_bodyI (cc := cX1_canAddWork) (nL := 1) (own := RX1) (ty := .boolean) (by decide) rfl rfl (Nat.le_of_ble_eq_true rfl) ?_
  intro pP eE s mM below meth cC A Q ls F hA hK hE hP hD hl hret
  have hS : va_S A s.heap s.heap [] := va_S.rf
  obtain ⟨hx, hb, hml, hown, hts⟩ := id F
  have hiX1 : ∀ w ∈ u_ws RX1 TX1 8, w ∈ wsX1_canAddWork := by decide +kernel
  have hf0 := hts (.fieldLink RX1 34 "StepClock$Plan" "works" "I") (by decide +kernel)
  have hl : lv_has ls 1 [(0, .ref P)] := hl
  refine lv_aload_n hx hb dX1_canAddWork_0 rfl (lv_at hl 0 rfl) ?_
  refine va_get (D := g.1) (ci := 1) (v := .int (nI nw)) (C := RX1) (T := TX1) (N := 8) hx hb hts hiX1 hown hK.1 hP 0 rfl rfl 7 (by decide) hf0 (fun _ h9 => h9) rfl dX1_canAddWork_1 ?_
  refine lv_bipush (v := 6) hx hb dX1_canAddWork_4 (by decide) ?_
  refine zz_icmp_ge (tgt := 13) hx hb dX1_canAddWork_6 (by decide) (zi_n nw) (zi_c 6 rfl) (by omega) (by omega) (fun c_1 => ?_) (fun c_1 => ?_)
  · refine lv_iconst (v := 0) hx hb dX1_canAddWork_13 (by decide) ?_
    exact hret 14 _ _ _ 0 () dX1_canAddWork_14 rfl hP hD hS (show 0 = if nw < 6 then 1 else 0 from by first | (exfalso; omega) | (rw [if_pos (by omega)]) | (rw [if_neg (by omega)]))
  · refine lv_iconst (v := 1) hx hb dX1_canAddWork_9 (by decide) ?_
    refine lv_goto (tgt := 14) hx hb dX1_canAddWork_10 (by decide) ?_
    exact hret 14 _ _ _ 1 () dX1_canAddWork_14 rfl hP hD hS (show 1 = if nw < 6 then 1 else 0 from by first | (exfalso; omega) | (rw [if_pos (by omega)]) | (rw [if_neg (by omega)]))

set_option maxHeartbeats 4000000 in
set_option maxRecDepth 100000 in
theorem c_X1_addWork (l : Launch) (g : zG) (P Pa Pb Pc Pd : Nat) (hs np nm nw : Nat) (kp : Nat → Nat) (ki la wo : Nat) (hnw : nw < 6) : zV l yX1_addWork wsX1_addWork 0 0 0 0 g [.ref P, .int (nI ki), .int (nI la), .int (nI wo)] [(P, .inr (1, [.ref Pa, .ref Pb, .ref Pc, .ref Pd, .int (nI hs), .int (nI np), .int (nI nm), .int (nI nw)])), (Pd, .inl (g.2.1.1, 18, .inl (zf kp)))] (fun (u : Unit) => True) (fun (u : Unit) => [(P, .inr (1, [.ref Pa, .ref Pb, .ref Pc, .ref Pd, .int (nI hs), .int (nI np), .int (nI nm), .int (nI (nw + 1))])), (Pd, .inl (g.2.1.1, 18, .inl (zf (zu (zu (zu kp (3 * nw) ki) (3 * nw + 1) la) (3 * nw + 2) wo))))]) := by
  refine zz_bodyV (cc := cX1_addWork) (nL := 5) (own := RX1) (by decide) rfl rfl (Nat.le_of_ble_eq_true rfl) ?_
  intro pP eE s mM below meth cC A Q ls F hin hA hK hE hP hD hl hret
  have hS : va_S A s.heap s.heap [] := va_S.rf
  obtain ⟨hx, hb, hml, hown, hts⟩ := id F
  have hiX1 : ∀ w ∈ u_ws RX1 TX1 8, w ∈ wsX1_addWork := by decide +kernel
  have hf0 := hts (.fieldLink RX1 34 "StepClock$Plan" "works" "I") (by decide +kernel)
  have hf1 := hts (.fieldLink RX1 21 "StepClock$Plan" "workParts" "[I") (by decide +kernel)
  have hl : lv_has ls 5 [(0, .ref P), (1, .int (nI ki)), (2, .int (nI la)), (3, .int (nI wo))] := hl
  refine lv_aload_n hx hb dX1_addWork_0 rfl (lv_at hl 0 rfl) ?_
  refine va_get (D := g.1) (ci := 1) (v := .int (nI nw)) (C := RX1) (T := TX1) (N := 8) hx hb hts hiX1 hown hK.1 hP 0 rfl rfl 7 (by decide) hf0 (fun _ h9 => h9) rfl dX1_addWork_1 ?_
  refine lv_iconst (v := 3) hx hb dX1_addWork_4 (by decide) ?_
  refine lv_imul hx hb dX1_addWork_5 ?_
  refine zz_topi (y := nI (nw * 3)) (zi_eq (zi_mul (zi_n nw) (zi_c 3 rfl)) (zi_n (nw * 3)) (by omega)) ?_
  refine lv_istore (lv' := [(4, .int (nI (nw * 3))), (0, .ref P), (1, .int (nI ki)), (2, .int (nI la)), (3, .int (nI wo))]) hx hb dX1_addWork_6 hl (by decide) rfl (fun ls hl => ?_)
  refine lv_iload hx hb dX1_addWork_8 (lv_at hl 0 rfl) ?_
  refine zz_if_lt (tgt := 63) hx hb dX1_addWork_10 (by decide) (zi_n (nw * 3)) (by omega) (fun c_1 => (by exfalso; omega)) (fun c_1 => ?_)
  refine lv_iload hx hb dX1_addWork_13 (lv_at hl 0 rfl) ?_
  refine lv_iconst (v := 2) hx hb dX1_addWork_15 (by decide) ?_
  refine lv_iadd hx hb dX1_addWork_16 ?_
  refine lv_aload_n hx hb dX1_addWork_17 rfl (lv_at hl 1 rfl) ?_
  refine va_get (D := g.1) (ci := 1) (v := .ref Pd) (C := RX1) (T := TX1) (N := 8) hx hb hts hiX1 hown hK.1 hP 0 rfl rfl 3 (by decide) hf1 (fun _ h9 => h9) rfl dX1_addWork_18 ?_
  refine va_alen hx hb hK.1 hP 1 0 (v := 18) rfl rfl rfl dX1_addWork_21 ?_
  refine zz_icmp_ge (tgt := 63) hx hb dX1_addWork_22 (by decide) (zi_add (zi_n (nw * 3)) (zi_c 2 rfl)) (zi_c 18 rfl) (by omega) (by omega) (fun c_2 => (by exfalso; omega)) (fun c_2 => ?_)
  refine lv_aload_n hx hb dX1_addWork_25 rfl (lv_at hl 1 rfl) ?_
  refine va_get (D := g.1) (ci := 1) (v := .ref Pd) (C := RX1) (T := TX1) (N := 8) hx hb hts hiX1 hown hK.1 hP 0 rfl rfl 3 (by decide) hf1 (fun _ h9 => h9) rfl dX1_addWork_26 ?_
  refine lv_iload hx hb dX1_addWork_29 (lv_at hl 0 rfl) ?_
  refine lv_iload_n hx hb dX1_addWork_31 rfl (lv_at hl 2 rfl) ?_
  refine zz_iast hx hb hK.1 hP hD hS 1 0 rfl rfl (nw * 3) rfl (by omega) (by decide) dX1_addWork_32 (fun H locs hP hD hS => ?_)
  have hP : va_P g.1 vwCl [(P, .inr (1, [.ref Pa, .ref Pb, .ref Pc, .ref Pd, .int (nI hs), .int (nI np), .int (nI nm), .int (nI nw)])), (Pd, .inl (g.2.1.1, 18, .inl (upd (zf kp) (nw * 3) (nI ki))))] _ := hP
  have hD : va_D A [(P, .inr (1, [.ref Pa, .ref Pb, .ref Pc, .ref Pd, .int (nI hs), .int (nI np), .int (nI nm), .int (nI nw)])), (Pd, .inl (g.2.1.1, 18, .inl (upd (zf kp) (nw * 3) (nI ki))))] := hD
  rw [zf_upd] at hP hD
  refine lv_aload_n hx hb dX1_addWork_33 rfl (lv_at hl 1 rfl) ?_
  refine va_get (D := g.1) (ci := 1) (v := .ref Pd) (C := RX1) (T := TX1) (N := 8) hx hb hts hiX1 hown hK.1 hP 0 rfl rfl 3 (by decide) hf1 (fun _ h9 => h9) rfl dX1_addWork_34 ?_
  refine lv_iload hx hb dX1_addWork_37 (lv_at hl 0 rfl) ?_
  refine lv_iconst (v := 1) hx hb dX1_addWork_39 (by decide) ?_
  refine lv_iadd hx hb dX1_addWork_40 ?_
  refine lv_iload_n hx hb dX1_addWork_41 rfl (lv_at hl 3 rfl) ?_
  refine zz_iast hx hb hK.1 hP hD hS 1 0 rfl rfl ((nw * 3) + 1) (zi_eq (zi_add (zi_n (nw * 3)) (zi_c 1 rfl)) (zi_n ((nw * 3) + 1)) (by omega)) (by omega) (by decide) dX1_addWork_42 (fun H locs hP hD hS => ?_)
  have hP : va_P g.1 vwCl [(P, .inr (1, [.ref Pa, .ref Pb, .ref Pc, .ref Pd, .int (nI hs), .int (nI np), .int (nI nm), .int (nI nw)])), (Pd, .inl (g.2.1.1, 18, .inl (upd (zf (zu kp (nw * 3) ki)) ((nw * 3) + 1) (nI la))))] _ := hP
  have hD : va_D A [(P, .inr (1, [.ref Pa, .ref Pb, .ref Pc, .ref Pd, .int (nI hs), .int (nI np), .int (nI nm), .int (nI nw)])), (Pd, .inl (g.2.1.1, 18, .inl (upd (zf (zu kp (nw * 3) ki)) ((nw * 3) + 1) (nI la))))] := hD
  rw [zf_upd] at hP hD
  refine lv_aload_n hx hb dX1_addWork_43 rfl (lv_at hl 1 rfl) ?_
  refine va_get (D := g.1) (ci := 1) (v := .ref Pd) (C := RX1) (T := TX1) (N := 8) hx hb hts hiX1 hown hK.1 hP 0 rfl rfl 3 (by decide) hf1 (fun _ h9 => h9) rfl dX1_addWork_44 ?_
  refine lv_iload hx hb dX1_addWork_47 (lv_at hl 0 rfl) ?_
  refine lv_iconst (v := 2) hx hb dX1_addWork_49 (by decide) ?_
  refine lv_iadd hx hb dX1_addWork_50 ?_
  refine lv_iload_n hx hb dX1_addWork_51 rfl (lv_at hl 4 rfl) ?_
  refine zz_iast hx hb hK.1 hP hD hS 1 0 rfl rfl ((nw * 3) + 2) (zi_eq (zi_add (zi_n (nw * 3)) (zi_c 2 rfl)) (zi_n ((nw * 3) + 2)) (by omega)) (by omega) (by decide) dX1_addWork_52 (fun H locs hP hD hS => ?_)
  have hP : va_P g.1 vwCl [(P, .inr (1, [.ref Pa, .ref Pb, .ref Pc, .ref Pd, .int (nI hs), .int (nI np), .int (nI nm), .int (nI nw)])), (Pd, .inl (g.2.1.1, 18, .inl (upd (zf (zu (zu kp (nw * 3) ki) ((nw * 3) + 1) la)) ((nw * 3) + 2) (nI wo))))] _ := hP
  have hD : va_D A [(P, .inr (1, [.ref Pa, .ref Pb, .ref Pc, .ref Pd, .int (nI hs), .int (nI np), .int (nI nm), .int (nI nw)])), (Pd, .inl (g.2.1.1, 18, .inl (upd (zf (zu (zu kp (nw * 3) ki) ((nw * 3) + 1) la)) ((nw * 3) + 2) (nI wo))))] := hD
  rw [zf_upd] at hP hD
  refine lv_aload_n hx hb dX1_addWork_53 rfl (lv_at hl 1 rfl) ?_
  refine lv_dup hx hb dX1_addWork_54 rfl ?_
  refine va_get (D := g.1) (ci := 1) (v := .int (nI nw)) (C := RX1) (T := TX1) (N := 8) hx hb hts hiX1 hown hK.1 hP 0 rfl rfl 7 (by decide) hf0 (fun _ h9 => h9) rfl dX1_addWork_55 ?_
  refine lv_iconst (v := 1) hx hb dX1_addWork_58 (by decide) ?_
  refine lv_iadd hx hb dX1_addWork_59 ?_
  refine zz_topi (y := nI (nw + 1)) (zi_eq (zi_add (zi_n nw) (zi_c 1 rfl)) (zi_n (nw + 1)) (by omega)) ?_
  refine va_put (D := g.1) (ci := 1) (v := .int (nI (nw + 1))) (ty := .int) (C := RX1) (T := TX1) (N := 8) hx hb hts hiX1 tyX1 tyX1_ok nmX1 hown hK.1 hP hD hS 0 rfl rfl 7 (by decide) hf0 (fun _ h9 => h9) rfl (by decide +kernel) rfl rfl (Nat.le_of_ble_eq_true rfl) dX1_addWork_60 (fun H locs hP hD hS => ?_)
  have hP : va_P g.1 vwCl [(P, .inr (1, [.ref Pa, .ref Pb, .ref Pc, .ref Pd, .int (nI hs), .int (nI np), .int (nI nm), .int (nI (nw + 1))])), (Pd, .inl (g.2.1.1, 18, .inl (zf (zu (zu (zu kp (nw * 3) ki) ((nw * 3) + 1) la) ((nw * 3) + 2) wo))))] _ := hP
  have hD : va_D A [(P, .inr (1, [.ref Pa, .ref Pb, .ref Pc, .ref Pd, .int (nI hs), .int (nI np), .int (nI nm), .int (nI (nw + 1))])), (Pd, .inl (g.2.1.1, 18, .inl (zf (zu (zu (zu kp (nw * 3) ki) ((nw * 3) + 1) la) ((nw * 3) + 2) wo))))] := hD
  have eq_3 : (zu (zu (zu kp (nw * 3) ki) ((nw * 3) + 1) la) ((nw * 3) + 2) wo) = (zu (zu (zu kp (3 * nw) ki) (3 * nw + 1) la) (3 * nw + 2) wo) := by first | rfl | (congr 1 <;> first | rfl | omega | (congr 1 <;> first | rfl | omega | (congr 1 <;> first | rfl | omega)))
  have hP : va_P g.1 vwCl [(P, .inr (1, [.ref Pa, .ref Pb, .ref Pc, .ref Pd, .int (nI hs), .int (nI np), .int (nI nm), .int (nI (nw + 1))])), (Pd, .inl (g.2.1.1, 18, .inl (zf (zu (zu (zu kp (3 * nw) ki) (3 * nw + 1) la) (3 * nw + 2) wo))))] _ := Eq.mp (congrArg (fun z => va_P g.1 vwCl [(P, .inr (1, [.ref Pa, .ref Pb, .ref Pc, .ref Pd, .int (nI hs), .int (nI np), .int (nI nm), .int (nI (nw + 1))])), (Pd, .inl (g.2.1.1, 18, .inl (zf z)))] _) eq_3) hP
  have hD : va_D A [(P, .inr (1, [.ref Pa, .ref Pb, .ref Pc, .ref Pd, .int (nI hs), .int (nI np), .int (nI nm), .int (nI (nw + 1))])), (Pd, .inl (g.2.1.1, 18, .inl (zf (zu (zu (zu kp (3 * nw) ki) (3 * nw + 1) la) (3 * nw + 2) wo))))] := Eq.mp (congrArg (fun z => va_D A [(P, .inr (1, [.ref Pa, .ref Pb, .ref Pc, .ref Pd, .int (nI hs), .int (nI np), .int (nI nm), .int (nI (nw + 1))])), (Pd, .inl (g.2.1.1, 18, .inl (zf z)))]) eq_3) hD
  exact hret 63 _ _ _ () dX1_addWork_63 hP hD hS (show True from by trivial)

set_option maxHeartbeats 4000000 in
set_option maxRecDepth 100000 in
theorem c_X1_empty (l : Launch) (g : zG) (P : Nat) (Pa Pb Pc Pd : Nat) (hs np nm nw : Nat) : zV l yX1_empty wsX1_empty 0 0 0 0 g [.ref P] [(P, .inr (1, [.ref Pa, .ref Pb, .ref Pc, .ref Pd, .int (nI hs), .int (nI np), .int (nI nm), .int (nI nw)]))] (fun (u : Unit) => True) (fun (u : Unit) => [(P, .inr (1, [.ref Pa, .ref Pb, .ref Pc, .ref Pd, .int (nI 90), .int (nI 0), .int (nI 0), .int (nI 0)]))]) := by
  refine zz_bodyV (cc := cX1_empty) (nL := 1) (own := RX1) (by decide) rfl rfl (Nat.le_of_ble_eq_true rfl) ?_
  intro pP eE s mM below meth cC A Q ls F hin hA hK hE hP hD hl hret
  have hS : va_S A s.heap s.heap [] := va_S.rf
  obtain ⟨hx, hb, hml, hown, hts⟩ := id F
  have hiX1 : ∀ w ∈ u_ws RX1 TX1 8, w ∈ wsX1_empty := by decide +kernel
  have hf0 := hts (.fieldLink RX1 24 "StepClock$Plan" "hourSteps" "I") (by decide +kernel)
  have hf1 := hts (.fieldLink RX1 28 "StepClock$Plan" "people" "I") (by decide +kernel)
  have hf2 := hts (.fieldLink RX1 31 "StepClock$Plan" "marches" "I") (by decide +kernel)
  have hf3 := hts (.fieldLink RX1 34 "StepClock$Plan" "works" "I") (by decide +kernel)
  have hl : lv_has ls 1 [(0, .ref P)] := hl
  refine lv_aload_n hx hb dX1_empty_0 rfl (lv_at hl 0 rfl) ?_
  refine lv_bipush (v := 90) hx hb dX1_empty_1 (by decide) ?_
  refine va_put (D := g.1) (ci := 1) (v := .int 90) (ty := .int) (C := RX1) (T := TX1) (N := 8) hx hb hts hiX1 tyX1 tyX1_ok nmX1 hown hK.1 hP hD hS 0 rfl rfl 4 (by decide) hf0 (fun _ h9 => h9) rfl (by decide +kernel) rfl rfl (Nat.le_of_ble_eq_true rfl) dX1_empty_3 (fun H locs hP hD hS => ?_)
  have hP : va_P g.1 vwCl [(P, .inr (1, [.ref Pa, .ref Pb, .ref Pc, .ref Pd, .int 90, .int (nI np), .int (nI nm), .int (nI nw)]))] _ := hP
  have hD : va_D A [(P, .inr (1, [.ref Pa, .ref Pb, .ref Pc, .ref Pd, .int 90, .int (nI np), .int (nI nm), .int (nI nw)]))] := hD
  refine lv_aload_n hx hb dX1_empty_6 rfl (lv_at hl 0 rfl) ?_
  refine lv_iconst (v := 0) hx hb dX1_empty_7 (by decide) ?_
  refine va_put (D := g.1) (ci := 1) (v := .int 0) (ty := .int) (C := RX1) (T := TX1) (N := 8) hx hb hts hiX1 tyX1 tyX1_ok nmX1 hown hK.1 hP hD hS 0 rfl rfl 5 (by decide) hf1 (fun _ h9 => h9) rfl (by decide +kernel) rfl rfl (Nat.le_of_ble_eq_true rfl) dX1_empty_8 (fun H locs hP hD hS => ?_)
  have hP : va_P g.1 vwCl [(P, .inr (1, [.ref Pa, .ref Pb, .ref Pc, .ref Pd, .int 90, .int 0, .int (nI nm), .int (nI nw)]))] _ := hP
  have hD : va_D A [(P, .inr (1, [.ref Pa, .ref Pb, .ref Pc, .ref Pd, .int 90, .int 0, .int (nI nm), .int (nI nw)]))] := hD
  refine lv_aload_n hx hb dX1_empty_11 rfl (lv_at hl 0 rfl) ?_
  refine lv_iconst (v := 0) hx hb dX1_empty_12 (by decide) ?_
  refine va_put (D := g.1) (ci := 1) (v := .int 0) (ty := .int) (C := RX1) (T := TX1) (N := 8) hx hb hts hiX1 tyX1 tyX1_ok nmX1 hown hK.1 hP hD hS 0 rfl rfl 6 (by decide) hf2 (fun _ h9 => h9) rfl (by decide +kernel) rfl rfl (Nat.le_of_ble_eq_true rfl) dX1_empty_13 (fun H locs hP hD hS => ?_)
  have hP : va_P g.1 vwCl [(P, .inr (1, [.ref Pa, .ref Pb, .ref Pc, .ref Pd, .int 90, .int 0, .int 0, .int (nI nw)]))] _ := hP
  have hD : va_D A [(P, .inr (1, [.ref Pa, .ref Pb, .ref Pc, .ref Pd, .int 90, .int 0, .int 0, .int (nI nw)]))] := hD
  refine lv_aload_n hx hb dX1_empty_16 rfl (lv_at hl 0 rfl) ?_
  refine lv_iconst (v := 0) hx hb dX1_empty_17 (by decide) ?_
  refine va_put (D := g.1) (ci := 1) (v := .int 0) (ty := .int) (C := RX1) (T := TX1) (N := 8) hx hb hts hiX1 tyX1 tyX1_ok nmX1 hown hK.1 hP hD hS 0 rfl rfl 7 (by decide) hf3 (fun _ h9 => h9) rfl (by decide +kernel) rfl rfl (Nat.le_of_ble_eq_true rfl) dX1_empty_18 (fun H locs hP hD hS => ?_)
  have hP : va_P g.1 vwCl [(P, .inr (1, [.ref Pa, .ref Pb, .ref Pc, .ref Pd, .int 90, .int 0, .int 0, .int 0]))] _ := hP
  have hD : va_D A [(P, .inr (1, [.ref Pa, .ref Pb, .ref Pc, .ref Pd, .int 90, .int 0, .int 0, .int 0]))] := hD
  have hP : va_P g.1 vwCl [(P, .inr (1, [.ref Pa, .ref Pb, .ref Pc, .ref Pd, .int (nI 90), .int 0, .int 0, .int 0]))] _ := hP
  have hD : va_D A [(P, .inr (1, [.ref Pa, .ref Pb, .ref Pc, .ref Pd, .int (nI 90), .int 0, .int 0, .int 0]))] := hD
  have hP : va_P g.1 vwCl [(P, .inr (1, [.ref Pa, .ref Pb, .ref Pc, .ref Pd, .int (nI 90), .int (nI 0), .int 0, .int 0]))] _ := hP
  have hD : va_D A [(P, .inr (1, [.ref Pa, .ref Pb, .ref Pc, .ref Pd, .int (nI 90), .int (nI 0), .int 0, .int 0]))] := hD
  have hP : va_P g.1 vwCl [(P, .inr (1, [.ref Pa, .ref Pb, .ref Pc, .ref Pd, .int (nI 90), .int (nI 0), .int (nI 0), .int 0]))] _ := hP
  have hD : va_D A [(P, .inr (1, [.ref Pa, .ref Pb, .ref Pc, .ref Pd, .int (nI 90), .int (nI 0), .int (nI 0), .int 0]))] := hD
  have hP : va_P g.1 vwCl [(P, .inr (1, [.ref Pa, .ref Pb, .ref Pc, .ref Pd, .int (nI 90), .int (nI 0), .int (nI 0), .int (nI 0)]))] _ := hP
  have hD : va_D A [(P, .inr (1, [.ref Pa, .ref Pb, .ref Pc, .ref Pd, .int (nI 90), .int (nI 0), .int (nI 0), .int (nI 0)]))] := hD
  exact hret 21 _ _ _ () dX1_empty_21 hP hD hS (show True from by trivial)

set_option maxHeartbeats 4000000 in
set_option maxRecDepth 100000 in
theorem c_X1_become (l : Launch) (g : zG) (P Pa Pb Pc Pd : Nat) (hs np nm nw : Nat) (wc wp mp kp : Nat → Nat) (O Oa Ob Oc Od hs2 np2 nm2 nw2 : Nat) (wc2 wp2 mp2 kp2 : Nat → Nat) : zV l yX1_become wsX1_become 1 22 0 0 g [.ref P, .ref O] [(P, .inr (1, [.ref Pa, .ref Pb, .ref Pc, .ref Pd, .int (nI hs), .int (nI np), .int (nI nm), .int (nI nw)])), (Pa, .inl (g.2.1.1, 6, .inl (zf wc))), (Pb, .inl (g.2.1.1, 96, .inl (zf wp))), (Pc, .inl (g.2.1.1, 12, .inl (zf mp))), (Pd, .inl (g.2.1.1, 18, .inl (zf kp))), (O, .inr (1, [.ref Oa, .ref Ob, .ref Oc, .ref Od, .int (nI hs2), .int (nI np2), .int (nI nm2), .int (nI nw2)])), (Oa, .inl (g.2.1.1, 6, .inl (zf wc2))), (Ob, .inl (g.2.1.1, 96, .inl (zf wp2))), (Oc, .inl (g.2.1.1, 12, .inl (zf mp2))), (Od, .inl (g.2.1.1, 18, .inl (zf kp2)))] (fun (u : Unit) => True) (fun (u : Unit) => [(P, .inr (1, [.ref Pa, .ref Pb, .ref Pc, .ref Pd, .int (nI hs2), .int (nI np2), .int (nI nm2), .int (nI nw2)])), (Pa, .inl (g.2.1.1, 6, .inl (zf wc2))), (Pb, .inl (g.2.1.1, 96, .inl (zf wp2))), (Pc, .inl (g.2.1.1, 12, .inl (zf mp2))), (Pd, .inl (g.2.1.1, 18, .inl (zf kp2))), (O, .inr (1, [.ref Oa, .ref Ob, .ref Oc, .ref Od, .int (nI hs2), .int (nI np2), .int (nI nm2), .int (nI nw2)])), (Oa, .inl (g.2.1.1, 6, .inl (zf wc2))), (Ob, .inl (g.2.1.1, 96, .inl (zf wp2))), (Oc, .inl (g.2.1.1, 12, .inl (zf mp2))), (Od, .inl (g.2.1.1, 18, .inl (zf kp2)))]) := by
  refine zz_bodyV (cc := cX1_become) (nL := 2) (own := RX1) (by decide) rfl rfl (Nat.le_of_ble_eq_true rfl) ?_
  intro pP eE s mM below meth cC A Q ls F hin hA hK hE hP hD hl hret
  have hS : va_S A s.heap s.heap [] := va_S.rf
  obtain ⟨hx, hb, hml, hown, hts⟩ := id F
  have hiX1 : ∀ w ∈ u_ws RX1 TX1 8, w ∈ wsX1_become := by decide +kernel
  have hf0 := hts (.fieldLink RX1 24 "StepClock$Plan" "hourSteps" "I") (by decide +kernel)
  have hf1 := hts (.fieldLink RX1 28 "StepClock$Plan" "people" "I") (by decide +kernel)
  have hf2 := hts (.fieldLink RX1 31 "StepClock$Plan" "marches" "I") (by decide +kernel)
  have hf3 := hts (.fieldLink RX1 34 "StepClock$Plan" "works" "I") (by decide +kernel)
  have hf4 := hts (.fieldLink RX1 9 "StepClock$Plan" "wayCounts" "[I") (by decide +kernel)
  have hf5 := hts (.initialized RX4) (by decide +kernel)
  have hf6 := hts (.static yX4_copyRow) (by decide +kernel)
  have hf7 := hts (.fieldLink RX1 15 "StepClock$Plan" "wayParts" "[I") (by decide +kernel)
  have hf8 := hts (.fieldLink RX1 18 "StepClock$Plan" "marchParts" "[I") (by decide +kernel)
  have hf9 := hts (.fieldLink RX1 21 "StepClock$Plan" "workParts" "[I") (by decide +kernel)
  have hl : lv_has ls 2 [(0, .ref P), (1, .ref O)] := hl
  refine lv_aload_n hx hb dX1_become_0 rfl (lv_at hl 0 rfl) ?_
  refine lv_aload_n hx hb dX1_become_1 rfl (lv_at hl 1 rfl) ?_
  refine va_get (D := g.1) (ci := 1) (v := .int (nI hs2)) (C := RX1) (T := TX1) (N := 8) hx hb hts hiX1 hown hK.1 hP 5 rfl rfl 4 (by decide) hf0 (fun _ h9 => h9) rfl dX1_become_2 ?_
  refine va_put (D := g.1) (ci := 1) (v := .int (nI hs2)) (ty := .int) (C := RX1) (T := TX1) (N := 8) hx hb hts hiX1 tyX1 tyX1_ok nmX1 hown hK.1 hP hD hS 0 rfl rfl 4 (by decide) hf0 (fun _ h9 => h9) rfl (by decide +kernel) rfl rfl (Nat.le_of_ble_eq_true rfl) dX1_become_5 (fun H locs hP hD hS => ?_)
  have hP : va_P g.1 vwCl [(P, .inr (1, [.ref Pa, .ref Pb, .ref Pc, .ref Pd, .int (nI hs2), .int (nI np), .int (nI nm), .int (nI nw)])), (Pa, .inl (g.2.1.1, 6, .inl (zf wc))), (Pb, .inl (g.2.1.1, 96, .inl (zf wp))), (Pc, .inl (g.2.1.1, 12, .inl (zf mp))), (Pd, .inl (g.2.1.1, 18, .inl (zf kp))), (O, .inr (1, [.ref Oa, .ref Ob, .ref Oc, .ref Od, .int (nI hs2), .int (nI np2), .int (nI nm2), .int (nI nw2)])), (Oa, .inl (g.2.1.1, 6, .inl (zf wc2))), (Ob, .inl (g.2.1.1, 96, .inl (zf wp2))), (Oc, .inl (g.2.1.1, 12, .inl (zf mp2))), (Od, .inl (g.2.1.1, 18, .inl (zf kp2)))] _ := hP
  have hD : va_D A [(P, .inr (1, [.ref Pa, .ref Pb, .ref Pc, .ref Pd, .int (nI hs2), .int (nI np), .int (nI nm), .int (nI nw)])), (Pa, .inl (g.2.1.1, 6, .inl (zf wc))), (Pb, .inl (g.2.1.1, 96, .inl (zf wp))), (Pc, .inl (g.2.1.1, 12, .inl (zf mp))), (Pd, .inl (g.2.1.1, 18, .inl (zf kp))), (O, .inr (1, [.ref Oa, .ref Ob, .ref Oc, .ref Od, .int (nI hs2), .int (nI np2), .int (nI nm2), .int (nI nw2)])), (Oa, .inl (g.2.1.1, 6, .inl (zf wc2))), (Ob, .inl (g.2.1.1, 96, .inl (zf wp2))), (Oc, .inl (g.2.1.1, 12, .inl (zf mp2))), (Od, .inl (g.2.1.1, 18, .inl (zf kp2)))] := hD
  refine lv_aload_n hx hb dX1_become_8 rfl (lv_at hl 0 rfl) ?_
  refine lv_aload_n hx hb dX1_become_9 rfl (lv_at hl 1 rfl) ?_
  refine va_get (D := g.1) (ci := 1) (v := .int (nI np2)) (C := RX1) (T := TX1) (N := 8) hx hb hts hiX1 hown hK.1 hP 5 rfl rfl 5 (by decide) hf1 (fun _ h9 => h9) rfl dX1_become_10 ?_
  refine va_put (D := g.1) (ci := 1) (v := .int (nI np2)) (ty := .int) (C := RX1) (T := TX1) (N := 8) hx hb hts hiX1 tyX1 tyX1_ok nmX1 hown hK.1 hP hD hS 0 rfl rfl 5 (by decide) hf1 (fun _ h9 => h9) rfl (by decide +kernel) rfl rfl (Nat.le_of_ble_eq_true rfl) dX1_become_13 (fun H locs hP hD hS => ?_)
  have hP : va_P g.1 vwCl [(P, .inr (1, [.ref Pa, .ref Pb, .ref Pc, .ref Pd, .int (nI hs2), .int (nI np2), .int (nI nm), .int (nI nw)])), (Pa, .inl (g.2.1.1, 6, .inl (zf wc))), (Pb, .inl (g.2.1.1, 96, .inl (zf wp))), (Pc, .inl (g.2.1.1, 12, .inl (zf mp))), (Pd, .inl (g.2.1.1, 18, .inl (zf kp))), (O, .inr (1, [.ref Oa, .ref Ob, .ref Oc, .ref Od, .int (nI hs2), .int (nI np2), .int (nI nm2), .int (nI nw2)])), (Oa, .inl (g.2.1.1, 6, .inl (zf wc2))), (Ob, .inl (g.2.1.1, 96, .inl (zf wp2))), (Oc, .inl (g.2.1.1, 12, .inl (zf mp2))), (Od, .inl (g.2.1.1, 18, .inl (zf kp2)))] _ := hP
  have hD : va_D A [(P, .inr (1, [.ref Pa, .ref Pb, .ref Pc, .ref Pd, .int (nI hs2), .int (nI np2), .int (nI nm), .int (nI nw)])), (Pa, .inl (g.2.1.1, 6, .inl (zf wc))), (Pb, .inl (g.2.1.1, 96, .inl (zf wp))), (Pc, .inl (g.2.1.1, 12, .inl (zf mp))), (Pd, .inl (g.2.1.1, 18, .inl (zf kp))), (O, .inr (1, [.ref Oa, .ref Ob, .ref Oc, .ref Od, .int (nI hs2), .int (nI np2), .int (nI nm2), .int (nI nw2)])), (Oa, .inl (g.2.1.1, 6, .inl (zf wc2))), (Ob, .inl (g.2.1.1, 96, .inl (zf wp2))), (Oc, .inl (g.2.1.1, 12, .inl (zf mp2))), (Od, .inl (g.2.1.1, 18, .inl (zf kp2)))] := hD
  refine lv_aload_n hx hb dX1_become_16 rfl (lv_at hl 0 rfl) ?_
  refine lv_aload_n hx hb dX1_become_17 rfl (lv_at hl 1 rfl) ?_
  refine va_get (D := g.1) (ci := 1) (v := .int (nI nm2)) (C := RX1) (T := TX1) (N := 8) hx hb hts hiX1 hown hK.1 hP 5 rfl rfl 6 (by decide) hf2 (fun _ h9 => h9) rfl dX1_become_18 ?_
  refine va_put (D := g.1) (ci := 1) (v := .int (nI nm2)) (ty := .int) (C := RX1) (T := TX1) (N := 8) hx hb hts hiX1 tyX1 tyX1_ok nmX1 hown hK.1 hP hD hS 0 rfl rfl 6 (by decide) hf2 (fun _ h9 => h9) rfl (by decide +kernel) rfl rfl (Nat.le_of_ble_eq_true rfl) dX1_become_21 (fun H locs hP hD hS => ?_)
  have hP : va_P g.1 vwCl [(P, .inr (1, [.ref Pa, .ref Pb, .ref Pc, .ref Pd, .int (nI hs2), .int (nI np2), .int (nI nm2), .int (nI nw)])), (Pa, .inl (g.2.1.1, 6, .inl (zf wc))), (Pb, .inl (g.2.1.1, 96, .inl (zf wp))), (Pc, .inl (g.2.1.1, 12, .inl (zf mp))), (Pd, .inl (g.2.1.1, 18, .inl (zf kp))), (O, .inr (1, [.ref Oa, .ref Ob, .ref Oc, .ref Od, .int (nI hs2), .int (nI np2), .int (nI nm2), .int (nI nw2)])), (Oa, .inl (g.2.1.1, 6, .inl (zf wc2))), (Ob, .inl (g.2.1.1, 96, .inl (zf wp2))), (Oc, .inl (g.2.1.1, 12, .inl (zf mp2))), (Od, .inl (g.2.1.1, 18, .inl (zf kp2)))] _ := hP
  have hD : va_D A [(P, .inr (1, [.ref Pa, .ref Pb, .ref Pc, .ref Pd, .int (nI hs2), .int (nI np2), .int (nI nm2), .int (nI nw)])), (Pa, .inl (g.2.1.1, 6, .inl (zf wc))), (Pb, .inl (g.2.1.1, 96, .inl (zf wp))), (Pc, .inl (g.2.1.1, 12, .inl (zf mp))), (Pd, .inl (g.2.1.1, 18, .inl (zf kp))), (O, .inr (1, [.ref Oa, .ref Ob, .ref Oc, .ref Od, .int (nI hs2), .int (nI np2), .int (nI nm2), .int (nI nw2)])), (Oa, .inl (g.2.1.1, 6, .inl (zf wc2))), (Ob, .inl (g.2.1.1, 96, .inl (zf wp2))), (Oc, .inl (g.2.1.1, 12, .inl (zf mp2))), (Od, .inl (g.2.1.1, 18, .inl (zf kp2)))] := hD
  refine lv_aload_n hx hb dX1_become_24 rfl (lv_at hl 0 rfl) ?_
  refine lv_aload_n hx hb dX1_become_25 rfl (lv_at hl 1 rfl) ?_
  refine va_get (D := g.1) (ci := 1) (v := .int (nI nw2)) (C := RX1) (T := TX1) (N := 8) hx hb hts hiX1 hown hK.1 hP 5 rfl rfl 7 (by decide) hf3 (fun _ h9 => h9) rfl dX1_become_26 ?_
  refine va_put (D := g.1) (ci := 1) (v := .int (nI nw2)) (ty := .int) (C := RX1) (T := TX1) (N := 8) hx hb hts hiX1 tyX1 tyX1_ok nmX1 hown hK.1 hP hD hS 0 rfl rfl 7 (by decide) hf3 (fun _ h9 => h9) rfl (by decide +kernel) rfl rfl (Nat.le_of_ble_eq_true rfl) dX1_become_29 (fun H locs hP hD hS => ?_)
  have hP : va_P g.1 vwCl [(P, .inr (1, [.ref Pa, .ref Pb, .ref Pc, .ref Pd, .int (nI hs2), .int (nI np2), .int (nI nm2), .int (nI nw2)])), (Pa, .inl (g.2.1.1, 6, .inl (zf wc))), (Pb, .inl (g.2.1.1, 96, .inl (zf wp))), (Pc, .inl (g.2.1.1, 12, .inl (zf mp))), (Pd, .inl (g.2.1.1, 18, .inl (zf kp))), (O, .inr (1, [.ref Oa, .ref Ob, .ref Oc, .ref Od, .int (nI hs2), .int (nI np2), .int (nI nm2), .int (nI nw2)])), (Oa, .inl (g.2.1.1, 6, .inl (zf wc2))), (Ob, .inl (g.2.1.1, 96, .inl (zf wp2))), (Oc, .inl (g.2.1.1, 12, .inl (zf mp2))), (Od, .inl (g.2.1.1, 18, .inl (zf kp2)))] _ := hP
  have hD : va_D A [(P, .inr (1, [.ref Pa, .ref Pb, .ref Pc, .ref Pd, .int (nI hs2), .int (nI np2), .int (nI nm2), .int (nI nw2)])), (Pa, .inl (g.2.1.1, 6, .inl (zf wc))), (Pb, .inl (g.2.1.1, 96, .inl (zf wp))), (Pc, .inl (g.2.1.1, 12, .inl (zf mp))), (Pd, .inl (g.2.1.1, 18, .inl (zf kp))), (O, .inr (1, [.ref Oa, .ref Ob, .ref Oc, .ref Od, .int (nI hs2), .int (nI np2), .int (nI nm2), .int (nI nw2)])), (Oa, .inl (g.2.1.1, 6, .inl (zf wc2))), (Ob, .inl (g.2.1.1, 96, .inl (zf wp2))), (Oc, .inl (g.2.1.1, 12, .inl (zf mp2))), (Od, .inl (g.2.1.1, 18, .inl (zf kp2)))] := hD
  refine lv_aload_n hx hb dX1_become_32 rfl (lv_at hl 1 rfl) ?_
  refine va_get (D := g.1) (ci := 1) (v := .ref Oa) (C := RX1) (T := TX1) (N := 8) hx hb hts hiX1 hown hK.1 hP 5 rfl rfl 0 (by decide) hf4 (fun _ h9 => h9) rfl dX1_become_33 ?_
  refine lv_aload_n hx hb dX1_become_36 rfl (lv_at hl 0 rfl) ?_
  refine va_get (D := g.1) (ci := 1) (v := .ref Pa) (C := RX1) (T := TX1) (N := 8) hx hb hts hiX1 hown hK.1 hP 0 rfl rfl 0 (by decide) hf4 (fun _ h9 => h9) rfl dX1_become_37 ?_
  refine zz_callSN (wr := [(P, .inr (1, [.ref Pa, .ref Pb, .ref Pc, .ref Pd, .int (nI hs2), .int (nI np2), .int (nI nm2), .int (nI nw2)])), (Pb, .inl (g.2.1.1, 96, .inl (zf wp))), (Pc, .inl (g.2.1.1, 12, .inl (zf mp))), (Pd, .inl (g.2.1.1, 18, .inl (zf kp))), (O, .inr (1, [.ref Oa, .ref Ob, .ref Oc, .ref Od, .int (nI hs2), .int (nI np2), .int (nI nm2), .int (nI nw2)])), (Ob, .inl (g.2.1.1, 96, .inl (zf wp2))), (Oc, .inl (g.2.1.1, 12, .inl (zf mp2))), (Od, .inl (g.2.1.1, 18, .inl (zf kp2)))]) (wc := [(Oa, .inl (g.2.1.1, 6, .inl (zf wc2))), (Pa, .inl (g.2.1.1, 6, .inl (zf wc)))]) (As := [.ref Oa, .ref Pa]) (rest := []) F hK hE hA hP hD hS (c_X4_copyRow l g (a := Oa) (b := Pa) (n := 6) (f := wc2) (h := wc) (hn := by first | assumption | omega)) ⟨va_cnB 2 hts ggX1_become_X4_copyRow rfl rfl rfl (hK.2.1 (.methodLinkNest RX1 37 yX4_copyRow RX4) (by decide +kernel)) hf5 (by decide +kernel) ⟨Nat.le_of_ble_eq_true rfl, Nat.le_of_ble_eq_true rfl⟩, hf6, trivial⟩ [6, 1] [0, 2, 3, 4, 5, 7, 8, 9] rfl rfl (by decide) (by decide) (by decide) rfl rfl hl.1 (Nat.le_of_ble_eq_true rfl) dX1_become_40 ⟨Nat.le_of_ble_eq_true rfl, Nat.le_of_ble_eq_true rfl⟩ (fun u_1 H locs hw hP hD hS => ?_)
  have hP : va_P g.1 vwCl [(P, .inr (1, [.ref Pa, .ref Pb, .ref Pc, .ref Pd, .int (nI hs2), .int (nI np2), .int (nI nm2), .int (nI nw2)])), (Pb, .inl (g.2.1.1, 96, .inl (zf wp))), (Pc, .inl (g.2.1.1, 12, .inl (zf mp))), (Pd, .inl (g.2.1.1, 18, .inl (zf kp))), (O, .inr (1, [.ref Oa, .ref Ob, .ref Oc, .ref Od, .int (nI hs2), .int (nI np2), .int (nI nm2), .int (nI nw2)])), (Ob, .inl (g.2.1.1, 96, .inl (zf wp2))), (Oc, .inl (g.2.1.1, 12, .inl (zf mp2))), (Od, .inl (g.2.1.1, 18, .inl (zf kp2))), (Oa, .inl (g.2.1.1, 6, .inl (zf wc2))), (Pa, .inl (g.2.1.1, 6, .inl (zf wc2)))] _ := hP
  have hD : va_D A [(P, .inr (1, [.ref Pa, .ref Pb, .ref Pc, .ref Pd, .int (nI hs2), .int (nI np2), .int (nI nm2), .int (nI nw2)])), (Pb, .inl (g.2.1.1, 96, .inl (zf wp))), (Pc, .inl (g.2.1.1, 12, .inl (zf mp))), (Pd, .inl (g.2.1.1, 18, .inl (zf kp))), (O, .inr (1, [.ref Oa, .ref Ob, .ref Oc, .ref Od, .int (nI hs2), .int (nI np2), .int (nI nm2), .int (nI nw2)])), (Ob, .inl (g.2.1.1, 96, .inl (zf wp2))), (Oc, .inl (g.2.1.1, 12, .inl (zf mp2))), (Od, .inl (g.2.1.1, 18, .inl (zf kp2))), (Oa, .inl (g.2.1.1, 6, .inl (zf wc2))), (Pa, .inl (g.2.1.1, 6, .inl (zf wc2)))] := hD
  refine lv_aload_n hx hb dX1_become_43 rfl (lv_at hl 1 rfl) ?_
  refine va_get (D := g.1) (ci := 1) (v := .ref Ob) (C := RX1) (T := TX1) (N := 8) hx hb hts hiX1 hown hK.1 hP 4 rfl rfl 1 (by decide) hf7 (fun _ h9 => h9) rfl dX1_become_44 ?_
  refine lv_aload_n hx hb dX1_become_47 rfl (lv_at hl 0 rfl) ?_
  refine va_get (D := g.1) (ci := 1) (v := .ref Pb) (C := RX1) (T := TX1) (N := 8) hx hb hts hiX1 hown hK.1 hP 0 rfl rfl 1 (by decide) hf7 (fun _ h9 => h9) rfl dX1_become_48 ?_
  refine zz_callSN (wr := [(P, .inr (1, [.ref Pa, .ref Pb, .ref Pc, .ref Pd, .int (nI hs2), .int (nI np2), .int (nI nm2), .int (nI nw2)])), (Pc, .inl (g.2.1.1, 12, .inl (zf mp))), (Pd, .inl (g.2.1.1, 18, .inl (zf kp))), (O, .inr (1, [.ref Oa, .ref Ob, .ref Oc, .ref Od, .int (nI hs2), .int (nI np2), .int (nI nm2), .int (nI nw2)])), (Oc, .inl (g.2.1.1, 12, .inl (zf mp2))), (Od, .inl (g.2.1.1, 18, .inl (zf kp2))), (Oa, .inl (g.2.1.1, 6, .inl (zf wc2))), (Pa, .inl (g.2.1.1, 6, .inl (zf wc2)))]) (wc := [(Ob, .inl (g.2.1.1, 96, .inl (zf wp2))), (Pb, .inl (g.2.1.1, 96, .inl (zf wp)))]) (As := [.ref Ob, .ref Pb]) (rest := []) F hK hE hA hP hD hS (c_X4_copyRow l g (a := Ob) (b := Pb) (n := 96) (f := wp2) (h := wp) (hn := by first | assumption | omega)) ⟨va_cnB 2 hts ggX1_become_X4_copyRow rfl rfl rfl (hK.2.1 (.methodLinkNest RX1 37 yX4_copyRow RX4) (by decide +kernel)) hf5 (by decide +kernel) ⟨Nat.le_of_ble_eq_true rfl, Nat.le_of_ble_eq_true rfl⟩, hf6, trivial⟩ [5, 1] [0, 2, 3, 4, 6, 7, 8, 9] rfl rfl (by decide) (by decide) (by decide) rfl rfl hl.1 (Nat.le_of_ble_eq_true rfl) dX1_become_51 ⟨Nat.le_of_ble_eq_true rfl, Nat.le_of_ble_eq_true rfl⟩ (fun u_2 H locs hw hP hD hS => ?_)
  have hP : va_P g.1 vwCl [(P, .inr (1, [.ref Pa, .ref Pb, .ref Pc, .ref Pd, .int (nI hs2), .int (nI np2), .int (nI nm2), .int (nI nw2)])), (Pc, .inl (g.2.1.1, 12, .inl (zf mp))), (Pd, .inl (g.2.1.1, 18, .inl (zf kp))), (O, .inr (1, [.ref Oa, .ref Ob, .ref Oc, .ref Od, .int (nI hs2), .int (nI np2), .int (nI nm2), .int (nI nw2)])), (Oc, .inl (g.2.1.1, 12, .inl (zf mp2))), (Od, .inl (g.2.1.1, 18, .inl (zf kp2))), (Oa, .inl (g.2.1.1, 6, .inl (zf wc2))), (Pa, .inl (g.2.1.1, 6, .inl (zf wc2))), (Ob, .inl (g.2.1.1, 96, .inl (zf wp2))), (Pb, .inl (g.2.1.1, 96, .inl (zf wp2)))] _ := hP
  have hD : va_D A [(P, .inr (1, [.ref Pa, .ref Pb, .ref Pc, .ref Pd, .int (nI hs2), .int (nI np2), .int (nI nm2), .int (nI nw2)])), (Pc, .inl (g.2.1.1, 12, .inl (zf mp))), (Pd, .inl (g.2.1.1, 18, .inl (zf kp))), (O, .inr (1, [.ref Oa, .ref Ob, .ref Oc, .ref Od, .int (nI hs2), .int (nI np2), .int (nI nm2), .int (nI nw2)])), (Oc, .inl (g.2.1.1, 12, .inl (zf mp2))), (Od, .inl (g.2.1.1, 18, .inl (zf kp2))), (Oa, .inl (g.2.1.1, 6, .inl (zf wc2))), (Pa, .inl (g.2.1.1, 6, .inl (zf wc2))), (Ob, .inl (g.2.1.1, 96, .inl (zf wp2))), (Pb, .inl (g.2.1.1, 96, .inl (zf wp2)))] := hD
  refine lv_aload_n hx hb dX1_become_54 rfl (lv_at hl 1 rfl) ?_
  refine va_get (D := g.1) (ci := 1) (v := .ref Oc) (C := RX1) (T := TX1) (N := 8) hx hb hts hiX1 hown hK.1 hP 3 rfl rfl 2 (by decide) hf8 (fun _ h9 => h9) rfl dX1_become_55 ?_
  refine lv_aload_n hx hb dX1_become_58 rfl (lv_at hl 0 rfl) ?_
  refine va_get (D := g.1) (ci := 1) (v := .ref Pc) (C := RX1) (T := TX1) (N := 8) hx hb hts hiX1 hown hK.1 hP 0 rfl rfl 2 (by decide) hf8 (fun _ h9 => h9) rfl dX1_become_59 ?_
  refine zz_callSN (wr := [(P, .inr (1, [.ref Pa, .ref Pb, .ref Pc, .ref Pd, .int (nI hs2), .int (nI np2), .int (nI nm2), .int (nI nw2)])), (Pd, .inl (g.2.1.1, 18, .inl (zf kp))), (O, .inr (1, [.ref Oa, .ref Ob, .ref Oc, .ref Od, .int (nI hs2), .int (nI np2), .int (nI nm2), .int (nI nw2)])), (Od, .inl (g.2.1.1, 18, .inl (zf kp2))), (Oa, .inl (g.2.1.1, 6, .inl (zf wc2))), (Pa, .inl (g.2.1.1, 6, .inl (zf wc2))), (Ob, .inl (g.2.1.1, 96, .inl (zf wp2))), (Pb, .inl (g.2.1.1, 96, .inl (zf wp2)))]) (wc := [(Oc, .inl (g.2.1.1, 12, .inl (zf mp2))), (Pc, .inl (g.2.1.1, 12, .inl (zf mp)))]) (As := [.ref Oc, .ref Pc]) (rest := []) F hK hE hA hP hD hS (c_X4_copyRow l g (a := Oc) (b := Pc) (n := 12) (f := mp2) (h := mp) (hn := by first | assumption | omega)) ⟨va_cnB 2 hts ggX1_become_X4_copyRow rfl rfl rfl (hK.2.1 (.methodLinkNest RX1 37 yX4_copyRow RX4) (by decide +kernel)) hf5 (by decide +kernel) ⟨Nat.le_of_ble_eq_true rfl, Nat.le_of_ble_eq_true rfl⟩, hf6, trivial⟩ [4, 1] [0, 2, 3, 5, 6, 7, 8, 9] rfl rfl (by decide) (by decide) (by decide) rfl rfl hl.1 (Nat.le_of_ble_eq_true rfl) dX1_become_62 ⟨Nat.le_of_ble_eq_true rfl, Nat.le_of_ble_eq_true rfl⟩ (fun u_3 H locs hw hP hD hS => ?_)
  have hP : va_P g.1 vwCl [(P, .inr (1, [.ref Pa, .ref Pb, .ref Pc, .ref Pd, .int (nI hs2), .int (nI np2), .int (nI nm2), .int (nI nw2)])), (Pd, .inl (g.2.1.1, 18, .inl (zf kp))), (O, .inr (1, [.ref Oa, .ref Ob, .ref Oc, .ref Od, .int (nI hs2), .int (nI np2), .int (nI nm2), .int (nI nw2)])), (Od, .inl (g.2.1.1, 18, .inl (zf kp2))), (Oa, .inl (g.2.1.1, 6, .inl (zf wc2))), (Pa, .inl (g.2.1.1, 6, .inl (zf wc2))), (Ob, .inl (g.2.1.1, 96, .inl (zf wp2))), (Pb, .inl (g.2.1.1, 96, .inl (zf wp2))), (Oc, .inl (g.2.1.1, 12, .inl (zf mp2))), (Pc, .inl (g.2.1.1, 12, .inl (zf mp2)))] _ := hP
  have hD : va_D A [(P, .inr (1, [.ref Pa, .ref Pb, .ref Pc, .ref Pd, .int (nI hs2), .int (nI np2), .int (nI nm2), .int (nI nw2)])), (Pd, .inl (g.2.1.1, 18, .inl (zf kp))), (O, .inr (1, [.ref Oa, .ref Ob, .ref Oc, .ref Od, .int (nI hs2), .int (nI np2), .int (nI nm2), .int (nI nw2)])), (Od, .inl (g.2.1.1, 18, .inl (zf kp2))), (Oa, .inl (g.2.1.1, 6, .inl (zf wc2))), (Pa, .inl (g.2.1.1, 6, .inl (zf wc2))), (Ob, .inl (g.2.1.1, 96, .inl (zf wp2))), (Pb, .inl (g.2.1.1, 96, .inl (zf wp2))), (Oc, .inl (g.2.1.1, 12, .inl (zf mp2))), (Pc, .inl (g.2.1.1, 12, .inl (zf mp2)))] := hD
  refine lv_aload_n hx hb dX1_become_65 rfl (lv_at hl 1 rfl) ?_
  refine va_get (D := g.1) (ci := 1) (v := .ref Od) (C := RX1) (T := TX1) (N := 8) hx hb hts hiX1 hown hK.1 hP 2 rfl rfl 3 (by decide) hf9 (fun _ h9 => h9) rfl dX1_become_66 ?_
  refine lv_aload_n hx hb dX1_become_69 rfl (lv_at hl 0 rfl) ?_
  refine va_get (D := g.1) (ci := 1) (v := .ref Pd) (C := RX1) (T := TX1) (N := 8) hx hb hts hiX1 hown hK.1 hP 0 rfl rfl 3 (by decide) hf9 (fun _ h9 => h9) rfl dX1_become_70 ?_
  refine zz_callSN (wr := [(P, .inr (1, [.ref Pa, .ref Pb, .ref Pc, .ref Pd, .int (nI hs2), .int (nI np2), .int (nI nm2), .int (nI nw2)])), (O, .inr (1, [.ref Oa, .ref Ob, .ref Oc, .ref Od, .int (nI hs2), .int (nI np2), .int (nI nm2), .int (nI nw2)])), (Oa, .inl (g.2.1.1, 6, .inl (zf wc2))), (Pa, .inl (g.2.1.1, 6, .inl (zf wc2))), (Ob, .inl (g.2.1.1, 96, .inl (zf wp2))), (Pb, .inl (g.2.1.1, 96, .inl (zf wp2))), (Oc, .inl (g.2.1.1, 12, .inl (zf mp2))), (Pc, .inl (g.2.1.1, 12, .inl (zf mp2)))]) (wc := [(Od, .inl (g.2.1.1, 18, .inl (zf kp2))), (Pd, .inl (g.2.1.1, 18, .inl (zf kp)))]) (As := [.ref Od, .ref Pd]) (rest := []) F hK hE hA hP hD hS (c_X4_copyRow l g (a := Od) (b := Pd) (n := 18) (f := kp2) (h := kp) (hn := by first | assumption | omega)) ⟨va_cnB 2 hts ggX1_become_X4_copyRow rfl rfl rfl (hK.2.1 (.methodLinkNest RX1 37 yX4_copyRow RX4) (by decide +kernel)) hf5 (by decide +kernel) ⟨Nat.le_of_ble_eq_true rfl, Nat.le_of_ble_eq_true rfl⟩, hf6, trivial⟩ [3, 1] [0, 2, 4, 5, 6, 7, 8, 9] rfl rfl (by decide) (by decide) (by decide) rfl rfl hl.1 (Nat.le_of_ble_eq_true rfl) dX1_become_73 ⟨Nat.le_of_ble_eq_true rfl, Nat.le_of_ble_eq_true rfl⟩ (fun u_4 H locs hw hP hD hS => ?_)
  have hP : va_P g.1 vwCl [(P, .inr (1, [.ref Pa, .ref Pb, .ref Pc, .ref Pd, .int (nI hs2), .int (nI np2), .int (nI nm2), .int (nI nw2)])), (O, .inr (1, [.ref Oa, .ref Ob, .ref Oc, .ref Od, .int (nI hs2), .int (nI np2), .int (nI nm2), .int (nI nw2)])), (Oa, .inl (g.2.1.1, 6, .inl (zf wc2))), (Pa, .inl (g.2.1.1, 6, .inl (zf wc2))), (Ob, .inl (g.2.1.1, 96, .inl (zf wp2))), (Pb, .inl (g.2.1.1, 96, .inl (zf wp2))), (Oc, .inl (g.2.1.1, 12, .inl (zf mp2))), (Pc, .inl (g.2.1.1, 12, .inl (zf mp2))), (Od, .inl (g.2.1.1, 18, .inl (zf kp2))), (Pd, .inl (g.2.1.1, 18, .inl (zf kp2)))] _ := hP
  have hD : va_D A [(P, .inr (1, [.ref Pa, .ref Pb, .ref Pc, .ref Pd, .int (nI hs2), .int (nI np2), .int (nI nm2), .int (nI nw2)])), (O, .inr (1, [.ref Oa, .ref Ob, .ref Oc, .ref Od, .int (nI hs2), .int (nI np2), .int (nI nm2), .int (nI nw2)])), (Oa, .inl (g.2.1.1, 6, .inl (zf wc2))), (Pa, .inl (g.2.1.1, 6, .inl (zf wc2))), (Ob, .inl (g.2.1.1, 96, .inl (zf wp2))), (Pb, .inl (g.2.1.1, 96, .inl (zf wp2))), (Oc, .inl (g.2.1.1, 12, .inl (zf mp2))), (Pc, .inl (g.2.1.1, 12, .inl (zf mp2))), (Od, .inl (g.2.1.1, 18, .inl (zf kp2))), (Pd, .inl (g.2.1.1, 18, .inl (zf kp2)))] := hD
  have hP := hP.sub (ws' := [(P, .inr (1, [.ref Pa, .ref Pb, .ref Pc, .ref Pd, .int (nI hs2), .int (nI np2), .int (nI nm2), .int (nI nw2)])), (Pa, .inl (g.2.1.1, 6, .inl (zf wc2))), (Pb, .inl (g.2.1.1, 96, .inl (zf wp2))), (Pc, .inl (g.2.1.1, 12, .inl (zf mp2))), (Pd, .inl (g.2.1.1, 18, .inl (zf kp2))), (O, .inr (1, [.ref Oa, .ref Ob, .ref Oc, .ref Od, .int (nI hs2), .int (nI np2), .int (nI nm2), .int (nI nw2)])), (Oa, .inl (g.2.1.1, 6, .inl (zf wc2))), (Ob, .inl (g.2.1.1, 96, .inl (zf wp2))), (Oc, .inl (g.2.1.1, 12, .inl (zf mp2))), (Od, .inl (g.2.1.1, 18, .inl (zf kp2)))]) [0, 3, 5, 7, 9, 1, 2, 4, 6, 8] rfl
  have hD := hD.sub (ws' := [(P, .inr (1, [.ref Pa, .ref Pb, .ref Pc, .ref Pd, .int (nI hs2), .int (nI np2), .int (nI nm2), .int (nI nw2)])), (Pa, .inl (g.2.1.1, 6, .inl (zf wc2))), (Pb, .inl (g.2.1.1, 96, .inl (zf wp2))), (Pc, .inl (g.2.1.1, 12, .inl (zf mp2))), (Pd, .inl (g.2.1.1, 18, .inl (zf kp2))), (O, .inr (1, [.ref Oa, .ref Ob, .ref Oc, .ref Od, .int (nI hs2), .int (nI np2), .int (nI nm2), .int (nI nw2)])), (Oa, .inl (g.2.1.1, 6, .inl (zf wc2))), (Ob, .inl (g.2.1.1, 96, .inl (zf wp2))), (Oc, .inl (g.2.1.1, 12, .inl (zf mp2))), (Od, .inl (g.2.1.1, 18, .inl (zf kp2)))]) [0, 3, 5, 7, 9, 1, 2, 4, 6, 8] (by decide) rfl
  exact hret 76 _ _ _ () dX1_become_76 hP hD hS (show True from by trivial)

set_option maxHeartbeats 4000000 in
set_option maxRecDepth 100000 in
theorem c_X1_marchSteps (l : Launch) (g : zG) (P Pa Pb Pc Pd : Nat) (hs np nm nw : Nat) (mp : Nat → Nat) (mi : Nat) (hnm : nm ≤ 4) (hmp : ∀ k, mp k < 1000) (hmi : mi < 2147483648) : zI l yX1_marchSteps wsX1_marchSteps 1 23 g [.ref P, .int (nI mi)] [(P, .inr (1, [.ref Pa, .ref Pb, .ref Pc, .ref Pd, .int (nI hs), .int (nI np), .int (nI nm), .int (nI nw)])), (Pc, .inl (g.2.1.1, 12, .inl (zf mp)))] (fun (r : Int32) (u : Unit) => r = nI (zSm (zMs mp mi) nm)) (fun (u : Unit) => [(P, .inr (1, [.ref Pa, .ref Pb, .ref Pc, .ref Pd, .int (nI hs), .int (nI np), .int (nI nm), .int (nI nw)])), (Pc, .inl (g.2.1.1, 12, .inl (zf mp)))]) := by
  refine zz_bodyI (cc := cX1_marchSteps) (nL := 5) (own := RX1) (ty := .int) (by decide) rfl rfl (Nat.le_of_ble_eq_true rfl) ?_
  intro pP eE s mM below meth cC A Q ls F hA hK hE hP hD hl hret
  have hS : va_S A s.heap s.heap [] := va_S.rf
  obtain ⟨hx, hb, hml, hown, hts⟩ := id F
  have hiX1 : ∀ w ∈ u_ws RX1 TX1 8, w ∈ wsX1_marchSteps := by decide +kernel
  have hf0 := hts (.fieldLink RX1 31 "StepClock$Plan" "marches" "I") (by decide +kernel)
  have hl : lv_has ls 5 [(0, .ref P), (1, .int (nI mi))] := hl
  refine lv_iconst (v := 0) hx hb dX1_marchSteps_0 (by decide) ?_
  refine lv_istore_n (lv' := [(2, .int 0), (0, .ref P), (1, .int (nI mi))]) hx hb dX1_marchSteps_1 rfl hl (by decide) rfl (fun ls hl => ?_)
  refine lv_iconst (v := 0) hx hb dX1_marchSteps_2 (by decide) ?_
  refine lv_istore_n (lv' := [(3, .int 0), (2, .int 0), (0, .ref P), (1, .int (nI mi))]) hx hb dX1_marchSteps_3 rfl hl (by decide) rfl (fun ls hl => ?_)
  have hcut4 : ∀ (fu : Nat) (i : Nat) (H : Heap) (locs : List Loc) (ls : Array Slot), (i ≤ nm) → (nm - i) < fu → va_P g.1 vwCl [(P, .inr (1, [.ref Pa, .ref Pb, .ref Pc, .ref Pd, .int (nI hs), .int (nI np), .int (nI nm), .int (nI nw)])), (Pc, .inl (g.2.1.1, 12, .inl (zf mp)))] H → va_D A [(P, .inr (1, [.ref Pa, .ref Pb, .ref Pc, .ref Pd, .int (nI hs), .int (nI np), .int (nI nm), .int (nI nw)])), (Pc, .inl (g.2.1.1, 12, .inl (zf mp)))] → va_S A s.heap H locs → lv_has ls 5 [(0, .ref P), (1, .int (nI mi)), (2, .int (nI (zSm (zMs mp mi) i))), (3, .int (nI i))] → W pP l eE { frames := 1, cells := 0, slots := 0, locals := 23 } s mM ([.ref P, .int (nI mi)] : List Value).toArray below meth cC H locs 0 0 Q (F0 mM 4 ls []) := by
    intro fu
    induction fu with
    | zero =>
      intro i H locs ls hi hm
      exact absurd hm (Nat.not_lt_zero _)
    | succ fu ih4 =>
      intro i H locs ls hi hm hP hD hS hl
      have hsum := zSm_le (zMs_le hmp mi) i
      refine lv_iload_n hx hb dX1_marchSteps_4 rfl (lv_at hl 3 rfl) ?_
      refine lv_aload_n hx hb dX1_marchSteps_5 rfl (lv_at hl 0 rfl) ?_
      refine va_get (D := g.1) (ci := 1) (v := .int (nI nm)) (C := RX1) (T := TX1) (N := 8) hx hb hts hiX1 hown hK.1 hP 0 rfl rfl 6 (by decide) hf0 (fun _ h9 => h9) rfl dX1_marchSteps_6 ?_
      refine zz_icmp_ge (tgt := 54) hx hb dX1_marchSteps_9 (by decide) (zi_n i) (zi_n nm) (by omega) (by omega) (fun c_1 => ?_) (fun c_1 => ?_)
      · refine lv_iload_n hx hb dX1_marchSteps_54 rfl (lv_at hl 2 rfl) ?_
        exact hret 55 _ _ _ (nI (zSm (zMs mp mi) i)) () dX1_marchSteps_55 rfl hP hD hS (show (nI (zSm (zMs mp mi) i)) = nI (zSm (zMs mp mi) nm) from by rw [show i = nm by omega])
      · refine lv_aload_n hx hb dX1_marchSteps_12 rfl (lv_at hl 0 rfl) ?_
        refine lv_iload_n hx hb dX1_marchSteps_13 rfl (lv_at hl 3 rfl) ?_
        refine lv_iconst (v := 0) hx hb dX1_marchSteps_14 (by decide) ?_
        refine zz_callI (wr := []) (wc := [(P, .inr (1, [.ref Pa, .ref Pb, .ref Pc, .ref Pd, .int (nI hs), .int (nI np), .int (nI nm), .int (nI nw)])), (Pc, .inl (g.2.1.1, 12, .inl (zf mp)))]) (As := [.int (nI i), .int (nI 0)]) (rest := []) F hK hE hA hP hD hS (c_X1_marchPart l g (P := P) (Pa := Pa) (Pb := Pb) (Pc := Pc) (Pd := Pd) (hs := hs) (np := np) (nm := nm) (nw := nw) (mp := mp) (k := i) (w := 0) (hk := by first | assumption | omega) (hw3 := by first | assumption | omega)) (cwV 2 hts gX1_marchSteps_X1_marchPart rfl rfl rfl (by decide +kernel) ⟨Nat.le_of_ble_eq_true rfl, Nat.le_of_ble_eq_true rfl⟩) [0, 1] [] rfl rfl (by decide) (by decide) (by decide) 1 0 rfl rfl rfl rfl rfl hl.1 (Nat.le_of_ble_eq_true rfl) dX1_marchSteps_15 ⟨Nat.le_of_ble_eq_true rfl, Nat.le_of_ble_eq_true rfl⟩ (fun r_2 u_2 H locs hw hP hD hS => ?_)
        have hP : va_P g.1 vwCl [(P, .inr (1, [.ref Pa, .ref Pb, .ref Pc, .ref Pd, .int (nI hs), .int (nI np), .int (nI nm), .int (nI nw)])), (Pc, .inl (g.2.1.1, 12, .inl (zf mp)))] _ := hP
        have hD : va_D A [(P, .inr (1, [.ref Pa, .ref Pb, .ref Pc, .ref Pd, .int (nI hs), .int (nI np), .int (nI nm), .int (nI nw)])), (Pc, .inl (g.2.1.1, 12, .inl (zf mp)))] := hD
        have hr_2 := hw
        have hr_2 : r_2 = nI (mp (3 * i + 0)) := hr_2
        subst hr_2
        have hq_3 := hmp (3 * i + 0)
        refine lv_istore (lv' := [(4, .int (nI (mp (3 * i + 0)))), (0, .ref P), (1, .int (nI mi)), (2, .int (nI (zSm (zMs mp mi) i))), (3, .int (nI i))]) hx hb dX1_marchSteps_18 hl (by decide) rfl (fun ls hl => ?_)
        refine lv_iload_n hx hb dX1_marchSteps_20 rfl (lv_at hl 2 rfl) ?_
        refine lv_iload hx hb dX1_marchSteps_21 (lv_at hl 0 rfl) ?_
        refine zz_icmp_lt (tgt := 48) hx hb dX1_marchSteps_23 (by decide) (zi_n mi) (zi_n (mp (3 * i + 0))) (by omega) (by omega) (fun c_4 => ?_) (fun c_4 => ?_)
        · refine lv_iinc (v := nI (i + 1)) (lv' := [(3, .int (nI (i + 1))), (4, .int (nI (mp (3 * i + 0)))), (0, .ref P), (1, .int (nI mi)), (2, .int (nI (zSm (zMs mp mi) i)))]) hx hb dX1_marchSteps_48 hl (k := 4) rfl (zi_eq (zi_add (zi_n i) (zi_c 1 rfl)) (zi_n (i + 1)) (by omega)) (by decide) rfl (fun ls hl => ?_)
          refine lv_goto (tgt := 4) hx hb dX1_marchSteps_51 (by decide) ?_
          have eq_5 : nI (zSm (zMs mp mi) i) = nI (zSm (zMs mp mi) (i + 1)) := by first | (rw [zSm, zMs, if_pos (by omega)]) | (rw [zSm, zMs, if_neg (by omega), Nat.add_zero])
          have hl : lv_has ls 5 [(3, .int (nI (i + 1))), (4, .int (nI (mp (3 * i + 0)))), (0, .ref P), (1, .int (nI mi)), (2, .int (nI (zSm (zMs mp mi) (i + 1))))] := Eq.mp (congrArg (fun z => lv_has ls 5 [(3, .int (nI (i + 1))), (4, .int (nI (mp (3 * i + 0)))), (0, .ref P), (1, .int (nI mi)), (2, .int (z))]) eq_5) hl
          exact ih4 (i + 1) _ _ _ (show (i + 1) ≤ nm from by omega) (by omega) hP hD hS (lv_sub hl [2, 3, 4, 0] rfl)
        · refine lv_iload_n hx hb dX1_marchSteps_26 rfl (lv_at hl 2 rfl) ?_
          refine lv_iload hx hb dX1_marchSteps_27 (lv_at hl 0 rfl) ?_
          refine lv_aload_n hx hb dX1_marchSteps_29 rfl (lv_at hl 1 rfl) ?_
          refine lv_iload_n hx hb dX1_marchSteps_30 rfl (lv_at hl 4 rfl) ?_
          refine lv_iconst (v := 1) hx hb dX1_marchSteps_31 (by decide) ?_
          refine zz_callI (wr := []) (wc := [(P, .inr (1, [.ref Pa, .ref Pb, .ref Pc, .ref Pd, .int (nI hs), .int (nI np), .int (nI nm), .int (nI nw)])), (Pc, .inl (g.2.1.1, 12, .inl (zf mp)))]) (As := [.int (nI i), .int (nI 1)]) (rest := [.int (nI (mp (3 * i + 0))), .int (nI mi)]) F hK hE hA hP hD hS (c_X1_marchPart l g (P := P) (Pa := Pa) (Pb := Pb) (Pc := Pc) (Pd := Pd) (hs := hs) (np := np) (nm := nm) (nw := nw) (mp := mp) (k := i) (w := 1) (hk := by first | assumption | omega) (hw3 := by first | assumption | omega)) (cwV 2 hts gX1_marchSteps_X1_marchPart rfl rfl rfl (by decide +kernel) ⟨Nat.le_of_ble_eq_true rfl, Nat.le_of_ble_eq_true rfl⟩) [0, 1] [] rfl rfl (by decide) (by decide) (by decide) 1 0 rfl rfl rfl rfl rfl hl.1 (Nat.le_of_ble_eq_true rfl) dX1_marchSteps_32 ⟨Nat.le_of_ble_eq_true rfl, Nat.le_of_ble_eq_true rfl⟩ (fun r_6 u_6 H locs hw hP hD hS => ?_)
          have hP : va_P g.1 vwCl [(P, .inr (1, [.ref Pa, .ref Pb, .ref Pc, .ref Pd, .int (nI hs), .int (nI np), .int (nI nm), .int (nI nw)])), (Pc, .inl (g.2.1.1, 12, .inl (zf mp)))] _ := hP
          have hD : va_D A [(P, .inr (1, [.ref Pa, .ref Pb, .ref Pc, .ref Pd, .int (nI hs), .int (nI np), .int (nI nm), .int (nI nw)])), (Pc, .inl (g.2.1.1, 12, .inl (zf mp)))] := hD
          have hr_6 := hw
          have hr_6 : r_6 = nI (mp (3 * i + 1)) := hr_6
          subst hr_6
          have hq_7 := hmp (3 * i + 1)
          refine lv_iadd hx hb dX1_marchSteps_35 ?_
          refine zz_icmp_ge (tgt := 48) hx hb dX1_marchSteps_36 (by decide) (zi_n mi) (zi_add (zi_n (mp (3 * i + 0))) (zi_n (mp (3 * i + 1)))) (by omega) (by omega) (fun c_8 => ?_) (fun c_8 => ?_)
          · refine lv_iinc (v := nI (i + 1)) (lv' := [(3, .int (nI (i + 1))), (4, .int (nI (mp (3 * i + 0)))), (0, .ref P), (1, .int (nI mi)), (2, .int (nI (zSm (zMs mp mi) i)))]) hx hb dX1_marchSteps_48 hl (k := 4) rfl (zi_eq (zi_add (zi_n i) (zi_c 1 rfl)) (zi_n (i + 1)) (by omega)) (by decide) rfl (fun ls hl => ?_)
            refine lv_goto (tgt := 4) hx hb dX1_marchSteps_51 (by decide) ?_
            have eq_9 : nI (zSm (zMs mp mi) i) = nI (zSm (zMs mp mi) (i + 1)) := by first | (rw [zSm, zMs, if_pos (by omega)]) | (rw [zSm, zMs, if_neg (by omega), Nat.add_zero])
            have hl : lv_has ls 5 [(3, .int (nI (i + 1))), (4, .int (nI (mp (3 * i + 0)))), (0, .ref P), (1, .int (nI mi)), (2, .int (nI (zSm (zMs mp mi) (i + 1))))] := Eq.mp (congrArg (fun z => lv_has ls 5 [(3, .int (nI (i + 1))), (4, .int (nI (mp (3 * i + 0)))), (0, .ref P), (1, .int (nI mi)), (2, .int (z))]) eq_9) hl
            exact ih4 (i + 1) _ _ _ (show (i + 1) ≤ nm from by omega) (by omega) hP hD hS (lv_sub hl [2, 3, 4, 0] rfl)
          · refine lv_iload_n hx hb dX1_marchSteps_39 rfl (lv_at hl 3 rfl) ?_
            refine lv_aload_n hx hb dX1_marchSteps_40 rfl (lv_at hl 1 rfl) ?_
            refine lv_iload_n hx hb dX1_marchSteps_41 rfl (lv_at hl 4 rfl) ?_
            refine lv_iconst (v := 2) hx hb dX1_marchSteps_42 (by decide) ?_
            refine zz_callI (wr := []) (wc := [(P, .inr (1, [.ref Pa, .ref Pb, .ref Pc, .ref Pd, .int (nI hs), .int (nI np), .int (nI nm), .int (nI nw)])), (Pc, .inl (g.2.1.1, 12, .inl (zf mp)))]) (As := [.int (nI i), .int (nI 2)]) (rest := [.int (nI (zSm (zMs mp mi) i))]) F hK hE hA hP hD hS (c_X1_marchPart l g (P := P) (Pa := Pa) (Pb := Pb) (Pc := Pc) (Pd := Pd) (hs := hs) (np := np) (nm := nm) (nw := nw) (mp := mp) (k := i) (w := 2) (hk := by first | assumption | omega) (hw3 := by first | assumption | omega)) (cwV 2 hts gX1_marchSteps_X1_marchPart rfl rfl rfl (by decide +kernel) ⟨Nat.le_of_ble_eq_true rfl, Nat.le_of_ble_eq_true rfl⟩) [0, 1] [] rfl rfl (by decide) (by decide) (by decide) 1 0 rfl rfl rfl rfl rfl hl.1 (Nat.le_of_ble_eq_true rfl) dX1_marchSteps_43 ⟨Nat.le_of_ble_eq_true rfl, Nat.le_of_ble_eq_true rfl⟩ (fun r_10 u_10 H locs hw hP hD hS => ?_)
            have hP : va_P g.1 vwCl [(P, .inr (1, [.ref Pa, .ref Pb, .ref Pc, .ref Pd, .int (nI hs), .int (nI np), .int (nI nm), .int (nI nw)])), (Pc, .inl (g.2.1.1, 12, .inl (zf mp)))] _ := hP
            have hD : va_D A [(P, .inr (1, [.ref Pa, .ref Pb, .ref Pc, .ref Pd, .int (nI hs), .int (nI np), .int (nI nm), .int (nI nw)])), (Pc, .inl (g.2.1.1, 12, .inl (zf mp)))] := hD
            have hr_10 := hw
            have hr_10 : r_10 = nI (mp (3 * i + 2)) := hr_10
            subst hr_10
            have hq_11 := hmp (3 * i + 2)
            refine lv_iadd hx hb dX1_marchSteps_46 ?_
            refine zz_topi (y := nI ((zSm (zMs mp mi) i) + (mp (3 * i + 2)))) (zi_eq (zi_add (zi_n (zSm (zMs mp mi) i)) (zi_n (mp (3 * i + 2)))) (zi_n ((zSm (zMs mp mi) i) + (mp (3 * i + 2)))) (by omega)) ?_
            refine lv_istore_n (lv' := [(2, .int (nI ((zSm (zMs mp mi) i) + (mp (3 * i + 2))))), (4, .int (nI (mp (3 * i + 0)))), (0, .ref P), (1, .int (nI mi)), (3, .int (nI i))]) hx hb dX1_marchSteps_47 rfl hl (by decide) rfl (fun ls hl => ?_)
            refine lv_iinc (v := nI (i + 1)) (lv' := [(3, .int (nI (i + 1))), (2, .int (nI ((zSm (zMs mp mi) i) + (mp (3 * i + 2))))), (4, .int (nI (mp (3 * i + 0)))), (0, .ref P), (1, .int (nI mi))]) hx hb dX1_marchSteps_48 hl (k := 4) rfl (zi_eq (zi_add (zi_n i) (zi_c 1 rfl)) (zi_n (i + 1)) (by omega)) (by decide) rfl (fun ls hl => ?_)
            refine lv_goto (tgt := 4) hx hb dX1_marchSteps_51 (by decide) ?_
            have eq_12 : nI ((zSm (zMs mp mi) i) + (mp (3 * i + 2))) = nI (zSm (zMs mp mi) (i + 1)) := by first | (rw [zSm, zMs, if_pos (by omega)]) | (rw [zSm, zMs, if_neg (by omega), Nat.add_zero])
            have hl : lv_has ls 5 [(3, .int (nI (i + 1))), (2, .int (nI (zSm (zMs mp mi) (i + 1)))), (4, .int (nI (mp (3 * i + 0)))), (0, .ref P), (1, .int (nI mi))] := Eq.mp (congrArg (fun z => lv_has ls 5 [(3, .int (nI (i + 1))), (2, .int (z)), (4, .int (nI (mp (3 * i + 0)))), (0, .ref P), (1, .int (nI mi))]) eq_12) hl
            exact ih4 (i + 1) _ _ _ (show (i + 1) ≤ nm from by omega) (by omega) hP hD hS (lv_sub hl [3, 4, 1, 0] rfl)
  exact hcut4 ((nm - 0) + 1) 0 _ _ _ (show 0 ≤ nm from by omega) (by omega) hP hD hS (lv_sub hl [2, 3, 1, 0] rfl)

set_option maxHeartbeats 4000000 in
set_option maxRecDepth 100000 in
theorem c_X0_begin (l : Launch) (g : zG) (T Ta Tb Tc : Nat) (mi st si : Nat) (dn lf tk : Nat → Nat) (s0 s1 : Nat) : zV l yX0_begin wsX0_begin 0 0 0 0 g [.ref T, .int (nI s0), .int (nI s1)] [(T, .inr (0, [.ref Ta, .ref Tb, .ref Tc, .int (nI mi), .int (nI st), .int (nI si)])), (Ta, .inl (g.2.1.1, 6, .inl (zf dn))), (Tb, .inl (g.2.1.1, 6, .inl (zf lf))), (Tc, .inl (g.2.1.1, 6, .inl (zf tk)))] (fun (u : Unit) => True) (fun (u : Unit) => [(T, .inr (0, [.ref Ta, .ref Tb, .ref Tc, .int (nI 0), .int (nI s0), .int (nI s1)])), (Ta, .inl (g.2.1.1, 6, .inl (zf (fun _ => 0)))), (Tb, .inl (g.2.1.1, 6, .inl (zf (fun _ => 0)))), (Tc, .inl (g.2.1.1, 6, .inl (zf (fun _ => 0))))]) := by
  refine zz_bodyV (cc := cX0_begin) (nL := 4) (own := RX0) (by decide) rfl rfl (Nat.le_of_ble_eq_true rfl) ?_
  intro pP eE s mM below meth cC A Q ls F hin hA hK hE hP hD hl hret
  have hS : va_S A s.heap s.heap [] := va_S.rf
  obtain ⟨hx, hb, hml, hown, hts⟩ := id F
  have hiX0 : ∀ w ∈ u_ws RX0 TX0 6, w ∈ wsX0_begin := by decide +kernel
  have hf0 := hts (.fieldLink RX0 21 "StepClock$Moment" "minute" "I") (by decide +kernel)
  have hf1 := hts (.fieldLink RX0 25 "StepClock$Moment" "steps" "I") (by decide +kernel)
  have hf2 := hts (.fieldLink RX0 28 "StepClock$Moment" "sitting" "I") (by decide +kernel)
  have hf3 := hts (.fieldLink RX0 9 "StepClock$Moment" "done" "[I") (by decide +kernel)
  have hf4 := hts (.fieldLink RX0 15 "StepClock$Moment" "left" "[I") (by decide +kernel)
  have hf5 := hts (.fieldLink RX0 18 "StepClock$Moment" "taken" "[I") (by decide +kernel)
  have hl : lv_has ls 4 [(0, .ref T), (1, .int (nI s0)), (2, .int (nI s1))] := hl
  refine lv_aload_n hx hb dX0_begin_0 rfl (lv_at hl 0 rfl) ?_
  refine lv_iconst (v := 0) hx hb dX0_begin_1 (by decide) ?_
  refine va_put (D := g.1) (ci := 0) (v := .int 0) (ty := .int) (C := RX0) (T := TX0) (N := 6) hx hb hts hiX0 tyX0 tyX0_ok nmX0 hown hK.1 hP hD hS 0 rfl rfl 3 (by decide) hf0 (fun _ h9 => h9) rfl (by decide +kernel) rfl rfl (Nat.le_of_ble_eq_true rfl) dX0_begin_2 (fun H locs hP hD hS => ?_)
  have hP : va_P g.1 vwCl [(T, .inr (0, [.ref Ta, .ref Tb, .ref Tc, .int 0, .int (nI st), .int (nI si)])), (Ta, .inl (g.2.1.1, 6, .inl (zf dn))), (Tb, .inl (g.2.1.1, 6, .inl (zf lf))), (Tc, .inl (g.2.1.1, 6, .inl (zf tk)))] _ := hP
  have hD : va_D A [(T, .inr (0, [.ref Ta, .ref Tb, .ref Tc, .int 0, .int (nI st), .int (nI si)])), (Ta, .inl (g.2.1.1, 6, .inl (zf dn))), (Tb, .inl (g.2.1.1, 6, .inl (zf lf))), (Tc, .inl (g.2.1.1, 6, .inl (zf tk)))] := hD
  refine lv_aload_n hx hb dX0_begin_5 rfl (lv_at hl 0 rfl) ?_
  refine lv_iload_n hx hb dX0_begin_6 rfl (lv_at hl 1 rfl) ?_
  refine va_put (D := g.1) (ci := 0) (v := .int (nI s0)) (ty := .int) (C := RX0) (T := TX0) (N := 6) hx hb hts hiX0 tyX0 tyX0_ok nmX0 hown hK.1 hP hD hS 0 rfl rfl 4 (by decide) hf1 (fun _ h9 => h9) rfl (by decide +kernel) rfl rfl (Nat.le_of_ble_eq_true rfl) dX0_begin_7 (fun H locs hP hD hS => ?_)
  have hP : va_P g.1 vwCl [(T, .inr (0, [.ref Ta, .ref Tb, .ref Tc, .int 0, .int (nI s0), .int (nI si)])), (Ta, .inl (g.2.1.1, 6, .inl (zf dn))), (Tb, .inl (g.2.1.1, 6, .inl (zf lf))), (Tc, .inl (g.2.1.1, 6, .inl (zf tk)))] _ := hP
  have hD : va_D A [(T, .inr (0, [.ref Ta, .ref Tb, .ref Tc, .int 0, .int (nI s0), .int (nI si)])), (Ta, .inl (g.2.1.1, 6, .inl (zf dn))), (Tb, .inl (g.2.1.1, 6, .inl (zf lf))), (Tc, .inl (g.2.1.1, 6, .inl (zf tk)))] := hD
  refine lv_aload_n hx hb dX0_begin_10 rfl (lv_at hl 0 rfl) ?_
  refine lv_iload_n hx hb dX0_begin_11 rfl (lv_at hl 2 rfl) ?_
  refine va_put (D := g.1) (ci := 0) (v := .int (nI s1)) (ty := .int) (C := RX0) (T := TX0) (N := 6) hx hb hts hiX0 tyX0 tyX0_ok nmX0 hown hK.1 hP hD hS 0 rfl rfl 5 (by decide) hf2 (fun _ h9 => h9) rfl (by decide +kernel) rfl rfl (Nat.le_of_ble_eq_true rfl) dX0_begin_12 (fun H locs hP hD hS => ?_)
  have hP : va_P g.1 vwCl [(T, .inr (0, [.ref Ta, .ref Tb, .ref Tc, .int 0, .int (nI s0), .int (nI s1)])), (Ta, .inl (g.2.1.1, 6, .inl (zf dn))), (Tb, .inl (g.2.1.1, 6, .inl (zf lf))), (Tc, .inl (g.2.1.1, 6, .inl (zf tk)))] _ := hP
  have hD : va_D A [(T, .inr (0, [.ref Ta, .ref Tb, .ref Tc, .int 0, .int (nI s0), .int (nI s1)])), (Ta, .inl (g.2.1.1, 6, .inl (zf dn))), (Tb, .inl (g.2.1.1, 6, .inl (zf lf))), (Tc, .inl (g.2.1.1, 6, .inl (zf tk)))] := hD
  refine lv_iconst (v := 0) hx hb dX0_begin_15 (by decide) ?_
  refine lv_istore_n (lv' := [(3, .int 0), (0, .ref T), (1, .int (nI s0)), (2, .int (nI s1))]) hx hb dX0_begin_16 rfl hl (by decide) rfl (fun ls hl => ?_)
  have hcut17 : ∀ (fu : Nat) (i : Nat) (H : Heap) (locs : List Loc) (ls : Array Slot), (i ≤ 6) → (6 - i) < fu → va_P g.1 vwCl [(T, .inr (0, [.ref Ta, .ref Tb, .ref Tc, .int 0, .int (nI s0), .int (nI s1)])), (Ta, .inl (g.2.1.1, 6, .inl (zf (zcp i (fun _ => 0) dn)))), (Tb, .inl (g.2.1.1, 6, .inl (zf (zcp i (fun _ => 0) lf)))), (Tc, .inl (g.2.1.1, 6, .inl (zf (zcp i (fun _ => 0) tk))))] H → va_D A [(T, .inr (0, [.ref Ta, .ref Tb, .ref Tc, .int 0, .int (nI s0), .int (nI s1)])), (Ta, .inl (g.2.1.1, 6, .inl (zf (zcp i (fun _ => 0) dn)))), (Tb, .inl (g.2.1.1, 6, .inl (zf (zcp i (fun _ => 0) lf)))), (Tc, .inl (g.2.1.1, 6, .inl (zf (zcp i (fun _ => 0) tk))))] → va_S A s.heap H locs → lv_has ls 4 [(0, .ref T), (1, .int (nI s0)), (2, .int (nI s1)), (3, .int (nI i))] → W pP l eE { frames := 0, cells := 0, slots := 0, locals := 0 } s mM ([.ref T, .int (nI s0), .int (nI s1)] : List Value).toArray below meth cC H locs 0 0 Q (F0 mM 17 ls []) := by
    intro fu
    induction fu with
    | zero =>
      intro i H locs ls hi hm
      exact absurd hm (Nat.not_lt_zero _)
    | succ fu ih17 =>
      intro i H locs ls hi hm hP hD hS hl
      refine lv_iload_n hx hb dX0_begin_17 rfl (lv_at hl 3 rfl) ?_
      refine lv_bipush (v := 6) hx hb dX0_begin_18 (by decide) ?_
      refine zz_icmp_ge (tgt := 50) hx hb dX0_begin_20 (by decide) (zi_n i) (zi_c 6 rfl) (by omega) (by omega) (fun c_1 => ?_) (fun c_1 => ?_)
      · have hP : va_P g.1 vwCl [(T, .inr (0, [.ref Ta, .ref Tb, .ref Tc, .int (nI 0), .int (nI s0), .int (nI s1)])), (Ta, .inl (g.2.1.1, 6, .inl (zf (zcp i (fun _ => 0) dn)))), (Tb, .inl (g.2.1.1, 6, .inl (zf (zcp i (fun _ => 0) lf)))), (Tc, .inl (g.2.1.1, 6, .inl (zf (zcp i (fun _ => 0) tk))))] _ := hP
        have hD : va_D A [(T, .inr (0, [.ref Ta, .ref Tb, .ref Tc, .int (nI 0), .int (nI s0), .int (nI s1)])), (Ta, .inl (g.2.1.1, 6, .inl (zf (zcp i (fun _ => 0) dn)))), (Tb, .inl (g.2.1.1, 6, .inl (zf (zcp i (fun _ => 0) lf)))), (Tc, .inl (g.2.1.1, 6, .inl (zf (zcp i (fun _ => 0) tk))))] := hD
        have eq_2 : ∀ k, k < 6 → (zf (zcp i (fun _ => 0) dn)) k = (zf (fun _ => 0)) k := by intro k hk; simp only [zf, zcp, if_pos (show k < i by omega)]
        have hD := hD.set (p := 1) (e := .inl (g.2.1.1, 6, .inl (zf (fun _ => 0)))) rfl
        have hP := zz_extP hP 1 (zf (fun _ => 0)) rfl eq_2
        have hP : va_P g.1 vwCl [(T, .inr (0, [.ref Ta, .ref Tb, .ref Tc, .int (nI 0), .int (nI s0), .int (nI s1)])), (Ta, .inl (g.2.1.1, 6, .inl (zf (fun _ => 0)))), (Tb, .inl (g.2.1.1, 6, .inl (zf (zcp i (fun _ => 0) lf)))), (Tc, .inl (g.2.1.1, 6, .inl (zf (zcp i (fun _ => 0) tk))))] _ := hP
        have hD : va_D A [(T, .inr (0, [.ref Ta, .ref Tb, .ref Tc, .int (nI 0), .int (nI s0), .int (nI s1)])), (Ta, .inl (g.2.1.1, 6, .inl (zf (fun _ => 0)))), (Tb, .inl (g.2.1.1, 6, .inl (zf (zcp i (fun _ => 0) lf)))), (Tc, .inl (g.2.1.1, 6, .inl (zf (zcp i (fun _ => 0) tk))))] := hD
        have eq_4 : ∀ k, k < 6 → (zf (zcp i (fun _ => 0) lf)) k = (zf (fun _ => 0)) k := by intro k hk; simp only [zf, zcp, if_pos (show k < i by omega)]
        have hD := hD.set (p := 2) (e := .inl (g.2.1.1, 6, .inl (zf (fun _ => 0)))) rfl
        have hP := zz_extP hP 2 (zf (fun _ => 0)) rfl eq_4
        have hP : va_P g.1 vwCl [(T, .inr (0, [.ref Ta, .ref Tb, .ref Tc, .int (nI 0), .int (nI s0), .int (nI s1)])), (Ta, .inl (g.2.1.1, 6, .inl (zf (fun _ => 0)))), (Tb, .inl (g.2.1.1, 6, .inl (zf (fun _ => 0)))), (Tc, .inl (g.2.1.1, 6, .inl (zf (zcp i (fun _ => 0) tk))))] _ := hP
        have hD : va_D A [(T, .inr (0, [.ref Ta, .ref Tb, .ref Tc, .int (nI 0), .int (nI s0), .int (nI s1)])), (Ta, .inl (g.2.1.1, 6, .inl (zf (fun _ => 0)))), (Tb, .inl (g.2.1.1, 6, .inl (zf (fun _ => 0)))), (Tc, .inl (g.2.1.1, 6, .inl (zf (zcp i (fun _ => 0) tk))))] := hD
        have eq_6 : ∀ k, k < 6 → (zf (zcp i (fun _ => 0) tk)) k = (zf (fun _ => 0)) k := by intro k hk; simp only [zf, zcp, if_pos (show k < i by omega)]
        have hD := hD.set (p := 3) (e := .inl (g.2.1.1, 6, .inl (zf (fun _ => 0)))) rfl
        have hP := zz_extP hP 3 (zf (fun _ => 0)) rfl eq_6
        have hP : va_P g.1 vwCl [(T, .inr (0, [.ref Ta, .ref Tb, .ref Tc, .int (nI 0), .int (nI s0), .int (nI s1)])), (Ta, .inl (g.2.1.1, 6, .inl (zf (fun _ => 0)))), (Tb, .inl (g.2.1.1, 6, .inl (zf (fun _ => 0)))), (Tc, .inl (g.2.1.1, 6, .inl (zf (fun _ => 0))))] _ := hP
        have hD : va_D A [(T, .inr (0, [.ref Ta, .ref Tb, .ref Tc, .int (nI 0), .int (nI s0), .int (nI s1)])), (Ta, .inl (g.2.1.1, 6, .inl (zf (fun _ => 0)))), (Tb, .inl (g.2.1.1, 6, .inl (zf (fun _ => 0)))), (Tc, .inl (g.2.1.1, 6, .inl (zf (fun _ => 0))))] := hD
        exact hret 50 _ _ _ () dX0_begin_50 hP hD hS (show True from by trivial)
      · refine lv_aload_n hx hb dX0_begin_23 rfl (lv_at hl 0 rfl) ?_
        refine va_get (D := g.1) (ci := 0) (v := .ref Ta) (C := RX0) (T := TX0) (N := 6) hx hb hts hiX0 hown hK.1 hP 0 rfl rfl 0 (by decide) hf3 (fun _ h9 => h9) rfl dX0_begin_24 ?_
        refine lv_iload_n hx hb dX0_begin_27 rfl (lv_at hl 3 rfl) ?_
        refine lv_iconst (v := 0) hx hb dX0_begin_28 (by decide) ?_
        refine zz_iast hx hb hK.1 hP hD hS 1 0 rfl rfl i rfl (by omega) (by decide) dX0_begin_29 (fun H locs hP hD hS => ?_)
        have hP : va_P g.1 vwCl [(T, .inr (0, [.ref Ta, .ref Tb, .ref Tc, .int 0, .int (nI s0), .int (nI s1)])), (Ta, .inl (g.2.1.1, 6, .inl (upd (zf (zcp i (fun _ => 0) dn)) i (nI 0)))), (Tb, .inl (g.2.1.1, 6, .inl (zf (zcp i (fun _ => 0) lf)))), (Tc, .inl (g.2.1.1, 6, .inl (zf (zcp i (fun _ => 0) tk))))] _ := hP
        have hD : va_D A [(T, .inr (0, [.ref Ta, .ref Tb, .ref Tc, .int 0, .int (nI s0), .int (nI s1)])), (Ta, .inl (g.2.1.1, 6, .inl (upd (zf (zcp i (fun _ => 0) dn)) i (nI 0)))), (Tb, .inl (g.2.1.1, 6, .inl (zf (zcp i (fun _ => 0) lf)))), (Tc, .inl (g.2.1.1, 6, .inl (zf (zcp i (fun _ => 0) tk))))] := hD
        rw [zf_upd] at hP hD
        refine lv_aload_n hx hb dX0_begin_30 rfl (lv_at hl 0 rfl) ?_
        refine va_get (D := g.1) (ci := 0) (v := .ref Tb) (C := RX0) (T := TX0) (N := 6) hx hb hts hiX0 hown hK.1 hP 0 rfl rfl 1 (by decide) hf4 (fun _ h9 => h9) rfl dX0_begin_31 ?_
        refine lv_iload_n hx hb dX0_begin_34 rfl (lv_at hl 3 rfl) ?_
        refine lv_iconst (v := 0) hx hb dX0_begin_35 (by decide) ?_
        refine zz_iast hx hb hK.1 hP hD hS 2 0 rfl rfl i rfl (by omega) (by decide) dX0_begin_36 (fun H locs hP hD hS => ?_)
        have hP : va_P g.1 vwCl [(T, .inr (0, [.ref Ta, .ref Tb, .ref Tc, .int 0, .int (nI s0), .int (nI s1)])), (Ta, .inl (g.2.1.1, 6, .inl (zf (zu (zcp i (fun _ => 0) dn) i 0)))), (Tb, .inl (g.2.1.1, 6, .inl (upd (zf (zcp i (fun _ => 0) lf)) i (nI 0)))), (Tc, .inl (g.2.1.1, 6, .inl (zf (zcp i (fun _ => 0) tk))))] _ := hP
        have hD : va_D A [(T, .inr (0, [.ref Ta, .ref Tb, .ref Tc, .int 0, .int (nI s0), .int (nI s1)])), (Ta, .inl (g.2.1.1, 6, .inl (zf (zu (zcp i (fun _ => 0) dn) i 0)))), (Tb, .inl (g.2.1.1, 6, .inl (upd (zf (zcp i (fun _ => 0) lf)) i (nI 0)))), (Tc, .inl (g.2.1.1, 6, .inl (zf (zcp i (fun _ => 0) tk))))] := hD
        rw [zf_upd] at hP hD
        refine lv_aload_n hx hb dX0_begin_37 rfl (lv_at hl 0 rfl) ?_
        refine va_get (D := g.1) (ci := 0) (v := .ref Tc) (C := RX0) (T := TX0) (N := 6) hx hb hts hiX0 hown hK.1 hP 0 rfl rfl 2 (by decide) hf5 (fun _ h9 => h9) rfl dX0_begin_38 ?_
        refine lv_iload_n hx hb dX0_begin_41 rfl (lv_at hl 3 rfl) ?_
        refine lv_iconst (v := 0) hx hb dX0_begin_42 (by decide) ?_
        refine zz_iast hx hb hK.1 hP hD hS 3 0 rfl rfl i rfl (by omega) (by decide) dX0_begin_43 (fun H locs hP hD hS => ?_)
        have hP : va_P g.1 vwCl [(T, .inr (0, [.ref Ta, .ref Tb, .ref Tc, .int 0, .int (nI s0), .int (nI s1)])), (Ta, .inl (g.2.1.1, 6, .inl (zf (zu (zcp i (fun _ => 0) dn) i 0)))), (Tb, .inl (g.2.1.1, 6, .inl (zf (zu (zcp i (fun _ => 0) lf) i 0)))), (Tc, .inl (g.2.1.1, 6, .inl (upd (zf (zcp i (fun _ => 0) tk)) i (nI 0))))] _ := hP
        have hD : va_D A [(T, .inr (0, [.ref Ta, .ref Tb, .ref Tc, .int 0, .int (nI s0), .int (nI s1)])), (Ta, .inl (g.2.1.1, 6, .inl (zf (zu (zcp i (fun _ => 0) dn) i 0)))), (Tb, .inl (g.2.1.1, 6, .inl (zf (zu (zcp i (fun _ => 0) lf) i 0)))), (Tc, .inl (g.2.1.1, 6, .inl (upd (zf (zcp i (fun _ => 0) tk)) i (nI 0))))] := hD
        rw [zf_upd] at hP hD
        refine lv_iinc (v := nI (i + 1)) (lv' := [(3, .int (nI (i + 1))), (0, .ref T), (1, .int (nI s0)), (2, .int (nI s1))]) hx hb dX0_begin_44 hl (k := 3) rfl (zi_eq (zi_add (zi_n i) (zi_c 1 rfl)) (zi_n (i + 1)) (by omega)) (by decide) rfl (fun ls hl => ?_)
        refine lv_goto (tgt := 17) hx hb dX0_begin_47 (by decide) ?_
        have eq_8 : (zu (zcp i (fun _ => 0) dn) i 0) = (zcp (i + 1) (fun _ => 0) dn) := by exact zcp_s (fun _ => 0) _ i
        have hP : va_P g.1 vwCl [(T, .inr (0, [.ref Ta, .ref Tb, .ref Tc, .int 0, .int (nI s0), .int (nI s1)])), (Ta, .inl (g.2.1.1, 6, .inl (zf (zcp (i + 1) (fun _ => 0) dn)))), (Tb, .inl (g.2.1.1, 6, .inl (zf (zu (zcp i (fun _ => 0) lf) i 0)))), (Tc, .inl (g.2.1.1, 6, .inl (zf (zu (zcp i (fun _ => 0) tk) i 0))))] _ := Eq.mp (congrArg (fun z => va_P g.1 vwCl [(T, .inr (0, [.ref Ta, .ref Tb, .ref Tc, .int 0, .int (nI s0), .int (nI s1)])), (Ta, .inl (g.2.1.1, 6, .inl (zf z))), (Tb, .inl (g.2.1.1, 6, .inl (zf (zu (zcp i (fun _ => 0) lf) i 0)))), (Tc, .inl (g.2.1.1, 6, .inl (zf (zu (zcp i (fun _ => 0) tk) i 0))))] _) eq_8) hP
        have hD : va_D A [(T, .inr (0, [.ref Ta, .ref Tb, .ref Tc, .int 0, .int (nI s0), .int (nI s1)])), (Ta, .inl (g.2.1.1, 6, .inl (zf (zcp (i + 1) (fun _ => 0) dn)))), (Tb, .inl (g.2.1.1, 6, .inl (zf (zu (zcp i (fun _ => 0) lf) i 0)))), (Tc, .inl (g.2.1.1, 6, .inl (zf (zu (zcp i (fun _ => 0) tk) i 0))))] := Eq.mp (congrArg (fun z => va_D A [(T, .inr (0, [.ref Ta, .ref Tb, .ref Tc, .int 0, .int (nI s0), .int (nI s1)])), (Ta, .inl (g.2.1.1, 6, .inl (zf z))), (Tb, .inl (g.2.1.1, 6, .inl (zf (zu (zcp i (fun _ => 0) lf) i 0)))), (Tc, .inl (g.2.1.1, 6, .inl (zf (zu (zcp i (fun _ => 0) tk) i 0))))]) eq_8) hD
        have eq_9 : (zu (zcp i (fun _ => 0) lf) i 0) = (zcp (i + 1) (fun _ => 0) lf) := by exact zcp_s (fun _ => 0) _ i
        have hP : va_P g.1 vwCl [(T, .inr (0, [.ref Ta, .ref Tb, .ref Tc, .int 0, .int (nI s0), .int (nI s1)])), (Ta, .inl (g.2.1.1, 6, .inl (zf (zcp (i + 1) (fun _ => 0) dn)))), (Tb, .inl (g.2.1.1, 6, .inl (zf (zcp (i + 1) (fun _ => 0) lf)))), (Tc, .inl (g.2.1.1, 6, .inl (zf (zu (zcp i (fun _ => 0) tk) i 0))))] _ := Eq.mp (congrArg (fun z => va_P g.1 vwCl [(T, .inr (0, [.ref Ta, .ref Tb, .ref Tc, .int 0, .int (nI s0), .int (nI s1)])), (Ta, .inl (g.2.1.1, 6, .inl (zf (zcp (i + 1) (fun _ => 0) dn)))), (Tb, .inl (g.2.1.1, 6, .inl (zf z))), (Tc, .inl (g.2.1.1, 6, .inl (zf (zu (zcp i (fun _ => 0) tk) i 0))))] _) eq_9) hP
        have hD : va_D A [(T, .inr (0, [.ref Ta, .ref Tb, .ref Tc, .int 0, .int (nI s0), .int (nI s1)])), (Ta, .inl (g.2.1.1, 6, .inl (zf (zcp (i + 1) (fun _ => 0) dn)))), (Tb, .inl (g.2.1.1, 6, .inl (zf (zcp (i + 1) (fun _ => 0) lf)))), (Tc, .inl (g.2.1.1, 6, .inl (zf (zu (zcp i (fun _ => 0) tk) i 0))))] := Eq.mp (congrArg (fun z => va_D A [(T, .inr (0, [.ref Ta, .ref Tb, .ref Tc, .int 0, .int (nI s0), .int (nI s1)])), (Ta, .inl (g.2.1.1, 6, .inl (zf (zcp (i + 1) (fun _ => 0) dn)))), (Tb, .inl (g.2.1.1, 6, .inl (zf z))), (Tc, .inl (g.2.1.1, 6, .inl (zf (zu (zcp i (fun _ => 0) tk) i 0))))]) eq_9) hD
        have eq_10 : (zu (zcp i (fun _ => 0) tk) i 0) = (zcp (i + 1) (fun _ => 0) tk) := by exact zcp_s (fun _ => 0) _ i
        have hP : va_P g.1 vwCl [(T, .inr (0, [.ref Ta, .ref Tb, .ref Tc, .int 0, .int (nI s0), .int (nI s1)])), (Ta, .inl (g.2.1.1, 6, .inl (zf (zcp (i + 1) (fun _ => 0) dn)))), (Tb, .inl (g.2.1.1, 6, .inl (zf (zcp (i + 1) (fun _ => 0) lf)))), (Tc, .inl (g.2.1.1, 6, .inl (zf (zcp (i + 1) (fun _ => 0) tk))))] _ := Eq.mp (congrArg (fun z => va_P g.1 vwCl [(T, .inr (0, [.ref Ta, .ref Tb, .ref Tc, .int 0, .int (nI s0), .int (nI s1)])), (Ta, .inl (g.2.1.1, 6, .inl (zf (zcp (i + 1) (fun _ => 0) dn)))), (Tb, .inl (g.2.1.1, 6, .inl (zf (zcp (i + 1) (fun _ => 0) lf)))), (Tc, .inl (g.2.1.1, 6, .inl (zf z)))] _) eq_10) hP
        have hD : va_D A [(T, .inr (0, [.ref Ta, .ref Tb, .ref Tc, .int 0, .int (nI s0), .int (nI s1)])), (Ta, .inl (g.2.1.1, 6, .inl (zf (zcp (i + 1) (fun _ => 0) dn)))), (Tb, .inl (g.2.1.1, 6, .inl (zf (zcp (i + 1) (fun _ => 0) lf)))), (Tc, .inl (g.2.1.1, 6, .inl (zf (zcp (i + 1) (fun _ => 0) tk))))] := Eq.mp (congrArg (fun z => va_D A [(T, .inr (0, [.ref Ta, .ref Tb, .ref Tc, .int 0, .int (nI s0), .int (nI s1)])), (Ta, .inl (g.2.1.1, 6, .inl (zf (zcp (i + 1) (fun _ => 0) dn)))), (Tb, .inl (g.2.1.1, 6, .inl (zf (zcp (i + 1) (fun _ => 0) lf)))), (Tc, .inl (g.2.1.1, 6, .inl (zf z)))]) eq_10) hD
        exact ih17 (i + 1) _ _ _ (show (i + 1) ≤ 6 from by omega) (by omega) hP hD hS (lv_sub hl [1, 2, 3, 0] rfl)
  have eq_11 : dn = (zcp 0 (fun _ => 0) dn) := by exact (zcp_0 _ _).symm
  have hP : va_P g.1 vwCl [(T, .inr (0, [.ref Ta, .ref Tb, .ref Tc, .int 0, .int (nI s0), .int (nI s1)])), (Ta, .inl (g.2.1.1, 6, .inl (zf (zcp 0 (fun _ => 0) dn)))), (Tb, .inl (g.2.1.1, 6, .inl (zf lf))), (Tc, .inl (g.2.1.1, 6, .inl (zf tk)))] _ := Eq.mp (congrArg (fun z => va_P g.1 vwCl [(T, .inr (0, [.ref Ta, .ref Tb, .ref Tc, .int 0, .int (nI s0), .int (nI s1)])), (Ta, .inl (g.2.1.1, 6, .inl (zf z))), (Tb, .inl (g.2.1.1, 6, .inl (zf lf))), (Tc, .inl (g.2.1.1, 6, .inl (zf tk)))] _) eq_11) hP
  have hD : va_D A [(T, .inr (0, [.ref Ta, .ref Tb, .ref Tc, .int 0, .int (nI s0), .int (nI s1)])), (Ta, .inl (g.2.1.1, 6, .inl (zf (zcp 0 (fun _ => 0) dn)))), (Tb, .inl (g.2.1.1, 6, .inl (zf lf))), (Tc, .inl (g.2.1.1, 6, .inl (zf tk)))] := Eq.mp (congrArg (fun z => va_D A [(T, .inr (0, [.ref Ta, .ref Tb, .ref Tc, .int 0, .int (nI s0), .int (nI s1)])), (Ta, .inl (g.2.1.1, 6, .inl (zf z))), (Tb, .inl (g.2.1.1, 6, .inl (zf lf))), (Tc, .inl (g.2.1.1, 6, .inl (zf tk)))]) eq_11) hD
  have eq_12 : lf = (zcp 0 (fun _ => 0) lf) := by exact (zcp_0 _ _).symm
  have hP : va_P g.1 vwCl [(T, .inr (0, [.ref Ta, .ref Tb, .ref Tc, .int 0, .int (nI s0), .int (nI s1)])), (Ta, .inl (g.2.1.1, 6, .inl (zf (zcp 0 (fun _ => 0) dn)))), (Tb, .inl (g.2.1.1, 6, .inl (zf (zcp 0 (fun _ => 0) lf)))), (Tc, .inl (g.2.1.1, 6, .inl (zf tk)))] _ := Eq.mp (congrArg (fun z => va_P g.1 vwCl [(T, .inr (0, [.ref Ta, .ref Tb, .ref Tc, .int 0, .int (nI s0), .int (nI s1)])), (Ta, .inl (g.2.1.1, 6, .inl (zf (zcp 0 (fun _ => 0) dn)))), (Tb, .inl (g.2.1.1, 6, .inl (zf z))), (Tc, .inl (g.2.1.1, 6, .inl (zf tk)))] _) eq_12) hP
  have hD : va_D A [(T, .inr (0, [.ref Ta, .ref Tb, .ref Tc, .int 0, .int (nI s0), .int (nI s1)])), (Ta, .inl (g.2.1.1, 6, .inl (zf (zcp 0 (fun _ => 0) dn)))), (Tb, .inl (g.2.1.1, 6, .inl (zf (zcp 0 (fun _ => 0) lf)))), (Tc, .inl (g.2.1.1, 6, .inl (zf tk)))] := Eq.mp (congrArg (fun z => va_D A [(T, .inr (0, [.ref Ta, .ref Tb, .ref Tc, .int 0, .int (nI s0), .int (nI s1)])), (Ta, .inl (g.2.1.1, 6, .inl (zf (zcp 0 (fun _ => 0) dn)))), (Tb, .inl (g.2.1.1, 6, .inl (zf z))), (Tc, .inl (g.2.1.1, 6, .inl (zf tk)))]) eq_12) hD
  have eq_13 : tk = (zcp 0 (fun _ => 0) tk) := by exact (zcp_0 _ _).symm
  have hP : va_P g.1 vwCl [(T, .inr (0, [.ref Ta, .ref Tb, .ref Tc, .int 0, .int (nI s0), .int (nI s1)])), (Ta, .inl (g.2.1.1, 6, .inl (zf (zcp 0 (fun _ => 0) dn)))), (Tb, .inl (g.2.1.1, 6, .inl (zf (zcp 0 (fun _ => 0) lf)))), (Tc, .inl (g.2.1.1, 6, .inl (zf (zcp 0 (fun _ => 0) tk))))] _ := Eq.mp (congrArg (fun z => va_P g.1 vwCl [(T, .inr (0, [.ref Ta, .ref Tb, .ref Tc, .int 0, .int (nI s0), .int (nI s1)])), (Ta, .inl (g.2.1.1, 6, .inl (zf (zcp 0 (fun _ => 0) dn)))), (Tb, .inl (g.2.1.1, 6, .inl (zf (zcp 0 (fun _ => 0) lf)))), (Tc, .inl (g.2.1.1, 6, .inl (zf z)))] _) eq_13) hP
  have hD : va_D A [(T, .inr (0, [.ref Ta, .ref Tb, .ref Tc, .int 0, .int (nI s0), .int (nI s1)])), (Ta, .inl (g.2.1.1, 6, .inl (zf (zcp 0 (fun _ => 0) dn)))), (Tb, .inl (g.2.1.1, 6, .inl (zf (zcp 0 (fun _ => 0) lf)))), (Tc, .inl (g.2.1.1, 6, .inl (zf (zcp 0 (fun _ => 0) tk))))] := Eq.mp (congrArg (fun z => va_D A [(T, .inr (0, [.ref Ta, .ref Tb, .ref Tc, .int 0, .int (nI s0), .int (nI s1)])), (Ta, .inl (g.2.1.1, 6, .inl (zf (zcp 0 (fun _ => 0) dn)))), (Tb, .inl (g.2.1.1, 6, .inl (zf (zcp 0 (fun _ => 0) lf)))), (Tc, .inl (g.2.1.1, 6, .inl (zf z)))]) eq_13) hD
  exact hcut17 ((6 - 0) + 1) 0 _ _ _ (show 0 ≤ 6 from by omega) (by omega) hP hD hS (lv_sub hl [1, 2, 3, 0] rfl)

set_option maxHeartbeats 4000000 in
set_option maxRecDepth 100000 in
theorem c_X0_become (l : Launch) (g : zG) (T Ta Tb Tc : Nat) (mi st si : Nat) (dn lf tk : Nat → Nat) (O Oa Ob Oc mi2 st2 si2 : Nat) (dn2 lf2 tk2 : Nat → Nat) : zV l yX0_become wsX0_become 1 22 0 0 g [.ref T, .ref O] [(T, .inr (0, [.ref Ta, .ref Tb, .ref Tc, .int (nI mi), .int (nI st), .int (nI si)])), (Ta, .inl (g.2.1.1, 6, .inl (zf dn))), (Tb, .inl (g.2.1.1, 6, .inl (zf lf))), (Tc, .inl (g.2.1.1, 6, .inl (zf tk))), (O, .inr (0, [.ref Oa, .ref Ob, .ref Oc, .int (nI mi2), .int (nI st2), .int (nI si2)])), (Oa, .inl (g.2.1.1, 6, .inl (zf dn2))), (Ob, .inl (g.2.1.1, 6, .inl (zf lf2))), (Oc, .inl (g.2.1.1, 6, .inl (zf tk2)))] (fun (u : Unit) => True) (fun (u : Unit) => [(T, .inr (0, [.ref Ta, .ref Tb, .ref Tc, .int (nI mi2), .int (nI st2), .int (nI si2)])), (Ta, .inl (g.2.1.1, 6, .inl (zf dn2))), (Tb, .inl (g.2.1.1, 6, .inl (zf lf2))), (Tc, .inl (g.2.1.1, 6, .inl (zf tk2))), (O, .inr (0, [.ref Oa, .ref Ob, .ref Oc, .int (nI mi2), .int (nI st2), .int (nI si2)])), (Oa, .inl (g.2.1.1, 6, .inl (zf dn2))), (Ob, .inl (g.2.1.1, 6, .inl (zf lf2))), (Oc, .inl (g.2.1.1, 6, .inl (zf tk2)))]) := by
  refine zz_bodyV (cc := cX0_become) (nL := 2) (own := RX0) (by decide) rfl rfl (Nat.le_of_ble_eq_true rfl) ?_
  intro pP eE s mM below meth cC A Q ls F hin hA hK hE hP hD hl hret
  have hS : va_S A s.heap s.heap [] := va_S.rf
  obtain ⟨hx, hb, hml, hown, hts⟩ := id F
  have hiX0 : ∀ w ∈ u_ws RX0 TX0 6, w ∈ wsX0_become := by decide +kernel
  have hf0 := hts (.fieldLink RX0 21 "StepClock$Moment" "minute" "I") (by decide +kernel)
  have hf1 := hts (.fieldLink RX0 25 "StepClock$Moment" "steps" "I") (by decide +kernel)
  have hf2 := hts (.fieldLink RX0 28 "StepClock$Moment" "sitting" "I") (by decide +kernel)
  have hf3 := hts (.fieldLink RX0 9 "StepClock$Moment" "done" "[I") (by decide +kernel)
  have hf4 := hts (.initialized RX4) (by decide +kernel)
  have hf5 := hts (.static yX4_copyRow) (by decide +kernel)
  have hf6 := hts (.fieldLink RX0 15 "StepClock$Moment" "left" "[I") (by decide +kernel)
  have hf7 := hts (.fieldLink RX0 18 "StepClock$Moment" "taken" "[I") (by decide +kernel)
  have hl : lv_has ls 2 [(0, .ref T), (1, .ref O)] := hl
  refine lv_aload_n hx hb dX0_become_0 rfl (lv_at hl 0 rfl) ?_
  refine lv_aload_n hx hb dX0_become_1 rfl (lv_at hl 1 rfl) ?_
  refine va_get (D := g.1) (ci := 0) (v := .int (nI mi2)) (C := RX0) (T := TX0) (N := 6) hx hb hts hiX0 hown hK.1 hP 4 rfl rfl 3 (by decide) hf0 (fun _ h9 => h9) rfl dX0_become_2 ?_
  refine va_put (D := g.1) (ci := 0) (v := .int (nI mi2)) (ty := .int) (C := RX0) (T := TX0) (N := 6) hx hb hts hiX0 tyX0 tyX0_ok nmX0 hown hK.1 hP hD hS 0 rfl rfl 3 (by decide) hf0 (fun _ h9 => h9) rfl (by decide +kernel) rfl rfl (Nat.le_of_ble_eq_true rfl) dX0_become_5 (fun H locs hP hD hS => ?_)
  have hP : va_P g.1 vwCl [(T, .inr (0, [.ref Ta, .ref Tb, .ref Tc, .int (nI mi2), .int (nI st), .int (nI si)])), (Ta, .inl (g.2.1.1, 6, .inl (zf dn))), (Tb, .inl (g.2.1.1, 6, .inl (zf lf))), (Tc, .inl (g.2.1.1, 6, .inl (zf tk))), (O, .inr (0, [.ref Oa, .ref Ob, .ref Oc, .int (nI mi2), .int (nI st2), .int (nI si2)])), (Oa, .inl (g.2.1.1, 6, .inl (zf dn2))), (Ob, .inl (g.2.1.1, 6, .inl (zf lf2))), (Oc, .inl (g.2.1.1, 6, .inl (zf tk2)))] _ := hP
  have hD : va_D A [(T, .inr (0, [.ref Ta, .ref Tb, .ref Tc, .int (nI mi2), .int (nI st), .int (nI si)])), (Ta, .inl (g.2.1.1, 6, .inl (zf dn))), (Tb, .inl (g.2.1.1, 6, .inl (zf lf))), (Tc, .inl (g.2.1.1, 6, .inl (zf tk))), (O, .inr (0, [.ref Oa, .ref Ob, .ref Oc, .int (nI mi2), .int (nI st2), .int (nI si2)])), (Oa, .inl (g.2.1.1, 6, .inl (zf dn2))), (Ob, .inl (g.2.1.1, 6, .inl (zf lf2))), (Oc, .inl (g.2.1.1, 6, .inl (zf tk2)))] := hD
  refine lv_aload_n hx hb dX0_become_8 rfl (lv_at hl 0 rfl) ?_
  refine lv_aload_n hx hb dX0_become_9 rfl (lv_at hl 1 rfl) ?_
  refine va_get (D := g.1) (ci := 0) (v := .int (nI st2)) (C := RX0) (T := TX0) (N := 6) hx hb hts hiX0 hown hK.1 hP 4 rfl rfl 4 (by decide) hf1 (fun _ h9 => h9) rfl dX0_become_10 ?_
  refine va_put (D := g.1) (ci := 0) (v := .int (nI st2)) (ty := .int) (C := RX0) (T := TX0) (N := 6) hx hb hts hiX0 tyX0 tyX0_ok nmX0 hown hK.1 hP hD hS 0 rfl rfl 4 (by decide) hf1 (fun _ h9 => h9) rfl (by decide +kernel) rfl rfl (Nat.le_of_ble_eq_true rfl) dX0_become_13 (fun H locs hP hD hS => ?_)
  have hP : va_P g.1 vwCl [(T, .inr (0, [.ref Ta, .ref Tb, .ref Tc, .int (nI mi2), .int (nI st2), .int (nI si)])), (Ta, .inl (g.2.1.1, 6, .inl (zf dn))), (Tb, .inl (g.2.1.1, 6, .inl (zf lf))), (Tc, .inl (g.2.1.1, 6, .inl (zf tk))), (O, .inr (0, [.ref Oa, .ref Ob, .ref Oc, .int (nI mi2), .int (nI st2), .int (nI si2)])), (Oa, .inl (g.2.1.1, 6, .inl (zf dn2))), (Ob, .inl (g.2.1.1, 6, .inl (zf lf2))), (Oc, .inl (g.2.1.1, 6, .inl (zf tk2)))] _ := hP
  have hD : va_D A [(T, .inr (0, [.ref Ta, .ref Tb, .ref Tc, .int (nI mi2), .int (nI st2), .int (nI si)])), (Ta, .inl (g.2.1.1, 6, .inl (zf dn))), (Tb, .inl (g.2.1.1, 6, .inl (zf lf))), (Tc, .inl (g.2.1.1, 6, .inl (zf tk))), (O, .inr (0, [.ref Oa, .ref Ob, .ref Oc, .int (nI mi2), .int (nI st2), .int (nI si2)])), (Oa, .inl (g.2.1.1, 6, .inl (zf dn2))), (Ob, .inl (g.2.1.1, 6, .inl (zf lf2))), (Oc, .inl (g.2.1.1, 6, .inl (zf tk2)))] := hD
  refine lv_aload_n hx hb dX0_become_16 rfl (lv_at hl 0 rfl) ?_
  refine lv_aload_n hx hb dX0_become_17 rfl (lv_at hl 1 rfl) ?_
  refine va_get (D := g.1) (ci := 0) (v := .int (nI si2)) (C := RX0) (T := TX0) (N := 6) hx hb hts hiX0 hown hK.1 hP 4 rfl rfl 5 (by decide) hf2 (fun _ h9 => h9) rfl dX0_become_18 ?_
  refine va_put (D := g.1) (ci := 0) (v := .int (nI si2)) (ty := .int) (C := RX0) (T := TX0) (N := 6) hx hb hts hiX0 tyX0 tyX0_ok nmX0 hown hK.1 hP hD hS 0 rfl rfl 5 (by decide) hf2 (fun _ h9 => h9) rfl (by decide +kernel) rfl rfl (Nat.le_of_ble_eq_true rfl) dX0_become_21 (fun H locs hP hD hS => ?_)
  have hP : va_P g.1 vwCl [(T, .inr (0, [.ref Ta, .ref Tb, .ref Tc, .int (nI mi2), .int (nI st2), .int (nI si2)])), (Ta, .inl (g.2.1.1, 6, .inl (zf dn))), (Tb, .inl (g.2.1.1, 6, .inl (zf lf))), (Tc, .inl (g.2.1.1, 6, .inl (zf tk))), (O, .inr (0, [.ref Oa, .ref Ob, .ref Oc, .int (nI mi2), .int (nI st2), .int (nI si2)])), (Oa, .inl (g.2.1.1, 6, .inl (zf dn2))), (Ob, .inl (g.2.1.1, 6, .inl (zf lf2))), (Oc, .inl (g.2.1.1, 6, .inl (zf tk2)))] _ := hP
  have hD : va_D A [(T, .inr (0, [.ref Ta, .ref Tb, .ref Tc, .int (nI mi2), .int (nI st2), .int (nI si2)])), (Ta, .inl (g.2.1.1, 6, .inl (zf dn))), (Tb, .inl (g.2.1.1, 6, .inl (zf lf))), (Tc, .inl (g.2.1.1, 6, .inl (zf tk))), (O, .inr (0, [.ref Oa, .ref Ob, .ref Oc, .int (nI mi2), .int (nI st2), .int (nI si2)])), (Oa, .inl (g.2.1.1, 6, .inl (zf dn2))), (Ob, .inl (g.2.1.1, 6, .inl (zf lf2))), (Oc, .inl (g.2.1.1, 6, .inl (zf tk2)))] := hD
  refine lv_aload_n hx hb dX0_become_24 rfl (lv_at hl 1 rfl) ?_
  refine va_get (D := g.1) (ci := 0) (v := .ref Oa) (C := RX0) (T := TX0) (N := 6) hx hb hts hiX0 hown hK.1 hP 4 rfl rfl 0 (by decide) hf3 (fun _ h9 => h9) rfl dX0_become_25 ?_
  refine lv_aload_n hx hb dX0_become_28 rfl (lv_at hl 0 rfl) ?_
  refine va_get (D := g.1) (ci := 0) (v := .ref Ta) (C := RX0) (T := TX0) (N := 6) hx hb hts hiX0 hown hK.1 hP 0 rfl rfl 0 (by decide) hf3 (fun _ h9 => h9) rfl dX0_become_29 ?_
  refine zz_callSN (wr := [(T, .inr (0, [.ref Ta, .ref Tb, .ref Tc, .int (nI mi2), .int (nI st2), .int (nI si2)])), (Tb, .inl (g.2.1.1, 6, .inl (zf lf))), (Tc, .inl (g.2.1.1, 6, .inl (zf tk))), (O, .inr (0, [.ref Oa, .ref Ob, .ref Oc, .int (nI mi2), .int (nI st2), .int (nI si2)])), (Ob, .inl (g.2.1.1, 6, .inl (zf lf2))), (Oc, .inl (g.2.1.1, 6, .inl (zf tk2)))]) (wc := [(Oa, .inl (g.2.1.1, 6, .inl (zf dn2))), (Ta, .inl (g.2.1.1, 6, .inl (zf dn)))]) (As := [.ref Oa, .ref Ta]) (rest := []) F hK hE hA hP hD hS (c_X4_copyRow l g (a := Oa) (b := Ta) (n := 6) (f := dn2) (h := dn) (hn := by first | assumption | omega)) ⟨va_cnB 2 hts ggX0_become_X4_copyRow rfl rfl rfl (hK.2.1 (.methodLinkNest RX0 31 yX4_copyRow RX4) (by decide +kernel)) hf4 (by decide +kernel) ⟨Nat.le_of_ble_eq_true rfl, Nat.le_of_ble_eq_true rfl⟩, hf5, trivial⟩ [5, 1] [0, 2, 3, 4, 6, 7] rfl rfl (by decide) (by decide) (by decide) rfl rfl hl.1 (Nat.le_of_ble_eq_true rfl) dX0_become_32 ⟨Nat.le_of_ble_eq_true rfl, Nat.le_of_ble_eq_true rfl⟩ (fun u_1 H locs hw hP hD hS => ?_)
  have hP : va_P g.1 vwCl [(T, .inr (0, [.ref Ta, .ref Tb, .ref Tc, .int (nI mi2), .int (nI st2), .int (nI si2)])), (Tb, .inl (g.2.1.1, 6, .inl (zf lf))), (Tc, .inl (g.2.1.1, 6, .inl (zf tk))), (O, .inr (0, [.ref Oa, .ref Ob, .ref Oc, .int (nI mi2), .int (nI st2), .int (nI si2)])), (Ob, .inl (g.2.1.1, 6, .inl (zf lf2))), (Oc, .inl (g.2.1.1, 6, .inl (zf tk2))), (Oa, .inl (g.2.1.1, 6, .inl (zf dn2))), (Ta, .inl (g.2.1.1, 6, .inl (zf dn2)))] _ := hP
  have hD : va_D A [(T, .inr (0, [.ref Ta, .ref Tb, .ref Tc, .int (nI mi2), .int (nI st2), .int (nI si2)])), (Tb, .inl (g.2.1.1, 6, .inl (zf lf))), (Tc, .inl (g.2.1.1, 6, .inl (zf tk))), (O, .inr (0, [.ref Oa, .ref Ob, .ref Oc, .int (nI mi2), .int (nI st2), .int (nI si2)])), (Ob, .inl (g.2.1.1, 6, .inl (zf lf2))), (Oc, .inl (g.2.1.1, 6, .inl (zf tk2))), (Oa, .inl (g.2.1.1, 6, .inl (zf dn2))), (Ta, .inl (g.2.1.1, 6, .inl (zf dn2)))] := hD
  refine lv_aload_n hx hb dX0_become_35 rfl (lv_at hl 1 rfl) ?_
  refine va_get (D := g.1) (ci := 0) (v := .ref Ob) (C := RX0) (T := TX0) (N := 6) hx hb hts hiX0 hown hK.1 hP 3 rfl rfl 1 (by decide) hf6 (fun _ h9 => h9) rfl dX0_become_36 ?_
  refine lv_aload_n hx hb dX0_become_39 rfl (lv_at hl 0 rfl) ?_
  refine va_get (D := g.1) (ci := 0) (v := .ref Tb) (C := RX0) (T := TX0) (N := 6) hx hb hts hiX0 hown hK.1 hP 0 rfl rfl 1 (by decide) hf6 (fun _ h9 => h9) rfl dX0_become_40 ?_
  refine zz_callSN (wr := [(T, .inr (0, [.ref Ta, .ref Tb, .ref Tc, .int (nI mi2), .int (nI st2), .int (nI si2)])), (Tc, .inl (g.2.1.1, 6, .inl (zf tk))), (O, .inr (0, [.ref Oa, .ref Ob, .ref Oc, .int (nI mi2), .int (nI st2), .int (nI si2)])), (Oc, .inl (g.2.1.1, 6, .inl (zf tk2))), (Oa, .inl (g.2.1.1, 6, .inl (zf dn2))), (Ta, .inl (g.2.1.1, 6, .inl (zf dn2)))]) (wc := [(Ob, .inl (g.2.1.1, 6, .inl (zf lf2))), (Tb, .inl (g.2.1.1, 6, .inl (zf lf)))]) (As := [.ref Ob, .ref Tb]) (rest := []) F hK hE hA hP hD hS (c_X4_copyRow l g (a := Ob) (b := Tb) (n := 6) (f := lf2) (h := lf) (hn := by first | assumption | omega)) ⟨va_cnB 2 hts ggX0_become_X4_copyRow rfl rfl rfl (hK.2.1 (.methodLinkNest RX0 31 yX4_copyRow RX4) (by decide +kernel)) hf4 (by decide +kernel) ⟨Nat.le_of_ble_eq_true rfl, Nat.le_of_ble_eq_true rfl⟩, hf5, trivial⟩ [4, 1] [0, 2, 3, 5, 6, 7] rfl rfl (by decide) (by decide) (by decide) rfl rfl hl.1 (Nat.le_of_ble_eq_true rfl) dX0_become_43 ⟨Nat.le_of_ble_eq_true rfl, Nat.le_of_ble_eq_true rfl⟩ (fun u_2 H locs hw hP hD hS => ?_)
  have hP : va_P g.1 vwCl [(T, .inr (0, [.ref Ta, .ref Tb, .ref Tc, .int (nI mi2), .int (nI st2), .int (nI si2)])), (Tc, .inl (g.2.1.1, 6, .inl (zf tk))), (O, .inr (0, [.ref Oa, .ref Ob, .ref Oc, .int (nI mi2), .int (nI st2), .int (nI si2)])), (Oc, .inl (g.2.1.1, 6, .inl (zf tk2))), (Oa, .inl (g.2.1.1, 6, .inl (zf dn2))), (Ta, .inl (g.2.1.1, 6, .inl (zf dn2))), (Ob, .inl (g.2.1.1, 6, .inl (zf lf2))), (Tb, .inl (g.2.1.1, 6, .inl (zf lf2)))] _ := hP
  have hD : va_D A [(T, .inr (0, [.ref Ta, .ref Tb, .ref Tc, .int (nI mi2), .int (nI st2), .int (nI si2)])), (Tc, .inl (g.2.1.1, 6, .inl (zf tk))), (O, .inr (0, [.ref Oa, .ref Ob, .ref Oc, .int (nI mi2), .int (nI st2), .int (nI si2)])), (Oc, .inl (g.2.1.1, 6, .inl (zf tk2))), (Oa, .inl (g.2.1.1, 6, .inl (zf dn2))), (Ta, .inl (g.2.1.1, 6, .inl (zf dn2))), (Ob, .inl (g.2.1.1, 6, .inl (zf lf2))), (Tb, .inl (g.2.1.1, 6, .inl (zf lf2)))] := hD
  refine lv_aload_n hx hb dX0_become_46 rfl (lv_at hl 1 rfl) ?_
  refine va_get (D := g.1) (ci := 0) (v := .ref Oc) (C := RX0) (T := TX0) (N := 6) hx hb hts hiX0 hown hK.1 hP 2 rfl rfl 2 (by decide) hf7 (fun _ h9 => h9) rfl dX0_become_47 ?_
  refine lv_aload_n hx hb dX0_become_50 rfl (lv_at hl 0 rfl) ?_
  refine va_get (D := g.1) (ci := 0) (v := .ref Tc) (C := RX0) (T := TX0) (N := 6) hx hb hts hiX0 hown hK.1 hP 0 rfl rfl 2 (by decide) hf7 (fun _ h9 => h9) rfl dX0_become_51 ?_
  refine zz_callSN (wr := [(T, .inr (0, [.ref Ta, .ref Tb, .ref Tc, .int (nI mi2), .int (nI st2), .int (nI si2)])), (O, .inr (0, [.ref Oa, .ref Ob, .ref Oc, .int (nI mi2), .int (nI st2), .int (nI si2)])), (Oa, .inl (g.2.1.1, 6, .inl (zf dn2))), (Ta, .inl (g.2.1.1, 6, .inl (zf dn2))), (Ob, .inl (g.2.1.1, 6, .inl (zf lf2))), (Tb, .inl (g.2.1.1, 6, .inl (zf lf2)))]) (wc := [(Oc, .inl (g.2.1.1, 6, .inl (zf tk2))), (Tc, .inl (g.2.1.1, 6, .inl (zf tk)))]) (As := [.ref Oc, .ref Tc]) (rest := []) F hK hE hA hP hD hS (c_X4_copyRow l g (a := Oc) (b := Tc) (n := 6) (f := tk2) (h := tk) (hn := by first | assumption | omega)) ⟨va_cnB 2 hts ggX0_become_X4_copyRow rfl rfl rfl (hK.2.1 (.methodLinkNest RX0 31 yX4_copyRow RX4) (by decide +kernel)) hf4 (by decide +kernel) ⟨Nat.le_of_ble_eq_true rfl, Nat.le_of_ble_eq_true rfl⟩, hf5, trivial⟩ [3, 1] [0, 2, 4, 5, 6, 7] rfl rfl (by decide) (by decide) (by decide) rfl rfl hl.1 (Nat.le_of_ble_eq_true rfl) dX0_become_54 ⟨Nat.le_of_ble_eq_true rfl, Nat.le_of_ble_eq_true rfl⟩ (fun u_3 H locs hw hP hD hS => ?_)
  have hP : va_P g.1 vwCl [(T, .inr (0, [.ref Ta, .ref Tb, .ref Tc, .int (nI mi2), .int (nI st2), .int (nI si2)])), (O, .inr (0, [.ref Oa, .ref Ob, .ref Oc, .int (nI mi2), .int (nI st2), .int (nI si2)])), (Oa, .inl (g.2.1.1, 6, .inl (zf dn2))), (Ta, .inl (g.2.1.1, 6, .inl (zf dn2))), (Ob, .inl (g.2.1.1, 6, .inl (zf lf2))), (Tb, .inl (g.2.1.1, 6, .inl (zf lf2))), (Oc, .inl (g.2.1.1, 6, .inl (zf tk2))), (Tc, .inl (g.2.1.1, 6, .inl (zf tk2)))] _ := hP
  have hD : va_D A [(T, .inr (0, [.ref Ta, .ref Tb, .ref Tc, .int (nI mi2), .int (nI st2), .int (nI si2)])), (O, .inr (0, [.ref Oa, .ref Ob, .ref Oc, .int (nI mi2), .int (nI st2), .int (nI si2)])), (Oa, .inl (g.2.1.1, 6, .inl (zf dn2))), (Ta, .inl (g.2.1.1, 6, .inl (zf dn2))), (Ob, .inl (g.2.1.1, 6, .inl (zf lf2))), (Tb, .inl (g.2.1.1, 6, .inl (zf lf2))), (Oc, .inl (g.2.1.1, 6, .inl (zf tk2))), (Tc, .inl (g.2.1.1, 6, .inl (zf tk2)))] := hD
  have hP := hP.sub (ws' := [(T, .inr (0, [.ref Ta, .ref Tb, .ref Tc, .int (nI mi2), .int (nI st2), .int (nI si2)])), (Ta, .inl (g.2.1.1, 6, .inl (zf dn2))), (Tb, .inl (g.2.1.1, 6, .inl (zf lf2))), (Tc, .inl (g.2.1.1, 6, .inl (zf tk2))), (O, .inr (0, [.ref Oa, .ref Ob, .ref Oc, .int (nI mi2), .int (nI st2), .int (nI si2)])), (Oa, .inl (g.2.1.1, 6, .inl (zf dn2))), (Ob, .inl (g.2.1.1, 6, .inl (zf lf2))), (Oc, .inl (g.2.1.1, 6, .inl (zf tk2)))]) [0, 3, 5, 7, 1, 2, 4, 6] rfl
  have hD := hD.sub (ws' := [(T, .inr (0, [.ref Ta, .ref Tb, .ref Tc, .int (nI mi2), .int (nI st2), .int (nI si2)])), (Ta, .inl (g.2.1.1, 6, .inl (zf dn2))), (Tb, .inl (g.2.1.1, 6, .inl (zf lf2))), (Tc, .inl (g.2.1.1, 6, .inl (zf tk2))), (O, .inr (0, [.ref Oa, .ref Ob, .ref Oc, .int (nI mi2), .int (nI st2), .int (nI si2)])), (Oa, .inl (g.2.1.1, 6, .inl (zf dn2))), (Ob, .inl (g.2.1.1, 6, .inl (zf lf2))), (Oc, .inl (g.2.1.1, 6, .inl (zf tk2)))]) [0, 3, 5, 7, 1, 2, 4, 6] (by decide) rfl
  exact hret 57 _ _ _ () dX0_become_57 hP hD hS (show True from by trivial)

set_option maxHeartbeats 4000000 in
set_option maxRecDepth 100000 in
theorem c_X0_doneBy (l : Launch) (g : zG) (T Ta Tb Tc : Nat) (mi st si : Nat) (dn : Nat → Nat) (p : Nat) (hp : p < 6) : zI l yX0_doneBy wsX0_doneBy 0 0 g [.ref T, .int (nI p)] [(T, .inr (0, [.ref Ta, .ref Tb, .ref Tc, .int (nI mi), .int (nI st), .int (nI si)])), (Ta, .inl (g.2.1.1, 6, .inl (zf dn)))] (fun (r : Int32) (u : Unit) => r = nI (dn p)) (fun (u : Unit) => [(T, .inr (0, [.ref Ta, .ref Tb, .ref Tc, .int (nI mi), .int (nI st), .int (nI si)])), (Ta, .inl (g.2.1.1, 6, .inl (zf dn)))]) := by
  refine zz_bodyI (cc := cX0_doneBy) (nL := 2) (own := RX0) (ty := .int) (by decide) rfl rfl (Nat.le_of_ble_eq_true rfl) ?_
  intro pP eE s mM below meth cC A Q ls F hA hK hE hP hD hl hret
  have hS : va_S A s.heap s.heap [] := va_S.rf
  obtain ⟨hx, hb, hml, hown, hts⟩ := id F
  have hiX0 : ∀ w ∈ u_ws RX0 TX0 6, w ∈ wsX0_doneBy := by decide +kernel
  have hf0 := hts (.fieldLink RX0 9 "StepClock$Moment" "done" "[I") (by decide +kernel)
  have hl : lv_has ls 2 [(0, .ref T), (1, .int (nI p))] := hl
  refine lv_iload_n hx hb dX0_doneBy_0 rfl (lv_at hl 1 rfl) ?_
  refine zz_if_lt (tgt := 22) hx hb dX0_doneBy_1 (by decide) (zi_n p) (by omega) (fun c_1 => (by exfalso; omega)) (fun c_1 => ?_)
  refine lv_iload_n hx hb dX0_doneBy_4 rfl (lv_at hl 1 rfl) ?_
  refine lv_aload_n hx hb dX0_doneBy_5 rfl (lv_at hl 0 rfl) ?_
  refine va_get (D := g.1) (ci := 0) (v := .ref Ta) (C := RX0) (T := TX0) (N := 6) hx hb hts hiX0 hown hK.1 hP 0 rfl rfl 0 (by decide) hf0 (fun _ h9 => h9) rfl dX0_doneBy_6 ?_
  refine va_alen hx hb hK.1 hP 1 0 (v := 6) rfl rfl rfl dX0_doneBy_9 ?_
  refine zz_icmp_ge (tgt := 22) hx hb dX0_doneBy_10 (by decide) (zi_n p) (zi_c 6 rfl) (by omega) (by omega) (fun c_2 => (by exfalso; omega)) (fun c_2 => ?_)
  refine lv_aload_n hx hb dX0_doneBy_13 rfl (lv_at hl 0 rfl) ?_
  refine va_get (D := g.1) (ci := 0) (v := .ref Ta) (C := RX0) (T := TX0) (N := 6) hx hb hts hiX0 hown hK.1 hP 0 rfl rfl 0 (by decide) hf0 (fun _ h9 => h9) rfl dX0_doneBy_14 ?_
  refine lv_iload_n hx hb dX0_doneBy_17 rfl (lv_at hl 1 rfl) ?_
  refine zz_iald hx hb hK.1 hP 1 0 rfl rfl p rfl (by omega) (by decide) dX0_doneBy_18 ?_
  refine lv_goto (tgt := 23) hx hb dX0_doneBy_19 (by decide) ?_
  exact hret 23 _ _ _ (nI (dn p)) () dX0_doneBy_23 rfl hP hD hS (show (nI (dn p)) = nI (dn p) from by rfl)

set_option maxHeartbeats 4000000 in
set_option maxRecDepth 100000 in
theorem c_X0_leftFor (l : Launch) (g : zG) (T Ta Tb Tc : Nat) (mi st si : Nat) (lf : Nat → Nat) (p : Nat) (hp : p < 6) : zI l yX0_leftFor wsX0_leftFor 0 0 g [.ref T, .int (nI p)] [(T, .inr (0, [.ref Ta, .ref Tb, .ref Tc, .int (nI mi), .int (nI st), .int (nI si)])), (Tb, .inl (g.2.1.1, 6, .inl (zf lf)))] (fun (r : Int32) (u : Unit) => r = nI (lf p)) (fun (u : Unit) => [(T, .inr (0, [.ref Ta, .ref Tb, .ref Tc, .int (nI mi), .int (nI st), .int (nI si)])), (Tb, .inl (g.2.1.1, 6, .inl (zf lf)))]) := by
  refine zz_bodyI (cc := cX0_leftFor) (nL := 2) (own := RX0) (ty := .int) (by decide) rfl rfl (Nat.le_of_ble_eq_true rfl) ?_
  intro pP eE s mM below meth cC A Q ls F hA hK hE hP hD hl hret
  have hS : va_S A s.heap s.heap [] := va_S.rf
  obtain ⟨hx, hb, hml, hown, hts⟩ := id F
  have hiX0 : ∀ w ∈ u_ws RX0 TX0 6, w ∈ wsX0_leftFor := by decide +kernel
  have hf0 := hts (.fieldLink RX0 15 "StepClock$Moment" "left" "[I") (by decide +kernel)
  have hl : lv_has ls 2 [(0, .ref T), (1, .int (nI p))] := hl
  refine lv_iload_n hx hb dX0_leftFor_0 rfl (lv_at hl 1 rfl) ?_
  refine zz_if_lt (tgt := 22) hx hb dX0_leftFor_1 (by decide) (zi_n p) (by omega) (fun c_1 => (by exfalso; omega)) (fun c_1 => ?_)
  refine lv_iload_n hx hb dX0_leftFor_4 rfl (lv_at hl 1 rfl) ?_
  refine lv_aload_n hx hb dX0_leftFor_5 rfl (lv_at hl 0 rfl) ?_
  refine va_get (D := g.1) (ci := 0) (v := .ref Tb) (C := RX0) (T := TX0) (N := 6) hx hb hts hiX0 hown hK.1 hP 0 rfl rfl 1 (by decide) hf0 (fun _ h9 => h9) rfl dX0_leftFor_6 ?_
  refine va_alen hx hb hK.1 hP 1 0 (v := 6) rfl rfl rfl dX0_leftFor_9 ?_
  refine zz_icmp_ge (tgt := 22) hx hb dX0_leftFor_10 (by decide) (zi_n p) (zi_c 6 rfl) (by omega) (by omega) (fun c_2 => (by exfalso; omega)) (fun c_2 => ?_)
  refine lv_aload_n hx hb dX0_leftFor_13 rfl (lv_at hl 0 rfl) ?_
  refine va_get (D := g.1) (ci := 0) (v := .ref Tb) (C := RX0) (T := TX0) (N := 6) hx hb hts hiX0 hown hK.1 hP 0 rfl rfl 1 (by decide) hf0 (fun _ h9 => h9) rfl dX0_leftFor_14 ?_
  refine lv_iload_n hx hb dX0_leftFor_17 rfl (lv_at hl 1 rfl) ?_
  refine zz_iald hx hb hK.1 hP 1 0 rfl rfl p rfl (by omega) (by decide) dX0_leftFor_18 ?_
  refine lv_goto (tgt := 23) hx hb dX0_leftFor_19 (by decide) ?_
  exact hret 23 _ _ _ (nI (lf p)) () dX0_leftFor_23 rfl hP hD hS (show (nI (lf p)) = nI (lf p) from by rfl)

set_option maxHeartbeats 4000000 in
set_option maxRecDepth 100000 in
theorem c_X0_takenBy (l : Launch) (g : zG) (T Ta Tb Tc : Nat) (mi st si : Nat) (tk : Nat → Nat) (p : Nat) (hp : p < 6) : zI l yX0_takenBy wsX0_takenBy 0 0 g [.ref T, .int (nI p)] [(T, .inr (0, [.ref Ta, .ref Tb, .ref Tc, .int (nI mi), .int (nI st), .int (nI si)])), (Tc, .inl (g.2.1.1, 6, .inl (zf tk)))] (fun (r : Int32) (u : Unit) => r = nI (tk p)) (fun (u : Unit) => [(T, .inr (0, [.ref Ta, .ref Tb, .ref Tc, .int (nI mi), .int (nI st), .int (nI si)])), (Tc, .inl (g.2.1.1, 6, .inl (zf tk)))]) := by
  refine zz_bodyI (cc := cX0_takenBy) (nL := 2) (own := RX0) (ty := .int) (by decide) rfl rfl (Nat.le_of_ble_eq_true rfl) ?_
  intro pP eE s mM below meth cC A Q ls F hA hK hE hP hD hl hret
  have hS : va_S A s.heap s.heap [] := va_S.rf
  obtain ⟨hx, hb, hml, hown, hts⟩ := id F
  have hiX0 : ∀ w ∈ u_ws RX0 TX0 6, w ∈ wsX0_takenBy := by decide +kernel
  have hf0 := hts (.fieldLink RX0 18 "StepClock$Moment" "taken" "[I") (by decide +kernel)
  have hl : lv_has ls 2 [(0, .ref T), (1, .int (nI p))] := hl
  refine lv_iload_n hx hb dX0_takenBy_0 rfl (lv_at hl 1 rfl) ?_
  refine zz_if_lt (tgt := 22) hx hb dX0_takenBy_1 (by decide) (zi_n p) (by omega) (fun c_1 => (by exfalso; omega)) (fun c_1 => ?_)
  refine lv_iload_n hx hb dX0_takenBy_4 rfl (lv_at hl 1 rfl) ?_
  refine lv_aload_n hx hb dX0_takenBy_5 rfl (lv_at hl 0 rfl) ?_
  refine va_get (D := g.1) (ci := 0) (v := .ref Tc) (C := RX0) (T := TX0) (N := 6) hx hb hts hiX0 hown hK.1 hP 0 rfl rfl 2 (by decide) hf0 (fun _ h9 => h9) rfl dX0_takenBy_6 ?_
  refine va_alen hx hb hK.1 hP 1 0 (v := 6) rfl rfl rfl dX0_takenBy_9 ?_
  refine zz_icmp_ge (tgt := 22) hx hb dX0_takenBy_10 (by decide) (zi_n p) (zi_c 6 rfl) (by omega) (by omega) (fun c_2 => (by exfalso; omega)) (fun c_2 => ?_)
  refine lv_aload_n hx hb dX0_takenBy_13 rfl (lv_at hl 0 rfl) ?_
  refine va_get (D := g.1) (ci := 0) (v := .ref Tc) (C := RX0) (T := TX0) (N := 6) hx hb hts hiX0 hown hK.1 hP 0 rfl rfl 2 (by decide) hf0 (fun _ h9 => h9) rfl dX0_takenBy_14 ?_
  refine lv_iload_n hx hb dX0_takenBy_17 rfl (lv_at hl 1 rfl) ?_
  refine zz_iald hx hb hK.1 hP 1 0 rfl rfl p rfl (by omega) (by decide) dX0_takenBy_18 ?_
  refine lv_goto (tgt := 23) hx hb dX0_takenBy_19 (by decide) ?_
  exact hret 23 _ _ _ (nI (tk p)) () dX0_takenBy_23 rfl hP hD hS (show (nI (tk p)) = nI (tk p) from by rfl)

set_option maxHeartbeats 4000000 in
set_option maxRecDepth 100000 in
theorem c_X0_peopleOnWays (l : Launch) (g : zG) (T Ta Tb Tc : Nat) (mi st si : Nat) (lf : Nat → Nat) (hlf : ∀ k, lf k < 1000000) : zI l yX0_peopleOnWays wsX0_peopleOnWays 0 0 g [.ref T] [(T, .inr (0, [.ref Ta, .ref Tb, .ref Tc, .int (nI mi), .int (nI st), .int (nI si)])), (Tb, .inl (g.2.1.1, 6, .inl (zf lf)))] (fun (r : Int32) (u : Unit) => r = nI (zSm (fun k => if lf k > 0 then 1 else 0) 6)) (fun (u : Unit) => [(T, .inr (0, [.ref Ta, .ref Tb, .ref Tc, .int (nI mi), .int (nI st), .int (nI si)])), (Tb, .inl (g.2.1.1, 6, .inl (zf lf)))]) := by
  refine zz_bodyI (cc := cX0_peopleOnWays) (nL := 3) (own := RX0) (ty := .int) (by decide) rfl rfl (Nat.le_of_ble_eq_true rfl) ?_
  intro pP eE s mM below meth cC A Q ls F hA hK hE hP hD hl hret
  have hS : va_S A s.heap s.heap [] := va_S.rf
  obtain ⟨hx, hb, hml, hown, hts⟩ := id F
  have hiX0 : ∀ w ∈ u_ws RX0 TX0 6, w ∈ wsX0_peopleOnWays := by decide +kernel
  have hf0 := hts (.fieldLink RX0 15 "StepClock$Moment" "left" "[I") (by decide +kernel)
  have hl : lv_has ls 3 [(0, .ref T)] := hl
  refine lv_iconst (v := 0) hx hb dX0_peopleOnWays_0 (by decide) ?_
  refine lv_istore_n (lv' := [(1, .int 0), (0, .ref T)]) hx hb dX0_peopleOnWays_1 rfl hl (by decide) rfl (fun ls hl => ?_)
  refine lv_iconst (v := 0) hx hb dX0_peopleOnWays_2 (by decide) ?_
  refine lv_istore_n (lv' := [(2, .int 0), (1, .int 0), (0, .ref T)]) hx hb dX0_peopleOnWays_3 rfl hl (by decide) rfl (fun ls hl => ?_)
  have hcut4 : ∀ (fu : Nat) (i : Nat) (H : Heap) (locs : List Loc) (ls : Array Slot), (i ≤ 6) → (6 - i) < fu → va_P g.1 vwCl [(T, .inr (0, [.ref Ta, .ref Tb, .ref Tc, .int (nI mi), .int (nI st), .int (nI si)])), (Tb, .inl (g.2.1.1, 6, .inl (zf lf)))] H → va_D A [(T, .inr (0, [.ref Ta, .ref Tb, .ref Tc, .int (nI mi), .int (nI st), .int (nI si)])), (Tb, .inl (g.2.1.1, 6, .inl (zf lf)))] → va_S A s.heap H locs → lv_has ls 3 [(0, .ref T), (1, .int (nI (zSm (fun k => if lf k > 0 then 1 else 0) i))), (2, .int (nI i))] → W pP l eE { frames := 0, cells := 0, slots := 0, locals := 0 } s mM ([.ref T] : List Value).toArray below meth cC H locs 0 0 Q (F0 mM 4 ls []) := by
    intro fu
    induction fu with
    | zero =>
      intro i H locs ls hi hm
      exact absurd hm (Nat.not_lt_zero _)
    | succ fu ih4 =>
      intro i H locs ls hi hm hP hD hS hl
      have hsum := zSm_le (f := fun k => if lf k > 0 then 1 else 0) (b := 1) (fun k => by split <;> omega) i
      refine lv_iload_n hx hb dX0_peopleOnWays_4 rfl (lv_at hl 2 rfl) ?_
      refine lv_bipush (v := 6) hx hb dX0_peopleOnWays_5 (by decide) ?_
      refine zz_icmp_ge (tgt := 28) hx hb dX0_peopleOnWays_7 (by decide) (zi_n i) (zi_c 6 rfl) (by omega) (by omega) (fun c_1 => ?_) (fun c_1 => ?_)
      · refine lv_iload_n hx hb dX0_peopleOnWays_28 rfl (lv_at hl 1 rfl) ?_
        exact hret 29 _ _ _ (nI (zSm (fun k => if lf k > 0 then 1 else 0) i)) () dX0_peopleOnWays_29 rfl hP hD hS (show (nI (zSm (fun k => if lf k > 0 then 1 else 0) i)) = nI (zSm (fun k => if lf k > 0 then 1 else 0) 6) from by rw [show i = 6 by omega])
      · refine lv_aload_n hx hb dX0_peopleOnWays_10 rfl (lv_at hl 0 rfl) ?_
        refine va_get (D := g.1) (ci := 0) (v := .ref Tb) (C := RX0) (T := TX0) (N := 6) hx hb hts hiX0 hown hK.1 hP 0 rfl rfl 1 (by decide) hf0 (fun _ h9 => h9) rfl dX0_peopleOnWays_11 ?_
        refine lv_iload_n hx hb dX0_peopleOnWays_14 rfl (lv_at hl 2 rfl) ?_
        refine zz_iald hx hb hK.1 hP 1 0 rfl rfl i rfl (by omega) (by decide) dX0_peopleOnWays_15 ?_
        have hq_2 := hlf i
        refine zz_if_le (tgt := 22) hx hb dX0_peopleOnWays_16 (by decide) (zi_n (lf i)) (by omega) (fun c_3 => ?_) (fun c_3 => ?_)
        · refine lv_iinc (v := nI (i + 1)) (lv' := [(2, .int (nI (i + 1))), (0, .ref T), (1, .int (nI (zSm (fun k => if lf k > 0 then 1 else 0) i)))]) hx hb dX0_peopleOnWays_22 hl (k := 2) rfl (zi_eq (zi_add (zi_n i) (zi_c 1 rfl)) (zi_n (i + 1)) (by omega)) (by decide) rfl (fun ls hl => ?_)
          refine lv_goto (tgt := 4) hx hb dX0_peopleOnWays_25 (by decide) ?_
          have eq_4 : nI (zSm (fun k => if lf k > 0 then 1 else 0) i) = nI (zSm (fun k => if lf k > 0 then 1 else 0) (i + 1)) := by first | (rw [zSm, if_pos (by omega)]) | (rw [zSm, if_neg (by omega), Nat.add_zero])
          have hl : lv_has ls 3 [(2, .int (nI (i + 1))), (0, .ref T), (1, .int (nI (zSm (fun k => if lf k > 0 then 1 else 0) (i + 1))))] := Eq.mp (congrArg (fun z => lv_has ls 3 [(2, .int (nI (i + 1))), (0, .ref T), (1, .int (z))]) eq_4) hl
          exact ih4 (i + 1) _ _ _ (show (i + 1) ≤ 6 from by omega) (by omega) hP hD hS (lv_sub hl [1, 2, 0] rfl)
        · refine lv_iinc (v := nI ((zSm (fun k => if lf k > 0 then 1 else 0) i) + 1)) (lv' := [(1, .int (nI ((zSm (fun k => if lf k > 0 then 1 else 0) i) + 1))), (0, .ref T), (2, .int (nI i))]) hx hb dX0_peopleOnWays_19 hl (k := 1) rfl (zi_eq (zi_add (zi_n (zSm (fun k => if lf k > 0 then 1 else 0) i)) (zi_c 1 rfl)) (zi_n ((zSm (fun k => if lf k > 0 then 1 else 0) i) + 1)) (by omega)) (by decide) rfl (fun ls hl => ?_)
          refine lv_iinc (v := nI (i + 1)) (lv' := [(2, .int (nI (i + 1))), (1, .int (nI ((zSm (fun k => if lf k > 0 then 1 else 0) i) + 1))), (0, .ref T)]) hx hb dX0_peopleOnWays_22 hl (k := 2) rfl (zi_eq (zi_add (zi_n i) (zi_c 1 rfl)) (zi_n (i + 1)) (by omega)) (by decide) rfl (fun ls hl => ?_)
          refine lv_goto (tgt := 4) hx hb dX0_peopleOnWays_25 (by decide) ?_
          have eq_5 : nI ((zSm (fun k => if lf k > 0 then 1 else 0) i) + 1) = nI (zSm (fun k => if lf k > 0 then 1 else 0) (i + 1)) := by first | (rw [zSm, if_pos (by omega)]) | (rw [zSm, if_neg (by omega), Nat.add_zero])
          have hl : lv_has ls 3 [(2, .int (nI (i + 1))), (1, .int (nI (zSm (fun k => if lf k > 0 then 1 else 0) (i + 1)))), (0, .ref T)] := Eq.mp (congrArg (fun z => lv_has ls 3 [(2, .int (nI (i + 1))), (1, .int (z)), (0, .ref T)]) eq_5) hl
          exact ih4 (i + 1) _ _ _ (show (i + 1) ≤ 6 from by omega) (by omega) hP hD hS (lv_sub hl [2, 1, 0] rfl)
  exact hcut4 ((6 - 0) + 1) 0 _ _ _ (show 0 ≤ 6 from by omega) (by omega) hP hD hS (lv_sub hl [2, 1, 0] rfl)

set_option maxHeartbeats 4000000 in
set_option maxRecDepth 100000 in
theorem c_X0_maySetOut (l : Launch) (g : zG) (T Ta Tb Tc : Nat) (mi st si : Nat) (dn : Nat → Nat) (P Pa Pb Pc Pd : Nat) (hs np nm nw : Nat) (wc wp : Nat → Nat) (p hr : Nat) (hnp : np ≤ 6) (hwc : ∀ p, wc p ≤ 4) (hwp : ∀ k, wp k < 1000) (hp : p < np) (hd : dn p ≤ wc p) (hmi : mi < 2147483648) (hhr : hr < 2147483648) : zI l yX0_maySetOut wsX0_maySetOut 1 24 g [.ref T, .ref P, .int (nI p), .int (nI hr)] [(T, .inr (0, [.ref Ta, .ref Tb, .ref Tc, .int (nI mi), .int (nI st), .int (nI si)])), (Ta, .inl (g.2.1.1, 6, .inl (zf dn))), (P, .inr (1, [.ref Pa, .ref Pb, .ref Pc, .ref Pd, .int (nI hs), .int (nI np), .int (nI nm), .int (nI nw)])), (Pa, .inl (g.2.1.1, 6, .inl (zf wc))), (Pb, .inl (g.2.1.1, 96, .inl (zf wp)))] (fun (r : Int32) (u : Unit) => r = if zMay wc wp dn mi hr p then 1 else 0) (fun (u : Unit) => [(T, .inr (0, [.ref Ta, .ref Tb, .ref Tc, .int (nI mi), .int (nI st), .int (nI si)])), (Ta, .inl (g.2.1.1, 6, .inl (zf dn))), (P, .inr (1, [.ref Pa, .ref Pb, .ref Pc, .ref Pd, .int (nI hs), .int (nI np), .int (nI nm), .int (nI nw)])), (Pa, .inl (g.2.1.1, 6, .inl (zf wc))), (Pb, .inl (g.2.1.1, 96, .inl (zf wp)))]) := by
  refine zz_bodyI (cc := cX0_maySetOut) (nL := 5) (own := RX0) (ty := .boolean) (by decide) rfl rfl (Nat.le_of_ble_eq_true rfl) ?_
  intro pP eE s mM below meth cC A Q ls F hA hK hE hP hD hl hret
  have hS : va_S A s.heap s.heap [] := va_S.rf
  obtain ⟨hx, hb, hml, hown, hts⟩ := id F
  have hiX0 : ∀ w ∈ u_ws RX0 TX0 6, w ∈ wsX0_maySetOut := by decide +kernel
  have hf0 := hts (.fieldLink RX0 9 "StepClock$Moment" "done" "[I") (by decide +kernel)
  have hf1 := hts (.fieldLink RX0 21 "StepClock$Moment" "minute" "I") (by decide +kernel)
  have hl : lv_has ls 5 [(0, .ref T), (1, .ref P), (2, .int (nI p)), (3, .int (nI hr))] := hl
  have hwcp := hwc p
  refine lv_aload_n hx hb dX0_maySetOut_0 rfl (lv_at hl 1 rfl) ?_
  refine lv_iload_n hx hb dX0_maySetOut_1 rfl (lv_at hl 2 rfl) ?_
  refine lv_aload_n hx hb dX0_maySetOut_2 rfl (lv_at hl 0 rfl) ?_
  refine va_get (D := g.1) (ci := 0) (v := .ref Ta) (C := RX0) (T := TX0) (N := 6) hx hb hts hiX0 hown hK.1 hP 0 rfl rfl 0 (by decide) hf0 (fun _ h9 => h9) rfl dX0_maySetOut_3 ?_
  refine lv_iload_n hx hb dX0_maySetOut_6 rfl (lv_at hl 2 rfl) ?_
  refine zz_iald hx hb hK.1 hP 1 0 rfl rfl p rfl (by omega) (by decide) dX0_maySetOut_7 ?_
  refine zz_callI (wr := [(T, .inr (0, [.ref Ta, .ref Tb, .ref Tc, .int (nI mi), .int (nI st), .int (nI si)])), (Ta, .inl (g.2.1.1, 6, .inl (zf dn))), (Pb, .inl (g.2.1.1, 96, .inl (zf wp)))]) (wc := [(P, .inr (1, [.ref Pa, .ref Pb, .ref Pc, .ref Pd, .int (nI hs), .int (nI np), .int (nI nm), .int (nI nw)])), (Pa, .inl (g.2.1.1, 6, .inl (zf wc)))]) (As := [.int (nI p), .int (nI (dn p))]) (rest := []) F hK hE hA hP hD hS (c_X1_isWay_n l g (P := P) (Pa := Pa) (Pb := Pb) (Pc := Pc) (Pd := Pd) (hs := hs) (np := np) (nm := nm) (nw := nw) (wc := wc) (p := p) (k := (dn p)) (hnp := by first | assumption | omega) (hwc := by first | assumption | omega) (hp := by first | assumption | omega) (hk := by first | assumption | omega)) (cwV 2 hts gX0_maySetOut_X1_isWay rfl rfl rfl (by decide +kernel) ⟨Nat.le_of_ble_eq_true rfl, Nat.le_of_ble_eq_true rfl⟩) [2, 3] [0, 1, 4] rfl rfl (by decide) (by decide) (by decide) 1 0 rfl rfl rfl rfl rfl hl.1 (Nat.le_of_ble_eq_true rfl) dX0_maySetOut_8 ⟨Nat.le_of_ble_eq_true rfl, Nat.le_of_ble_eq_true rfl⟩ (fun r_1 u_1 H locs hw hP hD hS => ?_)
  have hP : va_P g.1 vwCl [(T, .inr (0, [.ref Ta, .ref Tb, .ref Tc, .int (nI mi), .int (nI st), .int (nI si)])), (Ta, .inl (g.2.1.1, 6, .inl (zf dn))), (Pb, .inl (g.2.1.1, 96, .inl (zf wp))), (P, .inr (1, [.ref Pa, .ref Pb, .ref Pc, .ref Pd, .int (nI hs), .int (nI np), .int (nI nm), .int (nI nw)])), (Pa, .inl (g.2.1.1, 6, .inl (zf wc)))] _ := hP
  have hD : va_D A [(T, .inr (0, [.ref Ta, .ref Tb, .ref Tc, .int (nI mi), .int (nI st), .int (nI si)])), (Ta, .inl (g.2.1.1, 6, .inl (zf dn))), (Pb, .inl (g.2.1.1, 96, .inl (zf wp))), (P, .inr (1, [.ref Pa, .ref Pb, .ref Pc, .ref Pd, .int (nI hs), .int (nI np), .int (nI nm), .int (nI nw)])), (Pa, .inl (g.2.1.1, 6, .inl (zf wc)))] := hD
  have hr_1 := hw
  have hr_1 : r_1 = if (dn p) < wc p then 1 else 0 := hr_1
  by_cases b_2 : (dn p) < wc p
  · rw [if_pos b_2] at hr_1
    subst hr_1
    refine zz_if_ne (tgt := 16) hx hb dX0_maySetOut_11 (by decide) (zi_c 1 rfl) (by omega) (fun c_3 => ?_) (fun c_3 => (by exfalso; omega))
    refine lv_aload_n hx hb dX0_maySetOut_16 rfl (lv_at hl 1 rfl) ?_
    refine lv_iload_n hx hb dX0_maySetOut_17 rfl (lv_at hl 2 rfl) ?_
    refine lv_aload_n hx hb dX0_maySetOut_18 rfl (lv_at hl 0 rfl) ?_
    refine va_get (D := g.1) (ci := 0) (v := .ref Ta) (C := RX0) (T := TX0) (N := 6) hx hb hts hiX0 hown hK.1 hP 0 rfl rfl 0 (by decide) hf0 (fun _ h9 => h9) rfl dX0_maySetOut_19 ?_
    refine lv_iload_n hx hb dX0_maySetOut_22 rfl (lv_at hl 2 rfl) ?_
    refine zz_iald hx hb hK.1 hP 1 0 rfl rfl p rfl (by omega) (by decide) dX0_maySetOut_23 ?_
    refine lv_iconst (v := 0) hx hb dX0_maySetOut_24 (by decide) ?_
    refine zz_callI (wr := [(T, .inr (0, [.ref Ta, .ref Tb, .ref Tc, .int (nI mi), .int (nI st), .int (nI si)])), (Ta, .inl (g.2.1.1, 6, .inl (zf dn))), (Pa, .inl (g.2.1.1, 6, .inl (zf wc)))]) (wc := [(P, .inr (1, [.ref Pa, .ref Pb, .ref Pc, .ref Pd, .int (nI hs), .int (nI np), .int (nI nm), .int (nI nw)])), (Pb, .inl (g.2.1.1, 96, .inl (zf wp)))]) (As := [.int (nI p), .int (nI (dn p)), .int (nI 0)]) (rest := []) F hK hE hA hP hD hS (c_X1_wayPart l g (P := P) (Pa := Pa) (Pb := Pb) (Pc := Pc) (Pd := Pd) (hs := hs) (np := np) (nm := nm) (nw := nw) (wp := wp) (p := p) (k := (dn p)) (w := 0) (hp := by first | assumption | omega) (hk := by first | assumption | omega) (hw3 := by first | assumption | omega)) (cwV 3 hts gX0_maySetOut_X1_wayPart rfl rfl rfl (by decide +kernel) ⟨Nat.le_of_ble_eq_true rfl, Nat.le_of_ble_eq_true rfl⟩) [3, 2] [0, 1, 4] rfl rfl (by decide) (by decide) (by decide) 1 0 rfl rfl rfl rfl rfl hl.1 (Nat.le_of_ble_eq_true rfl) dX0_maySetOut_25 ⟨Nat.le_of_ble_eq_true rfl, Nat.le_of_ble_eq_true rfl⟩ (fun r_4 u_4 H locs hw hP hD hS => ?_)
    have hP : va_P g.1 vwCl [(T, .inr (0, [.ref Ta, .ref Tb, .ref Tc, .int (nI mi), .int (nI st), .int (nI si)])), (Ta, .inl (g.2.1.1, 6, .inl (zf dn))), (Pa, .inl (g.2.1.1, 6, .inl (zf wc))), (P, .inr (1, [.ref Pa, .ref Pb, .ref Pc, .ref Pd, .int (nI hs), .int (nI np), .int (nI nm), .int (nI nw)])), (Pb, .inl (g.2.1.1, 96, .inl (zf wp)))] _ := hP
    have hD : va_D A [(T, .inr (0, [.ref Ta, .ref Tb, .ref Tc, .int (nI mi), .int (nI st), .int (nI si)])), (Ta, .inl (g.2.1.1, 6, .inl (zf dn))), (Pa, .inl (g.2.1.1, 6, .inl (zf wc))), (P, .inr (1, [.ref Pa, .ref Pb, .ref Pc, .ref Pd, .int (nI hs), .int (nI np), .int (nI nm), .int (nI nw)])), (Pb, .inl (g.2.1.1, 96, .inl (zf wp)))] := hD
    have hr_4 := hw
    have hr_4 : r_4 = nI (wp (16 * p + 4 * (dn p) + 0)) := hr_4
    subst hr_4
    have hq_5 := hwp (16 * p + 4 * (dn p) + 0)
    refine lv_iconst (v := 1) hx hb dX0_maySetOut_28 (by decide) ?_
    refine zz_icmp_ne (tgt := 36) hx hb dX0_maySetOut_29 (by decide) (zi_n (wp (16 * p + 4 * (dn p) + 0))) (zi_c 1 rfl) (by omega) (by omega) (fun c_6 => ?_) (fun c_6 => ?_)
    · refine lv_aload_n hx hb dX0_maySetOut_36 rfl (lv_at hl 0 rfl) ?_
      refine va_get (D := g.1) (ci := 0) (v := .int (nI mi)) (C := RX0) (T := TX0) (N := 6) hx hb hts hiX0 hown hK.1 hP 0 rfl rfl 3 (by decide) hf1 (fun _ h9 => h9) rfl dX0_maySetOut_37 ?_
      refine lv_istore (lv' := [(4, .int (nI mi)), (0, .ref T), (1, .ref P), (2, .int (nI p)), (3, .int (nI hr))]) hx hb dX0_maySetOut_40 hl (by decide) rfl (fun ls hl => ?_)
      refine lv_iload hx hb dX0_maySetOut_42 (lv_at hl 0 rfl) ?_
      refine lv_aload_n hx hb dX0_maySetOut_44 rfl (lv_at hl 2 rfl) ?_
      refine lv_iload_n hx hb dX0_maySetOut_45 rfl (lv_at hl 3 rfl) ?_
      refine lv_aload_n hx hb dX0_maySetOut_46 rfl (lv_at hl 1 rfl) ?_
      refine va_get (D := g.1) (ci := 0) (v := .ref Ta) (C := RX0) (T := TX0) (N := 6) hx hb hts hiX0 hown hK.1 hP 0 rfl rfl 0 (by decide) hf0 (fun _ h9 => h9) rfl dX0_maySetOut_47 ?_
      refine lv_iload_n hx hb dX0_maySetOut_50 rfl (lv_at hl 3 rfl) ?_
      refine zz_iald hx hb hK.1 hP 1 0 rfl rfl p rfl (by omega) (by decide) dX0_maySetOut_51 ?_
      refine lv_iconst (v := 1) hx hb dX0_maySetOut_52 (by decide) ?_
      refine zz_callI (wr := [(T, .inr (0, [.ref Ta, .ref Tb, .ref Tc, .int (nI mi), .int (nI st), .int (nI si)])), (Ta, .inl (g.2.1.1, 6, .inl (zf dn))), (Pa, .inl (g.2.1.1, 6, .inl (zf wc)))]) (wc := [(P, .inr (1, [.ref Pa, .ref Pb, .ref Pc, .ref Pd, .int (nI hs), .int (nI np), .int (nI nm), .int (nI nw)])), (Pb, .inl (g.2.1.1, 96, .inl (zf wp)))]) (As := [.int (nI p), .int (nI (dn p)), .int (nI 1)]) (rest := [.int (nI mi)]) F hK hE hA hP hD hS (c_X1_wayPart l g (P := P) (Pa := Pa) (Pb := Pb) (Pc := Pc) (Pd := Pd) (hs := hs) (np := np) (nm := nm) (nw := nw) (wp := wp) (p := p) (k := (dn p)) (w := 1) (hp := by first | assumption | omega) (hk := by first | assumption | omega) (hw3 := by first | assumption | omega)) (cwV 3 hts gX0_maySetOut_X1_wayPart rfl rfl rfl (by decide +kernel) ⟨Nat.le_of_ble_eq_true rfl, Nat.le_of_ble_eq_true rfl⟩) [3, 4] [0, 1, 2] rfl rfl (by decide) (by decide) (by decide) 1 0 rfl rfl rfl rfl rfl hl.1 (Nat.le_of_ble_eq_true rfl) dX0_maySetOut_53 ⟨Nat.le_of_ble_eq_true rfl, Nat.le_of_ble_eq_true rfl⟩ (fun r_7 u_7 H locs hw hP hD hS => ?_)
      have hP : va_P g.1 vwCl [(T, .inr (0, [.ref Ta, .ref Tb, .ref Tc, .int (nI mi), .int (nI st), .int (nI si)])), (Ta, .inl (g.2.1.1, 6, .inl (zf dn))), (Pa, .inl (g.2.1.1, 6, .inl (zf wc))), (P, .inr (1, [.ref Pa, .ref Pb, .ref Pc, .ref Pd, .int (nI hs), .int (nI np), .int (nI nm), .int (nI nw)])), (Pb, .inl (g.2.1.1, 96, .inl (zf wp)))] _ := hP
      have hD : va_D A [(T, .inr (0, [.ref Ta, .ref Tb, .ref Tc, .int (nI mi), .int (nI st), .int (nI si)])), (Ta, .inl (g.2.1.1, 6, .inl (zf dn))), (Pa, .inl (g.2.1.1, 6, .inl (zf wc))), (P, .inr (1, [.ref Pa, .ref Pb, .ref Pc, .ref Pd, .int (nI hs), .int (nI np), .int (nI nm), .int (nI nw)])), (Pb, .inl (g.2.1.1, 96, .inl (zf wp)))] := hD
      have hr_7 := hw
      have hr_7 : r_7 = nI (wp (16 * p + 4 * (dn p) + 1)) := hr_7
      subst hr_7
      have hq_8 := hwp (16 * p + 4 * (dn p) + 1)
      refine zz_icmp_lt (tgt := 63) hx hb dX0_maySetOut_56 (by decide) (zi_n mi) (zi_n (wp (16 * p + 4 * (dn p) + 1))) (by omega) (by omega) (fun c_9 => ?_) (fun c_9 => ?_)
      · refine lv_iconst (v := 0) hx hb dX0_maySetOut_63 (by decide) ?_
        have hP := hP.sub (ws' := [(T, .inr (0, [.ref Ta, .ref Tb, .ref Tc, .int (nI mi), .int (nI st), .int (nI si)])), (Ta, .inl (g.2.1.1, 6, .inl (zf dn))), (P, .inr (1, [.ref Pa, .ref Pb, .ref Pc, .ref Pd, .int (nI hs), .int (nI np), .int (nI nm), .int (nI nw)])), (Pa, .inl (g.2.1.1, 6, .inl (zf wc))), (Pb, .inl (g.2.1.1, 96, .inl (zf wp)))]) [0, 1, 3, 2, 4] rfl
        have hD := hD.sub (ws' := [(T, .inr (0, [.ref Ta, .ref Tb, .ref Tc, .int (nI mi), .int (nI st), .int (nI si)])), (Ta, .inl (g.2.1.1, 6, .inl (zf dn))), (P, .inr (1, [.ref Pa, .ref Pb, .ref Pc, .ref Pd, .int (nI hs), .int (nI np), .int (nI nm), .int (nI nw)])), (Pa, .inl (g.2.1.1, 6, .inl (zf wc))), (Pb, .inl (g.2.1.1, 96, .inl (zf wp)))]) [0, 1, 3, 2, 4] (by decide) rfl
        exact hret 64 _ _ _ 0 () dX0_maySetOut_64 rfl hP hD hS (show 0 = if zMay wc wp dn mi hr p then 1 else 0 from by first | (rw [if_pos ⟨by omega, by rw [if_pos (by omega)]; omega⟩]) | (rw [if_pos ⟨by omega, by rw [if_neg (by omega)]; omega⟩]) | (rw [if_neg (fun q => by have q1 := q.1; omega)]) | (rw [if_neg (fun q => by have q2 := q.2; rw [if_pos (by omega)] at q2; omega)]) | (rw [if_neg (fun q => by have q2 := q.2; rw [if_neg (by omega)] at q2; omega)]))
      · refine lv_iconst (v := 1) hx hb dX0_maySetOut_59 (by decide) ?_
        refine lv_goto (tgt := 64) hx hb dX0_maySetOut_60 (by decide) ?_
        have hP := hP.sub (ws' := [(T, .inr (0, [.ref Ta, .ref Tb, .ref Tc, .int (nI mi), .int (nI st), .int (nI si)])), (Ta, .inl (g.2.1.1, 6, .inl (zf dn))), (P, .inr (1, [.ref Pa, .ref Pb, .ref Pc, .ref Pd, .int (nI hs), .int (nI np), .int (nI nm), .int (nI nw)])), (Pa, .inl (g.2.1.1, 6, .inl (zf wc))), (Pb, .inl (g.2.1.1, 96, .inl (zf wp)))]) [0, 1, 3, 2, 4] rfl
        have hD := hD.sub (ws' := [(T, .inr (0, [.ref Ta, .ref Tb, .ref Tc, .int (nI mi), .int (nI st), .int (nI si)])), (Ta, .inl (g.2.1.1, 6, .inl (zf dn))), (P, .inr (1, [.ref Pa, .ref Pb, .ref Pc, .ref Pd, .int (nI hs), .int (nI np), .int (nI nm), .int (nI nw)])), (Pa, .inl (g.2.1.1, 6, .inl (zf wc))), (Pb, .inl (g.2.1.1, 96, .inl (zf wp)))]) [0, 1, 3, 2, 4] (by decide) rfl
        exact hret 64 _ _ _ 1 () dX0_maySetOut_64 rfl hP hD hS (show 1 = if zMay wc wp dn mi hr p then 1 else 0 from by first | (rw [if_pos ⟨by omega, by rw [if_pos (by omega)]; omega⟩]) | (rw [if_pos ⟨by omega, by rw [if_neg (by omega)]; omega⟩]) | (rw [if_neg (fun q => by have q1 := q.1; omega)]) | (rw [if_neg (fun q => by have q2 := q.2; rw [if_pos (by omega)] at q2; omega)]) | (rw [if_neg (fun q => by have q2 := q.2; rw [if_neg (by omega)] at q2; omega)]))
    · refine lv_iload_n hx hb dX0_maySetOut_32 rfl (lv_at hl 3 rfl) ?_
      refine lv_goto (tgt := 40) hx hb dX0_maySetOut_33 (by decide) ?_
      refine lv_istore (lv' := [(4, .int (nI hr)), (0, .ref T), (1, .ref P), (2, .int (nI p)), (3, .int (nI hr))]) hx hb dX0_maySetOut_40 hl (by decide) rfl (fun ls hl => ?_)
      refine lv_iload hx hb dX0_maySetOut_42 (lv_at hl 0 rfl) ?_
      refine lv_aload_n hx hb dX0_maySetOut_44 rfl (lv_at hl 2 rfl) ?_
      refine lv_iload_n hx hb dX0_maySetOut_45 rfl (lv_at hl 3 rfl) ?_
      refine lv_aload_n hx hb dX0_maySetOut_46 rfl (lv_at hl 1 rfl) ?_
      refine va_get (D := g.1) (ci := 0) (v := .ref Ta) (C := RX0) (T := TX0) (N := 6) hx hb hts hiX0 hown hK.1 hP 0 rfl rfl 0 (by decide) hf0 (fun _ h9 => h9) rfl dX0_maySetOut_47 ?_
      refine lv_iload_n hx hb dX0_maySetOut_50 rfl (lv_at hl 3 rfl) ?_
      refine zz_iald hx hb hK.1 hP 1 0 rfl rfl p rfl (by omega) (by decide) dX0_maySetOut_51 ?_
      refine lv_iconst (v := 1) hx hb dX0_maySetOut_52 (by decide) ?_
      refine zz_callI (wr := [(T, .inr (0, [.ref Ta, .ref Tb, .ref Tc, .int (nI mi), .int (nI st), .int (nI si)])), (Ta, .inl (g.2.1.1, 6, .inl (zf dn))), (Pa, .inl (g.2.1.1, 6, .inl (zf wc)))]) (wc := [(P, .inr (1, [.ref Pa, .ref Pb, .ref Pc, .ref Pd, .int (nI hs), .int (nI np), .int (nI nm), .int (nI nw)])), (Pb, .inl (g.2.1.1, 96, .inl (zf wp)))]) (As := [.int (nI p), .int (nI (dn p)), .int (nI 1)]) (rest := [.int (nI hr)]) F hK hE hA hP hD hS (c_X1_wayPart l g (P := P) (Pa := Pa) (Pb := Pb) (Pc := Pc) (Pd := Pd) (hs := hs) (np := np) (nm := nm) (nw := nw) (wp := wp) (p := p) (k := (dn p)) (w := 1) (hp := by first | assumption | omega) (hk := by first | assumption | omega) (hw3 := by first | assumption | omega)) (cwV 3 hts gX0_maySetOut_X1_wayPart rfl rfl rfl (by decide +kernel) ⟨Nat.le_of_ble_eq_true rfl, Nat.le_of_ble_eq_true rfl⟩) [3, 4] [0, 1, 2] rfl rfl (by decide) (by decide) (by decide) 1 0 rfl rfl rfl rfl rfl hl.1 (Nat.le_of_ble_eq_true rfl) dX0_maySetOut_53 ⟨Nat.le_of_ble_eq_true rfl, Nat.le_of_ble_eq_true rfl⟩ (fun r_10 u_10 H locs hw hP hD hS => ?_)
      have hP : va_P g.1 vwCl [(T, .inr (0, [.ref Ta, .ref Tb, .ref Tc, .int (nI mi), .int (nI st), .int (nI si)])), (Ta, .inl (g.2.1.1, 6, .inl (zf dn))), (Pa, .inl (g.2.1.1, 6, .inl (zf wc))), (P, .inr (1, [.ref Pa, .ref Pb, .ref Pc, .ref Pd, .int (nI hs), .int (nI np), .int (nI nm), .int (nI nw)])), (Pb, .inl (g.2.1.1, 96, .inl (zf wp)))] _ := hP
      have hD : va_D A [(T, .inr (0, [.ref Ta, .ref Tb, .ref Tc, .int (nI mi), .int (nI st), .int (nI si)])), (Ta, .inl (g.2.1.1, 6, .inl (zf dn))), (Pa, .inl (g.2.1.1, 6, .inl (zf wc))), (P, .inr (1, [.ref Pa, .ref Pb, .ref Pc, .ref Pd, .int (nI hs), .int (nI np), .int (nI nm), .int (nI nw)])), (Pb, .inl (g.2.1.1, 96, .inl (zf wp)))] := hD
      have hr_10 := hw
      have hr_10 : r_10 = nI (wp (16 * p + 4 * (dn p) + 1)) := hr_10
      subst hr_10
      have hq_11 := hwp (16 * p + 4 * (dn p) + 1)
      refine zz_icmp_lt (tgt := 63) hx hb dX0_maySetOut_56 (by decide) (zi_n hr) (zi_n (wp (16 * p + 4 * (dn p) + 1))) (by omega) (by omega) (fun c_12 => ?_) (fun c_12 => ?_)
      · refine lv_iconst (v := 0) hx hb dX0_maySetOut_63 (by decide) ?_
        have hP := hP.sub (ws' := [(T, .inr (0, [.ref Ta, .ref Tb, .ref Tc, .int (nI mi), .int (nI st), .int (nI si)])), (Ta, .inl (g.2.1.1, 6, .inl (zf dn))), (P, .inr (1, [.ref Pa, .ref Pb, .ref Pc, .ref Pd, .int (nI hs), .int (nI np), .int (nI nm), .int (nI nw)])), (Pa, .inl (g.2.1.1, 6, .inl (zf wc))), (Pb, .inl (g.2.1.1, 96, .inl (zf wp)))]) [0, 1, 3, 2, 4] rfl
        have hD := hD.sub (ws' := [(T, .inr (0, [.ref Ta, .ref Tb, .ref Tc, .int (nI mi), .int (nI st), .int (nI si)])), (Ta, .inl (g.2.1.1, 6, .inl (zf dn))), (P, .inr (1, [.ref Pa, .ref Pb, .ref Pc, .ref Pd, .int (nI hs), .int (nI np), .int (nI nm), .int (nI nw)])), (Pa, .inl (g.2.1.1, 6, .inl (zf wc))), (Pb, .inl (g.2.1.1, 96, .inl (zf wp)))]) [0, 1, 3, 2, 4] (by decide) rfl
        exact hret 64 _ _ _ 0 () dX0_maySetOut_64 rfl hP hD hS (show 0 = if zMay wc wp dn mi hr p then 1 else 0 from by first | (rw [if_pos ⟨by omega, by rw [if_pos (by omega)]; omega⟩]) | (rw [if_pos ⟨by omega, by rw [if_neg (by omega)]; omega⟩]) | (rw [if_neg (fun q => by have q1 := q.1; omega)]) | (rw [if_neg (fun q => by have q2 := q.2; rw [if_pos (by omega)] at q2; omega)]) | (rw [if_neg (fun q => by have q2 := q.2; rw [if_neg (by omega)] at q2; omega)]))
      · refine lv_iconst (v := 1) hx hb dX0_maySetOut_59 (by decide) ?_
        refine lv_goto (tgt := 64) hx hb dX0_maySetOut_60 (by decide) ?_
        have hP := hP.sub (ws' := [(T, .inr (0, [.ref Ta, .ref Tb, .ref Tc, .int (nI mi), .int (nI st), .int (nI si)])), (Ta, .inl (g.2.1.1, 6, .inl (zf dn))), (P, .inr (1, [.ref Pa, .ref Pb, .ref Pc, .ref Pd, .int (nI hs), .int (nI np), .int (nI nm), .int (nI nw)])), (Pa, .inl (g.2.1.1, 6, .inl (zf wc))), (Pb, .inl (g.2.1.1, 96, .inl (zf wp)))]) [0, 1, 3, 2, 4] rfl
        have hD := hD.sub (ws' := [(T, .inr (0, [.ref Ta, .ref Tb, .ref Tc, .int (nI mi), .int (nI st), .int (nI si)])), (Ta, .inl (g.2.1.1, 6, .inl (zf dn))), (P, .inr (1, [.ref Pa, .ref Pb, .ref Pc, .ref Pd, .int (nI hs), .int (nI np), .int (nI nm), .int (nI nw)])), (Pa, .inl (g.2.1.1, 6, .inl (zf wc))), (Pb, .inl (g.2.1.1, 96, .inl (zf wp)))]) [0, 1, 3, 2, 4] (by decide) rfl
        exact hret 64 _ _ _ 1 () dX0_maySetOut_64 rfl hP hD hS (show 1 = if zMay wc wp dn mi hr p then 1 else 0 from by first | (rw [if_pos ⟨by omega, by rw [if_pos (by omega)]; omega⟩]) | (rw [if_pos ⟨by omega, by rw [if_neg (by omega)]; omega⟩]) | (rw [if_neg (fun q => by have q1 := q.1; omega)]) | (rw [if_neg (fun q => by have q2 := q.2; rw [if_pos (by omega)] at q2; omega)]) | (rw [if_neg (fun q => by have q2 := q.2; rw [if_neg (by omega)] at q2; omega)]))
  · rw [if_neg b_2] at hr_1
    subst hr_1
    refine zz_if_ne (tgt := 16) hx hb dX0_maySetOut_11 (by decide) (zi_c 0 rfl) (by omega) (fun c_13 => (by exfalso; omega)) (fun c_13 => ?_)
    refine lv_iconst (v := 0) hx hb dX0_maySetOut_14 (by decide) ?_
    have hP := hP.sub (ws' := [(T, .inr (0, [.ref Ta, .ref Tb, .ref Tc, .int (nI mi), .int (nI st), .int (nI si)])), (Ta, .inl (g.2.1.1, 6, .inl (zf dn))), (P, .inr (1, [.ref Pa, .ref Pb, .ref Pc, .ref Pd, .int (nI hs), .int (nI np), .int (nI nm), .int (nI nw)])), (Pa, .inl (g.2.1.1, 6, .inl (zf wc))), (Pb, .inl (g.2.1.1, 96, .inl (zf wp)))]) [0, 1, 3, 4, 2] rfl
    have hD := hD.sub (ws' := [(T, .inr (0, [.ref Ta, .ref Tb, .ref Tc, .int (nI mi), .int (nI st), .int (nI si)])), (Ta, .inl (g.2.1.1, 6, .inl (zf dn))), (P, .inr (1, [.ref Pa, .ref Pb, .ref Pc, .ref Pd, .int (nI hs), .int (nI np), .int (nI nm), .int (nI nw)])), (Pa, .inl (g.2.1.1, 6, .inl (zf wc))), (Pb, .inl (g.2.1.1, 96, .inl (zf wp)))]) [0, 1, 3, 4, 2] (by decide) rfl
    exact hret 15 _ _ _ 0 () dX0_maySetOut_15 rfl hP hD hS (show 0 = if zMay wc wp dn mi hr p then 1 else 0 from by first | (rw [if_pos ⟨by omega, by rw [if_pos (by omega)]; omega⟩]) | (rw [if_pos ⟨by omega, by rw [if_neg (by omega)]; omega⟩]) | (rw [if_neg (fun q => by have q1 := q.1; omega)]) | (rw [if_neg (fun q => by have q2 := q.2; rw [if_pos (by omega)] at q2; omega)]) | (rw [if_neg (fun q => by have q2 := q.2; rw [if_neg (by omega)] at q2; omega)]))

set_option maxHeartbeats 4000000 in
set_option maxRecDepth 100000 in
theorem c_X0_walk (l : Launch) (g : zG) (T Ta Tb Tc : Nat) (mi st si : Nat) (dn lf tk : Nat → Nat) (P Pa Pb Pc Pd : Nat) (hs np nm nw : Nat) (wc wp : Nat → Nat) (p hr : Nat) (hnp : np ≤ 6) (hwc : ∀ p, wc p ≤ 4) (hwp : ∀ k, wp k < 1000) (hp : p < np) (hd : dn p ≤ wc p) (hlf0 : lf p ≠ 0 → dn p < wc p) (hlf : lf p < 1000) (htk : tk p < 1000000000) (hmi : mi < 2147483648) (hhr : hr < 2147483648) : zI l yX0_walk wsX0_walk 2 48 g [.ref T, .ref P, .int (nI p), .int (nI hr)] [(T, .inr (0, [.ref Ta, .ref Tb, .ref Tc, .int (nI mi), .int (nI st), .int (nI si)])), (Ta, .inl (g.2.1.1, 6, .inl (zf dn))), (Tb, .inl (g.2.1.1, 6, .inl (zf lf))), (Tc, .inl (g.2.1.1, 6, .inl (zf tk))), (P, .inr (1, [.ref Pa, .ref Pb, .ref Pc, .ref Pd, .int (nI hs), .int (nI np), .int (nI nm), .int (nI nw)])), (Pa, .inl (g.2.1.1, 6, .inl (zf wc))), (Pb, .inl (g.2.1.1, 96, .inl (zf wp)))] (fun (r : Int32) (u : Unit) => r = nI (zTk wc wp dn lf mi hr p)) (fun (u : Unit) => [(T, .inr (0, [.ref Ta, .ref Tb, .ref Tc, .int (nI mi), .int (nI st), .int (nI si)])), (Ta, .inl (g.2.1.1, 6, .inl (zf (zu dn p (zDn wc wp dn lf mi hr p))))), (Tb, .inl (g.2.1.1, 6, .inl (zf (zu lf p (zLf wc wp dn lf mi hr p))))), (Tc, .inl (g.2.1.1, 6, .inl (zf (zu tk p (tk p + zTk wc wp dn lf mi hr p))))), (P, .inr (1, [.ref Pa, .ref Pb, .ref Pc, .ref Pd, .int (nI hs), .int (nI np), .int (nI nm), .int (nI nw)])), (Pa, .inl (g.2.1.1, 6, .inl (zf wc))), (Pb, .inl (g.2.1.1, 96, .inl (zf wp)))]) := by
  refine zz_bodyI (cc := cX0_walk) (nL := 5) (own := RX0) (ty := .int) (by decide) rfl rfl (Nat.le_of_ble_eq_true rfl) ?_
  intro pP eE s mM below meth cC A Q ls F hA hK hE hP hD hl hret
  have hS : va_S A s.heap s.heap [] := va_S.rf
  obtain ⟨hx, hb, hml, hown, hts⟩ := id F
  have hiX0 : ∀ w ∈ u_ws RX0 TX0 6, w ∈ wsX0_walk := by decide +kernel
  have hf0 := hts (.fieldLink RX0 15 "StepClock$Moment" "left" "[I") (by decide +kernel)
  have hf1 := hts (.fieldLink RX0 9 "StepClock$Moment" "done" "[I") (by decide +kernel)
  have hf2 := hts (.methodLink RX0 59 Lib.Math.min.name) (by decide +kernel)
  have hf3 := hts (.static Lib.Math.min.name) (by decide +kernel)
  have hf4 := hts (.initialized "java/lang/Math") (by decide +kernel)
  have hf5 := hts (.code Lib.Math.min.name Lib.Math.min.code 2 (some .int)) (by decide +kernel)
  have hf6 := hts (.fieldLink RX0 18 "StepClock$Moment" "taken" "[I") (by decide +kernel)
  have hl : lv_has ls 5 [(0, .ref T), (1, .ref P), (2, .int (nI p)), (3, .int (nI hr))] := hl
  have hwcp := hwc p
  have hcut37 : ∀ (H : Heap) (locs : List Loc) (ls : Array Slot), (zL1 wc wp dn lf mi hr p < 1000 ∧ (zL1 wc wp dn lf mi hr p ≠ 0 → dn p < wc p)) → va_P g.1 vwCl [(T, .inr (0, [.ref Ta, .ref Tb, .ref Tc, .int (nI mi), .int (nI st), .int (nI si)])), (Ta, .inl (g.2.1.1, 6, .inl (zf dn))), (Tb, .inl (g.2.1.1, 6, .inl (zf (zu lf p (zL1 wc wp dn lf mi hr p))))), (Tc, .inl (g.2.1.1, 6, .inl (zf tk))), (P, .inr (1, [.ref Pa, .ref Pb, .ref Pc, .ref Pd, .int (nI hs), .int (nI np), .int (nI nm), .int (nI nw)])), (Pa, .inl (g.2.1.1, 6, .inl (zf wc))), (Pb, .inl (g.2.1.1, 96, .inl (zf wp)))] H → va_D A [(T, .inr (0, [.ref Ta, .ref Tb, .ref Tc, .int (nI mi), .int (nI st), .int (nI si)])), (Ta, .inl (g.2.1.1, 6, .inl (zf dn))), (Tb, .inl (g.2.1.1, 6, .inl (zf (zu lf p (zL1 wc wp dn lf mi hr p))))), (Tc, .inl (g.2.1.1, 6, .inl (zf tk))), (P, .inr (1, [.ref Pa, .ref Pb, .ref Pc, .ref Pd, .int (nI hs), .int (nI np), .int (nI nm), .int (nI nw)])), (Pa, .inl (g.2.1.1, 6, .inl (zf wc))), (Pb, .inl (g.2.1.1, 96, .inl (zf wp)))] → va_S A s.heap H locs → lv_has ls 5 [(0, .ref T), (1, .ref P), (2, .int (nI p)), (3, .int (nI hr))] → W pP l eE { frames := 2, cells := 0, slots := 0, locals := 48 } s mM ([.ref T, .ref P, .int (nI p), .int (nI hr)] : List Value).toArray below meth cC H locs 0 0 Q (F0 mM 37 ls []) := by
    intro H locs ls hL hP hD hS hl
    refine lv_aload_n hx hb dX0_walk_37 rfl (lv_at hl 0 rfl) ?_
    refine va_get (D := g.1) (ci := 0) (v := .ref Tb) (C := RX0) (T := TX0) (N := 6) hx hb hts hiX0 hown hK.1 hP 0 rfl rfl 1 (by decide) hf0 (fun _ h9 => h9) rfl dX0_walk_38 ?_
    refine lv_iload_n hx hb dX0_walk_41 rfl (lv_at hl 2 rfl) ?_
    refine zz_iald hx hb hK.1 hP 2 0 rfl rfl p rfl (by omega) (by decide) dX0_walk_42 ?_
    refine zz_topi (y := nI (zL1 wc wp dn lf mi hr p)) (congrArg nI (zu_at _ _ _)) ?_
    refine zz_if_ne (tgt := 48) hx hb dX0_walk_43 (by decide) (zi_n (zL1 wc wp dn lf mi hr p)) (by omega) (fun c_1 => ?_) (fun c_1 => ?_)
    · refine lv_aload_n hx hb dX0_walk_48 rfl (lv_at hl 1 rfl) ?_
      refine lv_iload_n hx hb dX0_walk_49 rfl (lv_at hl 2 rfl) ?_
      refine lv_aload_n hx hb dX0_walk_50 rfl (lv_at hl 0 rfl) ?_
      refine va_get (D := g.1) (ci := 0) (v := .ref Ta) (C := RX0) (T := TX0) (N := 6) hx hb hts hiX0 hown hK.1 hP 0 rfl rfl 0 (by decide) hf1 (fun _ h9 => h9) rfl dX0_walk_51 ?_
      refine lv_iload_n hx hb dX0_walk_54 rfl (lv_at hl 2 rfl) ?_
      refine zz_iald hx hb hK.1 hP 1 0 rfl rfl p rfl (by omega) (by decide) dX0_walk_55 ?_
      refine lv_iconst (v := 3) hx hb dX0_walk_56 (by decide) ?_
      refine zz_callI (wr := [(T, .inr (0, [.ref Ta, .ref Tb, .ref Tc, .int (nI mi), .int (nI st), .int (nI si)])), (Ta, .inl (g.2.1.1, 6, .inl (zf dn))), (Tb, .inl (g.2.1.1, 6, .inl (zf (zu lf p (zL1 wc wp dn lf mi hr p))))), (Tc, .inl (g.2.1.1, 6, .inl (zf tk))), (Pa, .inl (g.2.1.1, 6, .inl (zf wc)))]) (wc := [(P, .inr (1, [.ref Pa, .ref Pb, .ref Pc, .ref Pd, .int (nI hs), .int (nI np), .int (nI nm), .int (nI nw)])), (Pb, .inl (g.2.1.1, 96, .inl (zf wp)))]) (As := [.int (nI p), .int (nI (dn p)), .int (nI 3)]) (rest := []) F hK hE hA hP hD hS (c_X1_wayPart l g (P := P) (Pa := Pa) (Pb := Pb) (Pc := Pc) (Pd := Pd) (hs := hs) (np := np) (nm := nm) (nw := nw) (wp := wp) (p := p) (k := (dn p)) (w := 3) (hp := by first | assumption | omega) (hk := by (have hz := hL.2 (by omega); omega)) (hw3 := by first | assumption | omega)) (cwV 3 hts gX0_walk_X1_wayPart rfl rfl rfl (by decide +kernel) ⟨Nat.le_of_ble_eq_true rfl, Nat.le_of_ble_eq_true rfl⟩) [4, 6] [0, 1, 2, 3, 5] rfl rfl (by decide) (by decide) (by decide) 1 0 rfl rfl rfl rfl rfl hl.1 (Nat.le_of_ble_eq_true rfl) dX0_walk_57 ⟨Nat.le_of_ble_eq_true rfl, Nat.le_of_ble_eq_true rfl⟩ (fun r_2 u_2 H locs hw hP hD hS => ?_)
      have hP : va_P g.1 vwCl [(T, .inr (0, [.ref Ta, .ref Tb, .ref Tc, .int (nI mi), .int (nI st), .int (nI si)])), (Ta, .inl (g.2.1.1, 6, .inl (zf dn))), (Tb, .inl (g.2.1.1, 6, .inl (zf (zu lf p (zL1 wc wp dn lf mi hr p))))), (Tc, .inl (g.2.1.1, 6, .inl (zf tk))), (Pa, .inl (g.2.1.1, 6, .inl (zf wc))), (P, .inr (1, [.ref Pa, .ref Pb, .ref Pc, .ref Pd, .int (nI hs), .int (nI np), .int (nI nm), .int (nI nw)])), (Pb, .inl (g.2.1.1, 96, .inl (zf wp)))] _ := hP
      have hD : va_D A [(T, .inr (0, [.ref Ta, .ref Tb, .ref Tc, .int (nI mi), .int (nI st), .int (nI si)])), (Ta, .inl (g.2.1.1, 6, .inl (zf dn))), (Tb, .inl (g.2.1.1, 6, .inl (zf (zu lf p (zL1 wc wp dn lf mi hr p))))), (Tc, .inl (g.2.1.1, 6, .inl (zf tk))), (Pa, .inl (g.2.1.1, 6, .inl (zf wc))), (P, .inr (1, [.ref Pa, .ref Pb, .ref Pc, .ref Pd, .int (nI hs), .int (nI np), .int (nI nm), .int (nI nw)])), (Pb, .inl (g.2.1.1, 96, .inl (zf wp)))] := hD
      have hr_2 := hw
      have hr_2 : r_2 = nI (wp (16 * p + 4 * (dn p) + 3)) := hr_2
      subst hr_2
      have hq_3 := hwp (16 * p + 4 * (dn p) + 3)
      refine lv_aload_n hx hb dX0_walk_60 rfl (lv_at hl 0 rfl) ?_
      refine va_get (D := g.1) (ci := 0) (v := .ref Tb) (C := RX0) (T := TX0) (N := 6) hx hb hts hiX0 hown hK.1 hP 0 rfl rfl 1 (by decide) hf0 (fun _ h9 => h9) rfl dX0_walk_61 ?_
      refine lv_iload_n hx hb dX0_walk_64 rfl (lv_at hl 2 rfl) ?_
      refine zz_iald hx hb hK.1 hP 2 0 rfl rfl p rfl (by omega) (by decide) dX0_walk_65 ?_
      refine zz_topi (y := nI (zL1 wc wp dn lf mi hr p)) (congrArg nI (zu_at _ _ _)) ?_
      refine va_mmin hx hb (by rw [hml]; exact hl.1.symm) hown hf2 hf3 hf4 hf5 (Nat.le_of_ble_eq_true rfl) (Nat.le_of_ble_eq_true rfl) (by decide) (by decide) dX0_walk_66 ?_
      have hTk := zTk_le wc wp dn lf mi hr p
      have hTk2 := zTk_le2 wc wp dn lf mi hr p
      have hwq := hwp (16 * p + 4 * dn p + 3)
      refine zz_topi (y := nI (zTk wc wp dn lf mi hr p)) (zTk_e rfl rfl (by omega) (by omega)) ?_
      refine lv_istore (lv' := [(4, .int (nI (zTk wc wp dn lf mi hr p))), (0, .ref T), (1, .ref P), (2, .int (nI p)), (3, .int (nI hr))]) hx hb dX0_walk_69 hl (by decide) rfl (fun ls hl => ?_)
      refine lv_aload_n hx hb dX0_walk_71 rfl (lv_at hl 1 rfl) ?_
      refine va_get (D := g.1) (ci := 0) (v := .ref Tb) (C := RX0) (T := TX0) (N := 6) hx hb hts hiX0 hown hK.1 hP 0 rfl rfl 1 (by decide) hf0 (fun _ h9 => h9) rfl dX0_walk_72 ?_
      refine lv_iload_n hx hb dX0_walk_75 rfl (lv_at hl 3 rfl) ?_
      refine lv_dup2_11 hx hb dX0_walk_76 rfl rfl ?_
      refine zz_iald hx hb hK.1 hP 2 0 rfl rfl p rfl (by omega) (by decide) dX0_walk_77 ?_
      refine zz_topi (y := nI (zL1 wc wp dn lf mi hr p)) (congrArg nI (zu_at _ _ _)) ?_
      refine lv_iload hx hb dX0_walk_78 (lv_at hl 0 rfl) ?_
      refine lv_isub hx hb dX0_walk_80 ?_
      refine zz_topi (y := nI ((zL1 wc wp dn lf mi hr p) - (zTk wc wp dn lf mi hr p))) (zi_eq (zi_sub (zi_n (zL1 wc wp dn lf mi hr p)) (zi_n (zTk wc wp dn lf mi hr p))) (zi_n ((zL1 wc wp dn lf mi hr p) - (zTk wc wp dn lf mi hr p))) (by omega)) ?_
      refine zz_iast hx hb hK.1 hP hD hS 2 0 rfl rfl p rfl (by omega) (by decide) dX0_walk_81 (fun H locs hP hD hS => ?_)
      have hP : va_P g.1 vwCl [(T, .inr (0, [.ref Ta, .ref Tb, .ref Tc, .int (nI mi), .int (nI st), .int (nI si)])), (Ta, .inl (g.2.1.1, 6, .inl (zf dn))), (Tb, .inl (g.2.1.1, 6, .inl (upd (zf (zu lf p (zL1 wc wp dn lf mi hr p))) p (nI ((zL1 wc wp dn lf mi hr p) - (zTk wc wp dn lf mi hr p)))))), (Tc, .inl (g.2.1.1, 6, .inl (zf tk))), (Pa, .inl (g.2.1.1, 6, .inl (zf wc))), (P, .inr (1, [.ref Pa, .ref Pb, .ref Pc, .ref Pd, .int (nI hs), .int (nI np), .int (nI nm), .int (nI nw)])), (Pb, .inl (g.2.1.1, 96, .inl (zf wp)))] _ := hP
      have hD : va_D A [(T, .inr (0, [.ref Ta, .ref Tb, .ref Tc, .int (nI mi), .int (nI st), .int (nI si)])), (Ta, .inl (g.2.1.1, 6, .inl (zf dn))), (Tb, .inl (g.2.1.1, 6, .inl (upd (zf (zu lf p (zL1 wc wp dn lf mi hr p))) p (nI ((zL1 wc wp dn lf mi hr p) - (zTk wc wp dn lf mi hr p)))))), (Tc, .inl (g.2.1.1, 6, .inl (zf tk))), (Pa, .inl (g.2.1.1, 6, .inl (zf wc))), (P, .inr (1, [.ref Pa, .ref Pb, .ref Pc, .ref Pd, .int (nI hs), .int (nI np), .int (nI nm), .int (nI nw)])), (Pb, .inl (g.2.1.1, 96, .inl (zf wp)))] := hD
      rw [zf_upd] at hP hD
      refine lv_aload_n hx hb dX0_walk_82 rfl (lv_at hl 1 rfl) ?_
      refine va_get (D := g.1) (ci := 0) (v := .ref Tc) (C := RX0) (T := TX0) (N := 6) hx hb hts hiX0 hown hK.1 hP 0 rfl rfl 2 (by decide) hf6 (fun _ h9 => h9) rfl dX0_walk_83 ?_
      refine lv_iload_n hx hb dX0_walk_86 rfl (lv_at hl 3 rfl) ?_
      refine lv_dup2_11 hx hb dX0_walk_87 rfl rfl ?_
      refine zz_iald hx hb hK.1 hP 3 0 rfl rfl p rfl (by omega) (by decide) dX0_walk_88 ?_
      refine lv_iload hx hb dX0_walk_89 (lv_at hl 0 rfl) ?_
      refine lv_iadd hx hb dX0_walk_91 ?_
      refine zz_topi (y := nI ((tk p) + (zTk wc wp dn lf mi hr p))) (zi_eq (zi_add (zi_n (tk p)) (zi_n (zTk wc wp dn lf mi hr p))) (zi_n ((tk p) + (zTk wc wp dn lf mi hr p))) (by omega)) ?_
      refine zz_iast hx hb hK.1 hP hD hS 3 0 rfl rfl p rfl (by omega) (by decide) dX0_walk_92 (fun H locs hP hD hS => ?_)
      have hP : va_P g.1 vwCl [(T, .inr (0, [.ref Ta, .ref Tb, .ref Tc, .int (nI mi), .int (nI st), .int (nI si)])), (Ta, .inl (g.2.1.1, 6, .inl (zf dn))), (Tb, .inl (g.2.1.1, 6, .inl (zf (zu (zu lf p (zL1 wc wp dn lf mi hr p)) p ((zL1 wc wp dn lf mi hr p) - (zTk wc wp dn lf mi hr p)))))), (Tc, .inl (g.2.1.1, 6, .inl (upd (zf tk) p (nI ((tk p) + (zTk wc wp dn lf mi hr p)))))), (Pa, .inl (g.2.1.1, 6, .inl (zf wc))), (P, .inr (1, [.ref Pa, .ref Pb, .ref Pc, .ref Pd, .int (nI hs), .int (nI np), .int (nI nm), .int (nI nw)])), (Pb, .inl (g.2.1.1, 96, .inl (zf wp)))] _ := hP
      have hD : va_D A [(T, .inr (0, [.ref Ta, .ref Tb, .ref Tc, .int (nI mi), .int (nI st), .int (nI si)])), (Ta, .inl (g.2.1.1, 6, .inl (zf dn))), (Tb, .inl (g.2.1.1, 6, .inl (zf (zu (zu lf p (zL1 wc wp dn lf mi hr p)) p ((zL1 wc wp dn lf mi hr p) - (zTk wc wp dn lf mi hr p)))))), (Tc, .inl (g.2.1.1, 6, .inl (upd (zf tk) p (nI ((tk p) + (zTk wc wp dn lf mi hr p)))))), (Pa, .inl (g.2.1.1, 6, .inl (zf wc))), (P, .inr (1, [.ref Pa, .ref Pb, .ref Pc, .ref Pd, .int (nI hs), .int (nI np), .int (nI nm), .int (nI nw)])), (Pb, .inl (g.2.1.1, 96, .inl (zf wp)))] := hD
      rw [zf_upd] at hP hD
      refine lv_aload_n hx hb dX0_walk_93 rfl (lv_at hl 1 rfl) ?_
      refine va_get (D := g.1) (ci := 0) (v := .ref Tb) (C := RX0) (T := TX0) (N := 6) hx hb hts hiX0 hown hK.1 hP 0 rfl rfl 1 (by decide) hf0 (fun _ h9 => h9) rfl dX0_walk_94 ?_
      refine lv_iload_n hx hb dX0_walk_97 rfl (lv_at hl 3 rfl) ?_
      refine zz_iald hx hb hK.1 hP 2 0 rfl rfl p rfl (by omega) (by decide) dX0_walk_98 ?_
      refine zz_topi (y := nI ((zL1 wc wp dn lf mi hr p) - (zTk wc wp dn lf mi hr p))) (congrArg nI (zu_at _ _ _)) ?_
      refine zz_if_ne (tgt := 112) hx hb dX0_walk_99 (by decide) (zi_n ((zL1 wc wp dn lf mi hr p) - (zTk wc wp dn lf mi hr p))) (by omega) (fun c_4 => ?_) (fun c_4 => ?_)
      · refine lv_iload hx hb dX0_walk_112 (lv_at hl 0 rfl) ?_
        have hP := hP.sub (ws' := [(T, .inr (0, [.ref Ta, .ref Tb, .ref Tc, .int (nI mi), .int (nI st), .int (nI si)])), (Ta, .inl (g.2.1.1, 6, .inl (zf dn))), (Tb, .inl (g.2.1.1, 6, .inl (zf (zu (zu lf p (zL1 wc wp dn lf mi hr p)) p ((zL1 wc wp dn lf mi hr p) - (zTk wc wp dn lf mi hr p)))))), (Tc, .inl (g.2.1.1, 6, .inl (zf (zu tk p ((tk p) + (zTk wc wp dn lf mi hr p)))))), (P, .inr (1, [.ref Pa, .ref Pb, .ref Pc, .ref Pd, .int (nI hs), .int (nI np), .int (nI nm), .int (nI nw)])), (Pa, .inl (g.2.1.1, 6, .inl (zf wc))), (Pb, .inl (g.2.1.1, 96, .inl (zf wp)))]) [0, 1, 2, 3, 5, 4, 6] rfl
        have hD := hD.sub (ws' := [(T, .inr (0, [.ref Ta, .ref Tb, .ref Tc, .int (nI mi), .int (nI st), .int (nI si)])), (Ta, .inl (g.2.1.1, 6, .inl (zf dn))), (Tb, .inl (g.2.1.1, 6, .inl (zf (zu (zu lf p (zL1 wc wp dn lf mi hr p)) p ((zL1 wc wp dn lf mi hr p) - (zTk wc wp dn lf mi hr p)))))), (Tc, .inl (g.2.1.1, 6, .inl (zf (zu tk p ((tk p) + (zTk wc wp dn lf mi hr p)))))), (P, .inr (1, [.ref Pa, .ref Pb, .ref Pc, .ref Pd, .int (nI hs), .int (nI np), .int (nI nm), .int (nI nw)])), (Pa, .inl (g.2.1.1, 6, .inl (zf wc))), (Pb, .inl (g.2.1.1, 96, .inl (zf wp)))]) [0, 1, 2, 3, 5, 4, 6] (by decide) rfl
        have eq_5 : dn = (zu dn p (zDn wc wp dn lf mi hr p)) := by first | exact zu_id (by rw [zDn, if_neg (by rw [zLf]; omega)]) | (rw [zDn, if_pos (by rw [zLf]; omega)])
        have hP : va_P g.1 vwCl [(T, .inr (0, [.ref Ta, .ref Tb, .ref Tc, .int (nI mi), .int (nI st), .int (nI si)])), (Ta, .inl (g.2.1.1, 6, .inl (zf (zu dn p (zDn wc wp dn lf mi hr p))))), (Tb, .inl (g.2.1.1, 6, .inl (zf (zu (zu lf p (zL1 wc wp dn lf mi hr p)) p ((zL1 wc wp dn lf mi hr p) - (zTk wc wp dn lf mi hr p)))))), (Tc, .inl (g.2.1.1, 6, .inl (zf (zu tk p ((tk p) + (zTk wc wp dn lf mi hr p)))))), (P, .inr (1, [.ref Pa, .ref Pb, .ref Pc, .ref Pd, .int (nI hs), .int (nI np), .int (nI nm), .int (nI nw)])), (Pa, .inl (g.2.1.1, 6, .inl (zf wc))), (Pb, .inl (g.2.1.1, 96, .inl (zf wp)))] _ := Eq.mp (congrArg (fun z => va_P g.1 vwCl [(T, .inr (0, [.ref Ta, .ref Tb, .ref Tc, .int (nI mi), .int (nI st), .int (nI si)])), (Ta, .inl (g.2.1.1, 6, .inl (zf z))), (Tb, .inl (g.2.1.1, 6, .inl (zf (zu (zu lf p (zL1 wc wp dn lf mi hr p)) p ((zL1 wc wp dn lf mi hr p) - (zTk wc wp dn lf mi hr p)))))), (Tc, .inl (g.2.1.1, 6, .inl (zf (zu tk p ((tk p) + (zTk wc wp dn lf mi hr p)))))), (P, .inr (1, [.ref Pa, .ref Pb, .ref Pc, .ref Pd, .int (nI hs), .int (nI np), .int (nI nm), .int (nI nw)])), (Pa, .inl (g.2.1.1, 6, .inl (zf wc))), (Pb, .inl (g.2.1.1, 96, .inl (zf wp)))] _) eq_5) hP
        have hD : va_D A [(T, .inr (0, [.ref Ta, .ref Tb, .ref Tc, .int (nI mi), .int (nI st), .int (nI si)])), (Ta, .inl (g.2.1.1, 6, .inl (zf (zu dn p (zDn wc wp dn lf mi hr p))))), (Tb, .inl (g.2.1.1, 6, .inl (zf (zu (zu lf p (zL1 wc wp dn lf mi hr p)) p ((zL1 wc wp dn lf mi hr p) - (zTk wc wp dn lf mi hr p)))))), (Tc, .inl (g.2.1.1, 6, .inl (zf (zu tk p ((tk p) + (zTk wc wp dn lf mi hr p)))))), (P, .inr (1, [.ref Pa, .ref Pb, .ref Pc, .ref Pd, .int (nI hs), .int (nI np), .int (nI nm), .int (nI nw)])), (Pa, .inl (g.2.1.1, 6, .inl (zf wc))), (Pb, .inl (g.2.1.1, 96, .inl (zf wp)))] := Eq.mp (congrArg (fun z => va_D A [(T, .inr (0, [.ref Ta, .ref Tb, .ref Tc, .int (nI mi), .int (nI st), .int (nI si)])), (Ta, .inl (g.2.1.1, 6, .inl (zf z))), (Tb, .inl (g.2.1.1, 6, .inl (zf (zu (zu lf p (zL1 wc wp dn lf mi hr p)) p ((zL1 wc wp dn lf mi hr p) - (zTk wc wp dn lf mi hr p)))))), (Tc, .inl (g.2.1.1, 6, .inl (zf (zu tk p ((tk p) + (zTk wc wp dn lf mi hr p)))))), (P, .inr (1, [.ref Pa, .ref Pb, .ref Pc, .ref Pd, .int (nI hs), .int (nI np), .int (nI nm), .int (nI nw)])), (Pa, .inl (g.2.1.1, 6, .inl (zf wc))), (Pb, .inl (g.2.1.1, 96, .inl (zf wp)))]) eq_5) hD
        have eq_6 : (zu (zu lf p (zL1 wc wp dn lf mi hr p)) p ((zL1 wc wp dn lf mi hr p) - (zTk wc wp dn lf mi hr p))) = (zu lf p (zLf wc wp dn lf mi hr p)) := by first | (rw [zu_zu, zLf]) | (rw [zLf, show zL1 wc wp dn lf mi hr p = 0 by omega]; simp)
        have hP : va_P g.1 vwCl [(T, .inr (0, [.ref Ta, .ref Tb, .ref Tc, .int (nI mi), .int (nI st), .int (nI si)])), (Ta, .inl (g.2.1.1, 6, .inl (zf (zu dn p (zDn wc wp dn lf mi hr p))))), (Tb, .inl (g.2.1.1, 6, .inl (zf (zu lf p (zLf wc wp dn lf mi hr p))))), (Tc, .inl (g.2.1.1, 6, .inl (zf (zu tk p ((tk p) + (zTk wc wp dn lf mi hr p)))))), (P, .inr (1, [.ref Pa, .ref Pb, .ref Pc, .ref Pd, .int (nI hs), .int (nI np), .int (nI nm), .int (nI nw)])), (Pa, .inl (g.2.1.1, 6, .inl (zf wc))), (Pb, .inl (g.2.1.1, 96, .inl (zf wp)))] _ := Eq.mp (congrArg (fun z => va_P g.1 vwCl [(T, .inr (0, [.ref Ta, .ref Tb, .ref Tc, .int (nI mi), .int (nI st), .int (nI si)])), (Ta, .inl (g.2.1.1, 6, .inl (zf (zu dn p (zDn wc wp dn lf mi hr p))))), (Tb, .inl (g.2.1.1, 6, .inl (zf z))), (Tc, .inl (g.2.1.1, 6, .inl (zf (zu tk p ((tk p) + (zTk wc wp dn lf mi hr p)))))), (P, .inr (1, [.ref Pa, .ref Pb, .ref Pc, .ref Pd, .int (nI hs), .int (nI np), .int (nI nm), .int (nI nw)])), (Pa, .inl (g.2.1.1, 6, .inl (zf wc))), (Pb, .inl (g.2.1.1, 96, .inl (zf wp)))] _) eq_6) hP
        have hD : va_D A [(T, .inr (0, [.ref Ta, .ref Tb, .ref Tc, .int (nI mi), .int (nI st), .int (nI si)])), (Ta, .inl (g.2.1.1, 6, .inl (zf (zu dn p (zDn wc wp dn lf mi hr p))))), (Tb, .inl (g.2.1.1, 6, .inl (zf (zu lf p (zLf wc wp dn lf mi hr p))))), (Tc, .inl (g.2.1.1, 6, .inl (zf (zu tk p ((tk p) + (zTk wc wp dn lf mi hr p)))))), (P, .inr (1, [.ref Pa, .ref Pb, .ref Pc, .ref Pd, .int (nI hs), .int (nI np), .int (nI nm), .int (nI nw)])), (Pa, .inl (g.2.1.1, 6, .inl (zf wc))), (Pb, .inl (g.2.1.1, 96, .inl (zf wp)))] := Eq.mp (congrArg (fun z => va_D A [(T, .inr (0, [.ref Ta, .ref Tb, .ref Tc, .int (nI mi), .int (nI st), .int (nI si)])), (Ta, .inl (g.2.1.1, 6, .inl (zf (zu dn p (zDn wc wp dn lf mi hr p))))), (Tb, .inl (g.2.1.1, 6, .inl (zf z))), (Tc, .inl (g.2.1.1, 6, .inl (zf (zu tk p ((tk p) + (zTk wc wp dn lf mi hr p)))))), (P, .inr (1, [.ref Pa, .ref Pb, .ref Pc, .ref Pd, .int (nI hs), .int (nI np), .int (nI nm), .int (nI nw)])), (Pa, .inl (g.2.1.1, 6, .inl (zf wc))), (Pb, .inl (g.2.1.1, 96, .inl (zf wp)))]) eq_6) hD
        have eq_7 : (zu tk p ((tk p) + (zTk wc wp dn lf mi hr p))) = (zu tk p (tk p + zTk wc wp dn lf mi hr p)) := by first | exact zu_id (by have hTk := zTk_le wc wp dn lf mi hr p; omega) | rfl
        have hP : va_P g.1 vwCl [(T, .inr (0, [.ref Ta, .ref Tb, .ref Tc, .int (nI mi), .int (nI st), .int (nI si)])), (Ta, .inl (g.2.1.1, 6, .inl (zf (zu dn p (zDn wc wp dn lf mi hr p))))), (Tb, .inl (g.2.1.1, 6, .inl (zf (zu lf p (zLf wc wp dn lf mi hr p))))), (Tc, .inl (g.2.1.1, 6, .inl (zf (zu tk p (tk p + zTk wc wp dn lf mi hr p))))), (P, .inr (1, [.ref Pa, .ref Pb, .ref Pc, .ref Pd, .int (nI hs), .int (nI np), .int (nI nm), .int (nI nw)])), (Pa, .inl (g.2.1.1, 6, .inl (zf wc))), (Pb, .inl (g.2.1.1, 96, .inl (zf wp)))] _ := Eq.mp (congrArg (fun z => va_P g.1 vwCl [(T, .inr (0, [.ref Ta, .ref Tb, .ref Tc, .int (nI mi), .int (nI st), .int (nI si)])), (Ta, .inl (g.2.1.1, 6, .inl (zf (zu dn p (zDn wc wp dn lf mi hr p))))), (Tb, .inl (g.2.1.1, 6, .inl (zf (zu lf p (zLf wc wp dn lf mi hr p))))), (Tc, .inl (g.2.1.1, 6, .inl (zf z))), (P, .inr (1, [.ref Pa, .ref Pb, .ref Pc, .ref Pd, .int (nI hs), .int (nI np), .int (nI nm), .int (nI nw)])), (Pa, .inl (g.2.1.1, 6, .inl (zf wc))), (Pb, .inl (g.2.1.1, 96, .inl (zf wp)))] _) eq_7) hP
        have hD : va_D A [(T, .inr (0, [.ref Ta, .ref Tb, .ref Tc, .int (nI mi), .int (nI st), .int (nI si)])), (Ta, .inl (g.2.1.1, 6, .inl (zf (zu dn p (zDn wc wp dn lf mi hr p))))), (Tb, .inl (g.2.1.1, 6, .inl (zf (zu lf p (zLf wc wp dn lf mi hr p))))), (Tc, .inl (g.2.1.1, 6, .inl (zf (zu tk p (tk p + zTk wc wp dn lf mi hr p))))), (P, .inr (1, [.ref Pa, .ref Pb, .ref Pc, .ref Pd, .int (nI hs), .int (nI np), .int (nI nm), .int (nI nw)])), (Pa, .inl (g.2.1.1, 6, .inl (zf wc))), (Pb, .inl (g.2.1.1, 96, .inl (zf wp)))] := Eq.mp (congrArg (fun z => va_D A [(T, .inr (0, [.ref Ta, .ref Tb, .ref Tc, .int (nI mi), .int (nI st), .int (nI si)])), (Ta, .inl (g.2.1.1, 6, .inl (zf (zu dn p (zDn wc wp dn lf mi hr p))))), (Tb, .inl (g.2.1.1, 6, .inl (zf (zu lf p (zLf wc wp dn lf mi hr p))))), (Tc, .inl (g.2.1.1, 6, .inl (zf z))), (P, .inr (1, [.ref Pa, .ref Pb, .ref Pc, .ref Pd, .int (nI hs), .int (nI np), .int (nI nm), .int (nI nw)])), (Pa, .inl (g.2.1.1, 6, .inl (zf wc))), (Pb, .inl (g.2.1.1, 96, .inl (zf wp)))]) eq_7) hD
        exact hret 114 _ _ _ (nI (zTk wc wp dn lf mi hr p)) () dX0_walk_114 rfl hP hD hS (show (nI (zTk wc wp dn lf mi hr p)) = nI (zTk wc wp dn lf mi hr p) from by first | rfl | (have hTk := zTk_le wc wp dn lf mi hr p; rw [show zTk wc wp dn lf mi hr p = 0 by omega]; rfl))
      · refine lv_aload_n hx hb dX0_walk_102 rfl (lv_at hl 1 rfl) ?_
        refine va_get (D := g.1) (ci := 0) (v := .ref Ta) (C := RX0) (T := TX0) (N := 6) hx hb hts hiX0 hown hK.1 hP 0 rfl rfl 0 (by decide) hf1 (fun _ h9 => h9) rfl dX0_walk_103 ?_
        refine lv_iload_n hx hb dX0_walk_106 rfl (lv_at hl 3 rfl) ?_
        refine lv_dup2_11 hx hb dX0_walk_107 rfl rfl ?_
        refine zz_iald hx hb hK.1 hP 1 0 rfl rfl p rfl (by omega) (by decide) dX0_walk_108 ?_
        refine lv_iconst (v := 1) hx hb dX0_walk_109 (by decide) ?_
        refine lv_iadd hx hb dX0_walk_110 ?_
        refine zz_topi (y := nI ((dn p) + 1)) (zi_eq (zi_add (zi_n (dn p)) (zi_c 1 rfl)) (zi_n ((dn p) + 1)) (by omega)) ?_
        refine zz_iast hx hb hK.1 hP hD hS 1 0 rfl rfl p rfl (by omega) (by decide) dX0_walk_111 (fun H locs hP hD hS => ?_)
        have hP : va_P g.1 vwCl [(T, .inr (0, [.ref Ta, .ref Tb, .ref Tc, .int (nI mi), .int (nI st), .int (nI si)])), (Ta, .inl (g.2.1.1, 6, .inl (upd (zf dn) p (nI ((dn p) + 1))))), (Tb, .inl (g.2.1.1, 6, .inl (zf (zu (zu lf p (zL1 wc wp dn lf mi hr p)) p ((zL1 wc wp dn lf mi hr p) - (zTk wc wp dn lf mi hr p)))))), (Tc, .inl (g.2.1.1, 6, .inl (zf (zu tk p ((tk p) + (zTk wc wp dn lf mi hr p)))))), (Pa, .inl (g.2.1.1, 6, .inl (zf wc))), (P, .inr (1, [.ref Pa, .ref Pb, .ref Pc, .ref Pd, .int (nI hs), .int (nI np), .int (nI nm), .int (nI nw)])), (Pb, .inl (g.2.1.1, 96, .inl (zf wp)))] _ := hP
        have hD : va_D A [(T, .inr (0, [.ref Ta, .ref Tb, .ref Tc, .int (nI mi), .int (nI st), .int (nI si)])), (Ta, .inl (g.2.1.1, 6, .inl (upd (zf dn) p (nI ((dn p) + 1))))), (Tb, .inl (g.2.1.1, 6, .inl (zf (zu (zu lf p (zL1 wc wp dn lf mi hr p)) p ((zL1 wc wp dn lf mi hr p) - (zTk wc wp dn lf mi hr p)))))), (Tc, .inl (g.2.1.1, 6, .inl (zf (zu tk p ((tk p) + (zTk wc wp dn lf mi hr p)))))), (Pa, .inl (g.2.1.1, 6, .inl (zf wc))), (P, .inr (1, [.ref Pa, .ref Pb, .ref Pc, .ref Pd, .int (nI hs), .int (nI np), .int (nI nm), .int (nI nw)])), (Pb, .inl (g.2.1.1, 96, .inl (zf wp)))] := hD
        rw [zf_upd] at hP hD
        refine lv_iload hx hb dX0_walk_112 (lv_at hl 0 rfl) ?_
        have hP := hP.sub (ws' := [(T, .inr (0, [.ref Ta, .ref Tb, .ref Tc, .int (nI mi), .int (nI st), .int (nI si)])), (Ta, .inl (g.2.1.1, 6, .inl (zf (zu dn p ((dn p) + 1))))), (Tb, .inl (g.2.1.1, 6, .inl (zf (zu (zu lf p (zL1 wc wp dn lf mi hr p)) p ((zL1 wc wp dn lf mi hr p) - (zTk wc wp dn lf mi hr p)))))), (Tc, .inl (g.2.1.1, 6, .inl (zf (zu tk p ((tk p) + (zTk wc wp dn lf mi hr p)))))), (P, .inr (1, [.ref Pa, .ref Pb, .ref Pc, .ref Pd, .int (nI hs), .int (nI np), .int (nI nm), .int (nI nw)])), (Pa, .inl (g.2.1.1, 6, .inl (zf wc))), (Pb, .inl (g.2.1.1, 96, .inl (zf wp)))]) [0, 1, 2, 3, 5, 4, 6] rfl
        have hD := hD.sub (ws' := [(T, .inr (0, [.ref Ta, .ref Tb, .ref Tc, .int (nI mi), .int (nI st), .int (nI si)])), (Ta, .inl (g.2.1.1, 6, .inl (zf (zu dn p ((dn p) + 1))))), (Tb, .inl (g.2.1.1, 6, .inl (zf (zu (zu lf p (zL1 wc wp dn lf mi hr p)) p ((zL1 wc wp dn lf mi hr p) - (zTk wc wp dn lf mi hr p)))))), (Tc, .inl (g.2.1.1, 6, .inl (zf (zu tk p ((tk p) + (zTk wc wp dn lf mi hr p)))))), (P, .inr (1, [.ref Pa, .ref Pb, .ref Pc, .ref Pd, .int (nI hs), .int (nI np), .int (nI nm), .int (nI nw)])), (Pa, .inl (g.2.1.1, 6, .inl (zf wc))), (Pb, .inl (g.2.1.1, 96, .inl (zf wp)))]) [0, 1, 2, 3, 5, 4, 6] (by decide) rfl
        have eq_8 : (zu dn p ((dn p) + 1)) = (zu dn p (zDn wc wp dn lf mi hr p)) := by first | exact zu_id (by rw [zDn, if_neg (by rw [zLf]; omega)]) | (rw [zDn, if_pos (by rw [zLf]; omega)])
        have hP : va_P g.1 vwCl [(T, .inr (0, [.ref Ta, .ref Tb, .ref Tc, .int (nI mi), .int (nI st), .int (nI si)])), (Ta, .inl (g.2.1.1, 6, .inl (zf (zu dn p (zDn wc wp dn lf mi hr p))))), (Tb, .inl (g.2.1.1, 6, .inl (zf (zu (zu lf p (zL1 wc wp dn lf mi hr p)) p ((zL1 wc wp dn lf mi hr p) - (zTk wc wp dn lf mi hr p)))))), (Tc, .inl (g.2.1.1, 6, .inl (zf (zu tk p ((tk p) + (zTk wc wp dn lf mi hr p)))))), (P, .inr (1, [.ref Pa, .ref Pb, .ref Pc, .ref Pd, .int (nI hs), .int (nI np), .int (nI nm), .int (nI nw)])), (Pa, .inl (g.2.1.1, 6, .inl (zf wc))), (Pb, .inl (g.2.1.1, 96, .inl (zf wp)))] _ := Eq.mp (congrArg (fun z => va_P g.1 vwCl [(T, .inr (0, [.ref Ta, .ref Tb, .ref Tc, .int (nI mi), .int (nI st), .int (nI si)])), (Ta, .inl (g.2.1.1, 6, .inl (zf z))), (Tb, .inl (g.2.1.1, 6, .inl (zf (zu (zu lf p (zL1 wc wp dn lf mi hr p)) p ((zL1 wc wp dn lf mi hr p) - (zTk wc wp dn lf mi hr p)))))), (Tc, .inl (g.2.1.1, 6, .inl (zf (zu tk p ((tk p) + (zTk wc wp dn lf mi hr p)))))), (P, .inr (1, [.ref Pa, .ref Pb, .ref Pc, .ref Pd, .int (nI hs), .int (nI np), .int (nI nm), .int (nI nw)])), (Pa, .inl (g.2.1.1, 6, .inl (zf wc))), (Pb, .inl (g.2.1.1, 96, .inl (zf wp)))] _) eq_8) hP
        have hD : va_D A [(T, .inr (0, [.ref Ta, .ref Tb, .ref Tc, .int (nI mi), .int (nI st), .int (nI si)])), (Ta, .inl (g.2.1.1, 6, .inl (zf (zu dn p (zDn wc wp dn lf mi hr p))))), (Tb, .inl (g.2.1.1, 6, .inl (zf (zu (zu lf p (zL1 wc wp dn lf mi hr p)) p ((zL1 wc wp dn lf mi hr p) - (zTk wc wp dn lf mi hr p)))))), (Tc, .inl (g.2.1.1, 6, .inl (zf (zu tk p ((tk p) + (zTk wc wp dn lf mi hr p)))))), (P, .inr (1, [.ref Pa, .ref Pb, .ref Pc, .ref Pd, .int (nI hs), .int (nI np), .int (nI nm), .int (nI nw)])), (Pa, .inl (g.2.1.1, 6, .inl (zf wc))), (Pb, .inl (g.2.1.1, 96, .inl (zf wp)))] := Eq.mp (congrArg (fun z => va_D A [(T, .inr (0, [.ref Ta, .ref Tb, .ref Tc, .int (nI mi), .int (nI st), .int (nI si)])), (Ta, .inl (g.2.1.1, 6, .inl (zf z))), (Tb, .inl (g.2.1.1, 6, .inl (zf (zu (zu lf p (zL1 wc wp dn lf mi hr p)) p ((zL1 wc wp dn lf mi hr p) - (zTk wc wp dn lf mi hr p)))))), (Tc, .inl (g.2.1.1, 6, .inl (zf (zu tk p ((tk p) + (zTk wc wp dn lf mi hr p)))))), (P, .inr (1, [.ref Pa, .ref Pb, .ref Pc, .ref Pd, .int (nI hs), .int (nI np), .int (nI nm), .int (nI nw)])), (Pa, .inl (g.2.1.1, 6, .inl (zf wc))), (Pb, .inl (g.2.1.1, 96, .inl (zf wp)))]) eq_8) hD
        have eq_9 : (zu (zu lf p (zL1 wc wp dn lf mi hr p)) p ((zL1 wc wp dn lf mi hr p) - (zTk wc wp dn lf mi hr p))) = (zu lf p (zLf wc wp dn lf mi hr p)) := by first | (rw [zu_zu, zLf]) | (rw [zLf, show zL1 wc wp dn lf mi hr p = 0 by omega]; simp)
        have hP : va_P g.1 vwCl [(T, .inr (0, [.ref Ta, .ref Tb, .ref Tc, .int (nI mi), .int (nI st), .int (nI si)])), (Ta, .inl (g.2.1.1, 6, .inl (zf (zu dn p (zDn wc wp dn lf mi hr p))))), (Tb, .inl (g.2.1.1, 6, .inl (zf (zu lf p (zLf wc wp dn lf mi hr p))))), (Tc, .inl (g.2.1.1, 6, .inl (zf (zu tk p ((tk p) + (zTk wc wp dn lf mi hr p)))))), (P, .inr (1, [.ref Pa, .ref Pb, .ref Pc, .ref Pd, .int (nI hs), .int (nI np), .int (nI nm), .int (nI nw)])), (Pa, .inl (g.2.1.1, 6, .inl (zf wc))), (Pb, .inl (g.2.1.1, 96, .inl (zf wp)))] _ := Eq.mp (congrArg (fun z => va_P g.1 vwCl [(T, .inr (0, [.ref Ta, .ref Tb, .ref Tc, .int (nI mi), .int (nI st), .int (nI si)])), (Ta, .inl (g.2.1.1, 6, .inl (zf (zu dn p (zDn wc wp dn lf mi hr p))))), (Tb, .inl (g.2.1.1, 6, .inl (zf z))), (Tc, .inl (g.2.1.1, 6, .inl (zf (zu tk p ((tk p) + (zTk wc wp dn lf mi hr p)))))), (P, .inr (1, [.ref Pa, .ref Pb, .ref Pc, .ref Pd, .int (nI hs), .int (nI np), .int (nI nm), .int (nI nw)])), (Pa, .inl (g.2.1.1, 6, .inl (zf wc))), (Pb, .inl (g.2.1.1, 96, .inl (zf wp)))] _) eq_9) hP
        have hD : va_D A [(T, .inr (0, [.ref Ta, .ref Tb, .ref Tc, .int (nI mi), .int (nI st), .int (nI si)])), (Ta, .inl (g.2.1.1, 6, .inl (zf (zu dn p (zDn wc wp dn lf mi hr p))))), (Tb, .inl (g.2.1.1, 6, .inl (zf (zu lf p (zLf wc wp dn lf mi hr p))))), (Tc, .inl (g.2.1.1, 6, .inl (zf (zu tk p ((tk p) + (zTk wc wp dn lf mi hr p)))))), (P, .inr (1, [.ref Pa, .ref Pb, .ref Pc, .ref Pd, .int (nI hs), .int (nI np), .int (nI nm), .int (nI nw)])), (Pa, .inl (g.2.1.1, 6, .inl (zf wc))), (Pb, .inl (g.2.1.1, 96, .inl (zf wp)))] := Eq.mp (congrArg (fun z => va_D A [(T, .inr (0, [.ref Ta, .ref Tb, .ref Tc, .int (nI mi), .int (nI st), .int (nI si)])), (Ta, .inl (g.2.1.1, 6, .inl (zf (zu dn p (zDn wc wp dn lf mi hr p))))), (Tb, .inl (g.2.1.1, 6, .inl (zf z))), (Tc, .inl (g.2.1.1, 6, .inl (zf (zu tk p ((tk p) + (zTk wc wp dn lf mi hr p)))))), (P, .inr (1, [.ref Pa, .ref Pb, .ref Pc, .ref Pd, .int (nI hs), .int (nI np), .int (nI nm), .int (nI nw)])), (Pa, .inl (g.2.1.1, 6, .inl (zf wc))), (Pb, .inl (g.2.1.1, 96, .inl (zf wp)))]) eq_9) hD
        have eq_10 : (zu tk p ((tk p) + (zTk wc wp dn lf mi hr p))) = (zu tk p (tk p + zTk wc wp dn lf mi hr p)) := by first | exact zu_id (by have hTk := zTk_le wc wp dn lf mi hr p; omega) | rfl
        have hP : va_P g.1 vwCl [(T, .inr (0, [.ref Ta, .ref Tb, .ref Tc, .int (nI mi), .int (nI st), .int (nI si)])), (Ta, .inl (g.2.1.1, 6, .inl (zf (zu dn p (zDn wc wp dn lf mi hr p))))), (Tb, .inl (g.2.1.1, 6, .inl (zf (zu lf p (zLf wc wp dn lf mi hr p))))), (Tc, .inl (g.2.1.1, 6, .inl (zf (zu tk p (tk p + zTk wc wp dn lf mi hr p))))), (P, .inr (1, [.ref Pa, .ref Pb, .ref Pc, .ref Pd, .int (nI hs), .int (nI np), .int (nI nm), .int (nI nw)])), (Pa, .inl (g.2.1.1, 6, .inl (zf wc))), (Pb, .inl (g.2.1.1, 96, .inl (zf wp)))] _ := Eq.mp (congrArg (fun z => va_P g.1 vwCl [(T, .inr (0, [.ref Ta, .ref Tb, .ref Tc, .int (nI mi), .int (nI st), .int (nI si)])), (Ta, .inl (g.2.1.1, 6, .inl (zf (zu dn p (zDn wc wp dn lf mi hr p))))), (Tb, .inl (g.2.1.1, 6, .inl (zf (zu lf p (zLf wc wp dn lf mi hr p))))), (Tc, .inl (g.2.1.1, 6, .inl (zf z))), (P, .inr (1, [.ref Pa, .ref Pb, .ref Pc, .ref Pd, .int (nI hs), .int (nI np), .int (nI nm), .int (nI nw)])), (Pa, .inl (g.2.1.1, 6, .inl (zf wc))), (Pb, .inl (g.2.1.1, 96, .inl (zf wp)))] _) eq_10) hP
        have hD : va_D A [(T, .inr (0, [.ref Ta, .ref Tb, .ref Tc, .int (nI mi), .int (nI st), .int (nI si)])), (Ta, .inl (g.2.1.1, 6, .inl (zf (zu dn p (zDn wc wp dn lf mi hr p))))), (Tb, .inl (g.2.1.1, 6, .inl (zf (zu lf p (zLf wc wp dn lf mi hr p))))), (Tc, .inl (g.2.1.1, 6, .inl (zf (zu tk p (tk p + zTk wc wp dn lf mi hr p))))), (P, .inr (1, [.ref Pa, .ref Pb, .ref Pc, .ref Pd, .int (nI hs), .int (nI np), .int (nI nm), .int (nI nw)])), (Pa, .inl (g.2.1.1, 6, .inl (zf wc))), (Pb, .inl (g.2.1.1, 96, .inl (zf wp)))] := Eq.mp (congrArg (fun z => va_D A [(T, .inr (0, [.ref Ta, .ref Tb, .ref Tc, .int (nI mi), .int (nI st), .int (nI si)])), (Ta, .inl (g.2.1.1, 6, .inl (zf (zu dn p (zDn wc wp dn lf mi hr p))))), (Tb, .inl (g.2.1.1, 6, .inl (zf (zu lf p (zLf wc wp dn lf mi hr p))))), (Tc, .inl (g.2.1.1, 6, .inl (zf z))), (P, .inr (1, [.ref Pa, .ref Pb, .ref Pc, .ref Pd, .int (nI hs), .int (nI np), .int (nI nm), .int (nI nw)])), (Pa, .inl (g.2.1.1, 6, .inl (zf wc))), (Pb, .inl (g.2.1.1, 96, .inl (zf wp)))]) eq_10) hD
        exact hret 114 _ _ _ (nI (zTk wc wp dn lf mi hr p)) () dX0_walk_114 rfl hP hD hS (show (nI (zTk wc wp dn lf mi hr p)) = nI (zTk wc wp dn lf mi hr p) from by first | rfl | (have hTk := zTk_le wc wp dn lf mi hr p; rw [show zTk wc wp dn lf mi hr p = 0 by omega]; rfl))
    · refine lv_iconst (v := 0) hx hb dX0_walk_46 (by decide) ?_
      have eq_11 : dn = (zu dn p (zDn wc wp dn lf mi hr p)) := by first | exact zu_id (by rw [zDn, if_neg (by rw [zLf]; omega)]) | (rw [zDn, if_pos (by rw [zLf]; omega)])
      have hP : va_P g.1 vwCl [(T, .inr (0, [.ref Ta, .ref Tb, .ref Tc, .int (nI mi), .int (nI st), .int (nI si)])), (Ta, .inl (g.2.1.1, 6, .inl (zf (zu dn p (zDn wc wp dn lf mi hr p))))), (Tb, .inl (g.2.1.1, 6, .inl (zf (zu lf p (zL1 wc wp dn lf mi hr p))))), (Tc, .inl (g.2.1.1, 6, .inl (zf tk))), (P, .inr (1, [.ref Pa, .ref Pb, .ref Pc, .ref Pd, .int (nI hs), .int (nI np), .int (nI nm), .int (nI nw)])), (Pa, .inl (g.2.1.1, 6, .inl (zf wc))), (Pb, .inl (g.2.1.1, 96, .inl (zf wp)))] _ := Eq.mp (congrArg (fun z => va_P g.1 vwCl [(T, .inr (0, [.ref Ta, .ref Tb, .ref Tc, .int (nI mi), .int (nI st), .int (nI si)])), (Ta, .inl (g.2.1.1, 6, .inl (zf z))), (Tb, .inl (g.2.1.1, 6, .inl (zf (zu lf p (zL1 wc wp dn lf mi hr p))))), (Tc, .inl (g.2.1.1, 6, .inl (zf tk))), (P, .inr (1, [.ref Pa, .ref Pb, .ref Pc, .ref Pd, .int (nI hs), .int (nI np), .int (nI nm), .int (nI nw)])), (Pa, .inl (g.2.1.1, 6, .inl (zf wc))), (Pb, .inl (g.2.1.1, 96, .inl (zf wp)))] _) eq_11) hP
      have hD : va_D A [(T, .inr (0, [.ref Ta, .ref Tb, .ref Tc, .int (nI mi), .int (nI st), .int (nI si)])), (Ta, .inl (g.2.1.1, 6, .inl (zf (zu dn p (zDn wc wp dn lf mi hr p))))), (Tb, .inl (g.2.1.1, 6, .inl (zf (zu lf p (zL1 wc wp dn lf mi hr p))))), (Tc, .inl (g.2.1.1, 6, .inl (zf tk))), (P, .inr (1, [.ref Pa, .ref Pb, .ref Pc, .ref Pd, .int (nI hs), .int (nI np), .int (nI nm), .int (nI nw)])), (Pa, .inl (g.2.1.1, 6, .inl (zf wc))), (Pb, .inl (g.2.1.1, 96, .inl (zf wp)))] := Eq.mp (congrArg (fun z => va_D A [(T, .inr (0, [.ref Ta, .ref Tb, .ref Tc, .int (nI mi), .int (nI st), .int (nI si)])), (Ta, .inl (g.2.1.1, 6, .inl (zf z))), (Tb, .inl (g.2.1.1, 6, .inl (zf (zu lf p (zL1 wc wp dn lf mi hr p))))), (Tc, .inl (g.2.1.1, 6, .inl (zf tk))), (P, .inr (1, [.ref Pa, .ref Pb, .ref Pc, .ref Pd, .int (nI hs), .int (nI np), .int (nI nm), .int (nI nw)])), (Pa, .inl (g.2.1.1, 6, .inl (zf wc))), (Pb, .inl (g.2.1.1, 96, .inl (zf wp)))]) eq_11) hD
      have eq_12 : (zu lf p (zL1 wc wp dn lf mi hr p)) = (zu lf p (zLf wc wp dn lf mi hr p)) := by first | (rw [zu_zu, zLf]) | (rw [zLf, show zL1 wc wp dn lf mi hr p = 0 by omega]; simp)
      have hP : va_P g.1 vwCl [(T, .inr (0, [.ref Ta, .ref Tb, .ref Tc, .int (nI mi), .int (nI st), .int (nI si)])), (Ta, .inl (g.2.1.1, 6, .inl (zf (zu dn p (zDn wc wp dn lf mi hr p))))), (Tb, .inl (g.2.1.1, 6, .inl (zf (zu lf p (zLf wc wp dn lf mi hr p))))), (Tc, .inl (g.2.1.1, 6, .inl (zf tk))), (P, .inr (1, [.ref Pa, .ref Pb, .ref Pc, .ref Pd, .int (nI hs), .int (nI np), .int (nI nm), .int (nI nw)])), (Pa, .inl (g.2.1.1, 6, .inl (zf wc))), (Pb, .inl (g.2.1.1, 96, .inl (zf wp)))] _ := Eq.mp (congrArg (fun z => va_P g.1 vwCl [(T, .inr (0, [.ref Ta, .ref Tb, .ref Tc, .int (nI mi), .int (nI st), .int (nI si)])), (Ta, .inl (g.2.1.1, 6, .inl (zf (zu dn p (zDn wc wp dn lf mi hr p))))), (Tb, .inl (g.2.1.1, 6, .inl (zf z))), (Tc, .inl (g.2.1.1, 6, .inl (zf tk))), (P, .inr (1, [.ref Pa, .ref Pb, .ref Pc, .ref Pd, .int (nI hs), .int (nI np), .int (nI nm), .int (nI nw)])), (Pa, .inl (g.2.1.1, 6, .inl (zf wc))), (Pb, .inl (g.2.1.1, 96, .inl (zf wp)))] _) eq_12) hP
      have hD : va_D A [(T, .inr (0, [.ref Ta, .ref Tb, .ref Tc, .int (nI mi), .int (nI st), .int (nI si)])), (Ta, .inl (g.2.1.1, 6, .inl (zf (zu dn p (zDn wc wp dn lf mi hr p))))), (Tb, .inl (g.2.1.1, 6, .inl (zf (zu lf p (zLf wc wp dn lf mi hr p))))), (Tc, .inl (g.2.1.1, 6, .inl (zf tk))), (P, .inr (1, [.ref Pa, .ref Pb, .ref Pc, .ref Pd, .int (nI hs), .int (nI np), .int (nI nm), .int (nI nw)])), (Pa, .inl (g.2.1.1, 6, .inl (zf wc))), (Pb, .inl (g.2.1.1, 96, .inl (zf wp)))] := Eq.mp (congrArg (fun z => va_D A [(T, .inr (0, [.ref Ta, .ref Tb, .ref Tc, .int (nI mi), .int (nI st), .int (nI si)])), (Ta, .inl (g.2.1.1, 6, .inl (zf (zu dn p (zDn wc wp dn lf mi hr p))))), (Tb, .inl (g.2.1.1, 6, .inl (zf z))), (Tc, .inl (g.2.1.1, 6, .inl (zf tk))), (P, .inr (1, [.ref Pa, .ref Pb, .ref Pc, .ref Pd, .int (nI hs), .int (nI np), .int (nI nm), .int (nI nw)])), (Pa, .inl (g.2.1.1, 6, .inl (zf wc))), (Pb, .inl (g.2.1.1, 96, .inl (zf wp)))]) eq_12) hD
      have eq_13 : tk = (zu tk p (tk p + zTk wc wp dn lf mi hr p)) := by first | exact zu_id (by have hTk := zTk_le wc wp dn lf mi hr p; omega) | rfl
      have hP : va_P g.1 vwCl [(T, .inr (0, [.ref Ta, .ref Tb, .ref Tc, .int (nI mi), .int (nI st), .int (nI si)])), (Ta, .inl (g.2.1.1, 6, .inl (zf (zu dn p (zDn wc wp dn lf mi hr p))))), (Tb, .inl (g.2.1.1, 6, .inl (zf (zu lf p (zLf wc wp dn lf mi hr p))))), (Tc, .inl (g.2.1.1, 6, .inl (zf (zu tk p (tk p + zTk wc wp dn lf mi hr p))))), (P, .inr (1, [.ref Pa, .ref Pb, .ref Pc, .ref Pd, .int (nI hs), .int (nI np), .int (nI nm), .int (nI nw)])), (Pa, .inl (g.2.1.1, 6, .inl (zf wc))), (Pb, .inl (g.2.1.1, 96, .inl (zf wp)))] _ := Eq.mp (congrArg (fun z => va_P g.1 vwCl [(T, .inr (0, [.ref Ta, .ref Tb, .ref Tc, .int (nI mi), .int (nI st), .int (nI si)])), (Ta, .inl (g.2.1.1, 6, .inl (zf (zu dn p (zDn wc wp dn lf mi hr p))))), (Tb, .inl (g.2.1.1, 6, .inl (zf (zu lf p (zLf wc wp dn lf mi hr p))))), (Tc, .inl (g.2.1.1, 6, .inl (zf z))), (P, .inr (1, [.ref Pa, .ref Pb, .ref Pc, .ref Pd, .int (nI hs), .int (nI np), .int (nI nm), .int (nI nw)])), (Pa, .inl (g.2.1.1, 6, .inl (zf wc))), (Pb, .inl (g.2.1.1, 96, .inl (zf wp)))] _) eq_13) hP
      have hD : va_D A [(T, .inr (0, [.ref Ta, .ref Tb, .ref Tc, .int (nI mi), .int (nI st), .int (nI si)])), (Ta, .inl (g.2.1.1, 6, .inl (zf (zu dn p (zDn wc wp dn lf mi hr p))))), (Tb, .inl (g.2.1.1, 6, .inl (zf (zu lf p (zLf wc wp dn lf mi hr p))))), (Tc, .inl (g.2.1.1, 6, .inl (zf (zu tk p (tk p + zTk wc wp dn lf mi hr p))))), (P, .inr (1, [.ref Pa, .ref Pb, .ref Pc, .ref Pd, .int (nI hs), .int (nI np), .int (nI nm), .int (nI nw)])), (Pa, .inl (g.2.1.1, 6, .inl (zf wc))), (Pb, .inl (g.2.1.1, 96, .inl (zf wp)))] := Eq.mp (congrArg (fun z => va_D A [(T, .inr (0, [.ref Ta, .ref Tb, .ref Tc, .int (nI mi), .int (nI st), .int (nI si)])), (Ta, .inl (g.2.1.1, 6, .inl (zf (zu dn p (zDn wc wp dn lf mi hr p))))), (Tb, .inl (g.2.1.1, 6, .inl (zf (zu lf p (zLf wc wp dn lf mi hr p))))), (Tc, .inl (g.2.1.1, 6, .inl (zf z))), (P, .inr (1, [.ref Pa, .ref Pb, .ref Pc, .ref Pd, .int (nI hs), .int (nI np), .int (nI nm), .int (nI nw)])), (Pa, .inl (g.2.1.1, 6, .inl (zf wc))), (Pb, .inl (g.2.1.1, 96, .inl (zf wp)))]) eq_13) hD
      exact hret 47 _ _ _ 0 () dX0_walk_47 rfl hP hD hS (show 0 = nI (zTk wc wp dn lf mi hr p) from by first | rfl | (have hTk := zTk_le wc wp dn lf mi hr p; rw [show zTk wc wp dn lf mi hr p = 0 by omega]; rfl))
  refine lv_aload_n hx hb dX0_walk_0 rfl (lv_at hl 0 rfl) ?_
  refine va_get (D := g.1) (ci := 0) (v := .ref Tb) (C := RX0) (T := TX0) (N := 6) hx hb hts hiX0 hown hK.1 hP 0 rfl rfl 1 (by decide) hf0 (fun _ h9 => h9) rfl dX0_walk_1 ?_
  refine lv_iload_n hx hb dX0_walk_4 rfl (lv_at hl 2 rfl) ?_
  refine zz_iald hx hb hK.1 hP 2 0 rfl rfl p rfl (by omega) (by decide) dX0_walk_5 ?_
  refine zz_if_ne (tgt := 37) hx hb dX0_walk_6 (by decide) (zi_n (lf p)) (by omega) (fun c_14 => ?_) (fun c_14 => ?_)
  · have eq_15 : lf = (zu lf p (zL1 wc wp dn lf mi hr p)) := by first | exact zu_id (zL1_a (by omega)) | exact zu_id (zL1_b (by assumption)) | (rw [zL1_c (by assumption) (by omega)])
    have hP : va_P g.1 vwCl [(T, .inr (0, [.ref Ta, .ref Tb, .ref Tc, .int (nI mi), .int (nI st), .int (nI si)])), (Ta, .inl (g.2.1.1, 6, .inl (zf dn))), (Tb, .inl (g.2.1.1, 6, .inl (zf (zu lf p (zL1 wc wp dn lf mi hr p))))), (Tc, .inl (g.2.1.1, 6, .inl (zf tk))), (P, .inr (1, [.ref Pa, .ref Pb, .ref Pc, .ref Pd, .int (nI hs), .int (nI np), .int (nI nm), .int (nI nw)])), (Pa, .inl (g.2.1.1, 6, .inl (zf wc))), (Pb, .inl (g.2.1.1, 96, .inl (zf wp)))] _ := Eq.mp (congrArg (fun z => va_P g.1 vwCl [(T, .inr (0, [.ref Ta, .ref Tb, .ref Tc, .int (nI mi), .int (nI st), .int (nI si)])), (Ta, .inl (g.2.1.1, 6, .inl (zf dn))), (Tb, .inl (g.2.1.1, 6, .inl (zf z))), (Tc, .inl (g.2.1.1, 6, .inl (zf tk))), (P, .inr (1, [.ref Pa, .ref Pb, .ref Pc, .ref Pd, .int (nI hs), .int (nI np), .int (nI nm), .int (nI nw)])), (Pa, .inl (g.2.1.1, 6, .inl (zf wc))), (Pb, .inl (g.2.1.1, 96, .inl (zf wp)))] _) eq_15) hP
    have hD : va_D A [(T, .inr (0, [.ref Ta, .ref Tb, .ref Tc, .int (nI mi), .int (nI st), .int (nI si)])), (Ta, .inl (g.2.1.1, 6, .inl (zf dn))), (Tb, .inl (g.2.1.1, 6, .inl (zf (zu lf p (zL1 wc wp dn lf mi hr p))))), (Tc, .inl (g.2.1.1, 6, .inl (zf tk))), (P, .inr (1, [.ref Pa, .ref Pb, .ref Pc, .ref Pd, .int (nI hs), .int (nI np), .int (nI nm), .int (nI nw)])), (Pa, .inl (g.2.1.1, 6, .inl (zf wc))), (Pb, .inl (g.2.1.1, 96, .inl (zf wp)))] := Eq.mp (congrArg (fun z => va_D A [(T, .inr (0, [.ref Ta, .ref Tb, .ref Tc, .int (nI mi), .int (nI st), .int (nI si)])), (Ta, .inl (g.2.1.1, 6, .inl (zf dn))), (Tb, .inl (g.2.1.1, 6, .inl (zf z))), (Tc, .inl (g.2.1.1, 6, .inl (zf tk))), (P, .inr (1, [.ref Pa, .ref Pb, .ref Pc, .ref Pd, .int (nI hs), .int (nI np), .int (nI nm), .int (nI nw)])), (Pa, .inl (g.2.1.1, 6, .inl (zf wc))), (Pb, .inl (g.2.1.1, 96, .inl (zf wp)))]) eq_15) hD
    exact hcut37  _ _ _ (show zL1 wc wp dn lf mi hr p < 1000 ∧ (zL1 wc wp dn lf mi hr p ≠ 0 → dn p < wc p) from by first | (rw [← zL1_a (by omega)]; exact ⟨hlf, hlf0⟩) | (rw [← zL1_b (by assumption)]; exact ⟨hlf, hlf0⟩) | (rw [zL1_c (by assumption) (by omega)]; have hz : zMay wc wp dn mi hr p := (by assumption); have hz1 := hz.1; have hwq := hwp (16 * p + 4 * dn p + 2); exact ⟨by omega, fun _ => by omega⟩)) hP hD hS (lv_sub hl [0, 1, 2, 3] rfl)
  · refine lv_aload_n hx hb dX0_walk_9 rfl (lv_at hl 0 rfl) ?_
    refine lv_aload_n hx hb dX0_walk_10 rfl (lv_at hl 1 rfl) ?_
    refine lv_iload_n hx hb dX0_walk_11 rfl (lv_at hl 2 rfl) ?_
    refine lv_iload_n hx hb dX0_walk_12 rfl (lv_at hl 3 rfl) ?_
    refine zz_callI (wr := [(Tb, .inl (g.2.1.1, 6, .inl (zf lf))), (Tc, .inl (g.2.1.1, 6, .inl (zf tk)))]) (wc := [(T, .inr (0, [.ref Ta, .ref Tb, .ref Tc, .int (nI mi), .int (nI st), .int (nI si)])), (Ta, .inl (g.2.1.1, 6, .inl (zf dn))), (P, .inr (1, [.ref Pa, .ref Pb, .ref Pc, .ref Pd, .int (nI hs), .int (nI np), .int (nI nm), .int (nI nw)])), (Pa, .inl (g.2.1.1, 6, .inl (zf wc))), (Pb, .inl (g.2.1.1, 96, .inl (zf wp)))]) (As := [.ref P, .int (nI p), .int (nI hr)]) (rest := []) F hK hE hA hP hD hS (c_X0_maySetOut l g (T := T) (Ta := Ta) (Tb := Tb) (Tc := Tc) (mi := mi) (st := st) (si := si) (dn := dn) (P := P) (Pa := Pa) (Pb := Pb) (Pc := Pc) (Pd := Pd) (hs := hs) (np := np) (nm := nm) (nw := nw) (wc := wc) (wp := wp) (p := p) (hr := hr) (hnp := by first | assumption | omega) (hwc := by first | assumption | omega) (hwp := by first | assumption | omega) (hp := by first | assumption | omega) (hd := by first | assumption | omega) (hmi := by first | assumption | omega) (hhr := by first | assumption | omega)) (cwV 3 hts gX0_walk_X0_maySetOut rfl rfl rfl (by decide +kernel) ⟨Nat.le_of_ble_eq_true rfl, Nat.le_of_ble_eq_true rfl⟩) [0, 1, 4, 5, 6] [2, 3] rfl rfl (by decide) (by decide) (by decide) 0 0 rfl rfl rfl rfl rfl hl.1 (Nat.le_of_ble_eq_true rfl) dX0_walk_13 ⟨Nat.le_of_ble_eq_true rfl, Nat.le_of_ble_eq_true rfl⟩ (fun r_16 u_16 H locs hw hP hD hS => ?_)
    have hP : va_P g.1 vwCl [(Tb, .inl (g.2.1.1, 6, .inl (zf lf))), (Tc, .inl (g.2.1.1, 6, .inl (zf tk))), (T, .inr (0, [.ref Ta, .ref Tb, .ref Tc, .int (nI mi), .int (nI st), .int (nI si)])), (Ta, .inl (g.2.1.1, 6, .inl (zf dn))), (P, .inr (1, [.ref Pa, .ref Pb, .ref Pc, .ref Pd, .int (nI hs), .int (nI np), .int (nI nm), .int (nI nw)])), (Pa, .inl (g.2.1.1, 6, .inl (zf wc))), (Pb, .inl (g.2.1.1, 96, .inl (zf wp)))] _ := hP
    have hD : va_D A [(Tb, .inl (g.2.1.1, 6, .inl (zf lf))), (Tc, .inl (g.2.1.1, 6, .inl (zf tk))), (T, .inr (0, [.ref Ta, .ref Tb, .ref Tc, .int (nI mi), .int (nI st), .int (nI si)])), (Ta, .inl (g.2.1.1, 6, .inl (zf dn))), (P, .inr (1, [.ref Pa, .ref Pb, .ref Pc, .ref Pd, .int (nI hs), .int (nI np), .int (nI nm), .int (nI nw)])), (Pa, .inl (g.2.1.1, 6, .inl (zf wc))), (Pb, .inl (g.2.1.1, 96, .inl (zf wp)))] := hD
    have hr_16 := hw
    have hr_16 : r_16 = if zMay wc wp dn mi hr p then 1 else 0 := hr_16
    by_cases b_17 : zMay wc wp dn mi hr p
    · rw [if_pos b_17] at hr_16
      subst hr_16
      refine zz_if_eq (tgt := 37) hx hb dX0_walk_16 (by decide) (zi_c 1 rfl) (by omega) (fun c_18 => (by exfalso; omega)) (fun c_18 => ?_)
      refine lv_aload_n hx hb dX0_walk_19 rfl (lv_at hl 0 rfl) ?_
      refine va_get (D := g.1) (ci := 0) (v := .ref Tb) (C := RX0) (T := TX0) (N := 6) hx hb hts hiX0 hown hK.1 hP 2 rfl rfl 1 (by decide) hf0 (fun _ h9 => h9) rfl dX0_walk_20 ?_
      refine lv_iload_n hx hb dX0_walk_23 rfl (lv_at hl 2 rfl) ?_
      refine lv_aload_n hx hb dX0_walk_24 rfl (lv_at hl 1 rfl) ?_
      refine lv_iload_n hx hb dX0_walk_25 rfl (lv_at hl 2 rfl) ?_
      refine lv_aload_n hx hb dX0_walk_26 rfl (lv_at hl 0 rfl) ?_
      refine va_get (D := g.1) (ci := 0) (v := .ref Ta) (C := RX0) (T := TX0) (N := 6) hx hb hts hiX0 hown hK.1 hP 2 rfl rfl 0 (by decide) hf1 (fun _ h9 => h9) rfl dX0_walk_27 ?_
      refine lv_iload_n hx hb dX0_walk_30 rfl (lv_at hl 2 rfl) ?_
      refine zz_iald hx hb hK.1 hP 3 0 rfl rfl p rfl (by omega) (by decide) dX0_walk_31 ?_
      refine lv_iconst (v := 2) hx hb dX0_walk_32 (by decide) ?_
      refine zz_callI (wr := [(Tb, .inl (g.2.1.1, 6, .inl (zf lf))), (Tc, .inl (g.2.1.1, 6, .inl (zf tk))), (T, .inr (0, [.ref Ta, .ref Tb, .ref Tc, .int (nI mi), .int (nI st), .int (nI si)])), (Ta, .inl (g.2.1.1, 6, .inl (zf dn))), (Pa, .inl (g.2.1.1, 6, .inl (zf wc)))]) (wc := [(P, .inr (1, [.ref Pa, .ref Pb, .ref Pc, .ref Pd, .int (nI hs), .int (nI np), .int (nI nm), .int (nI nw)])), (Pb, .inl (g.2.1.1, 96, .inl (zf wp)))]) (As := [.int (nI p), .int (nI (dn p)), .int (nI 2)]) (rest := [.int (nI p), .ref Tb]) F hK hE hA hP hD hS (c_X1_wayPart l g (P := P) (Pa := Pa) (Pb := Pb) (Pc := Pc) (Pd := Pd) (hs := hs) (np := np) (nm := nm) (nw := nw) (wp := wp) (p := p) (k := (dn p)) (w := 2) (hp := by first | assumption | omega) (hk := by (have hz : zMay wc wp dn mi hr p := (by assumption); have hz1 := hz.1; omega)) (hw3 := by first | assumption | omega)) (cwV 3 hts gX0_walk_X1_wayPart rfl rfl rfl (by decide +kernel) ⟨Nat.le_of_ble_eq_true rfl, Nat.le_of_ble_eq_true rfl⟩) [4, 6] [0, 1, 2, 3, 5] rfl rfl (by decide) (by decide) (by decide) 1 0 rfl rfl rfl rfl rfl hl.1 (Nat.le_of_ble_eq_true rfl) dX0_walk_33 ⟨Nat.le_of_ble_eq_true rfl, Nat.le_of_ble_eq_true rfl⟩ (fun r_19 u_19 H locs hw hP hD hS => ?_)
      have hP : va_P g.1 vwCl [(Tb, .inl (g.2.1.1, 6, .inl (zf lf))), (Tc, .inl (g.2.1.1, 6, .inl (zf tk))), (T, .inr (0, [.ref Ta, .ref Tb, .ref Tc, .int (nI mi), .int (nI st), .int (nI si)])), (Ta, .inl (g.2.1.1, 6, .inl (zf dn))), (Pa, .inl (g.2.1.1, 6, .inl (zf wc))), (P, .inr (1, [.ref Pa, .ref Pb, .ref Pc, .ref Pd, .int (nI hs), .int (nI np), .int (nI nm), .int (nI nw)])), (Pb, .inl (g.2.1.1, 96, .inl (zf wp)))] _ := hP
      have hD : va_D A [(Tb, .inl (g.2.1.1, 6, .inl (zf lf))), (Tc, .inl (g.2.1.1, 6, .inl (zf tk))), (T, .inr (0, [.ref Ta, .ref Tb, .ref Tc, .int (nI mi), .int (nI st), .int (nI si)])), (Ta, .inl (g.2.1.1, 6, .inl (zf dn))), (Pa, .inl (g.2.1.1, 6, .inl (zf wc))), (P, .inr (1, [.ref Pa, .ref Pb, .ref Pc, .ref Pd, .int (nI hs), .int (nI np), .int (nI nm), .int (nI nw)])), (Pb, .inl (g.2.1.1, 96, .inl (zf wp)))] := hD
      have hr_19 := hw
      have hr_19 : r_19 = nI (wp (16 * p + 4 * (dn p) + 2)) := hr_19
      subst hr_19
      have hq_20 := hwp (16 * p + 4 * (dn p) + 2)
      refine zz_iast hx hb hK.1 hP hD hS 0 0 rfl rfl p rfl (by omega) (by decide) dX0_walk_36 (fun H locs hP hD hS => ?_)
      have hP : va_P g.1 vwCl [(Tb, .inl (g.2.1.1, 6, .inl (upd (zf lf) p (nI (wp (16 * p + 4 * (dn p) + 2)))))), (Tc, .inl (g.2.1.1, 6, .inl (zf tk))), (T, .inr (0, [.ref Ta, .ref Tb, .ref Tc, .int (nI mi), .int (nI st), .int (nI si)])), (Ta, .inl (g.2.1.1, 6, .inl (zf dn))), (Pa, .inl (g.2.1.1, 6, .inl (zf wc))), (P, .inr (1, [.ref Pa, .ref Pb, .ref Pc, .ref Pd, .int (nI hs), .int (nI np), .int (nI nm), .int (nI nw)])), (Pb, .inl (g.2.1.1, 96, .inl (zf wp)))] _ := hP
      have hD : va_D A [(Tb, .inl (g.2.1.1, 6, .inl (upd (zf lf) p (nI (wp (16 * p + 4 * (dn p) + 2)))))), (Tc, .inl (g.2.1.1, 6, .inl (zf tk))), (T, .inr (0, [.ref Ta, .ref Tb, .ref Tc, .int (nI mi), .int (nI st), .int (nI si)])), (Ta, .inl (g.2.1.1, 6, .inl (zf dn))), (Pa, .inl (g.2.1.1, 6, .inl (zf wc))), (P, .inr (1, [.ref Pa, .ref Pb, .ref Pc, .ref Pd, .int (nI hs), .int (nI np), .int (nI nm), .int (nI nw)])), (Pb, .inl (g.2.1.1, 96, .inl (zf wp)))] := hD
      rw [zf_upd] at hP hD
      have hP := hP.sub (ws' := [(T, .inr (0, [.ref Ta, .ref Tb, .ref Tc, .int (nI mi), .int (nI st), .int (nI si)])), (Ta, .inl (g.2.1.1, 6, .inl (zf dn))), (Tb, .inl (g.2.1.1, 6, .inl (zf (zu lf p (wp (16 * p + 4 * (dn p) + 2)))))), (Tc, .inl (g.2.1.1, 6, .inl (zf tk))), (P, .inr (1, [.ref Pa, .ref Pb, .ref Pc, .ref Pd, .int (nI hs), .int (nI np), .int (nI nm), .int (nI nw)])), (Pa, .inl (g.2.1.1, 6, .inl (zf wc))), (Pb, .inl (g.2.1.1, 96, .inl (zf wp)))]) [2, 3, 0, 1, 5, 4, 6] rfl
      have hD := hD.sub (ws' := [(T, .inr (0, [.ref Ta, .ref Tb, .ref Tc, .int (nI mi), .int (nI st), .int (nI si)])), (Ta, .inl (g.2.1.1, 6, .inl (zf dn))), (Tb, .inl (g.2.1.1, 6, .inl (zf (zu lf p (wp (16 * p + 4 * (dn p) + 2)))))), (Tc, .inl (g.2.1.1, 6, .inl (zf tk))), (P, .inr (1, [.ref Pa, .ref Pb, .ref Pc, .ref Pd, .int (nI hs), .int (nI np), .int (nI nm), .int (nI nw)])), (Pa, .inl (g.2.1.1, 6, .inl (zf wc))), (Pb, .inl (g.2.1.1, 96, .inl (zf wp)))]) [2, 3, 0, 1, 5, 4, 6] (by decide) rfl
      have eq_21 : (zu lf p (wp (16 * p + 4 * (dn p) + 2))) = (zu lf p (zL1 wc wp dn lf mi hr p)) := by first | exact zu_id (zL1_a (by omega)) | exact zu_id (zL1_b (by assumption)) | (rw [zL1_c (by assumption) (by omega)])
      have hP : va_P g.1 vwCl [(T, .inr (0, [.ref Ta, .ref Tb, .ref Tc, .int (nI mi), .int (nI st), .int (nI si)])), (Ta, .inl (g.2.1.1, 6, .inl (zf dn))), (Tb, .inl (g.2.1.1, 6, .inl (zf (zu lf p (zL1 wc wp dn lf mi hr p))))), (Tc, .inl (g.2.1.1, 6, .inl (zf tk))), (P, .inr (1, [.ref Pa, .ref Pb, .ref Pc, .ref Pd, .int (nI hs), .int (nI np), .int (nI nm), .int (nI nw)])), (Pa, .inl (g.2.1.1, 6, .inl (zf wc))), (Pb, .inl (g.2.1.1, 96, .inl (zf wp)))] _ := Eq.mp (congrArg (fun z => va_P g.1 vwCl [(T, .inr (0, [.ref Ta, .ref Tb, .ref Tc, .int (nI mi), .int (nI st), .int (nI si)])), (Ta, .inl (g.2.1.1, 6, .inl (zf dn))), (Tb, .inl (g.2.1.1, 6, .inl (zf z))), (Tc, .inl (g.2.1.1, 6, .inl (zf tk))), (P, .inr (1, [.ref Pa, .ref Pb, .ref Pc, .ref Pd, .int (nI hs), .int (nI np), .int (nI nm), .int (nI nw)])), (Pa, .inl (g.2.1.1, 6, .inl (zf wc))), (Pb, .inl (g.2.1.1, 96, .inl (zf wp)))] _) eq_21) hP
      have hD : va_D A [(T, .inr (0, [.ref Ta, .ref Tb, .ref Tc, .int (nI mi), .int (nI st), .int (nI si)])), (Ta, .inl (g.2.1.1, 6, .inl (zf dn))), (Tb, .inl (g.2.1.1, 6, .inl (zf (zu lf p (zL1 wc wp dn lf mi hr p))))), (Tc, .inl (g.2.1.1, 6, .inl (zf tk))), (P, .inr (1, [.ref Pa, .ref Pb, .ref Pc, .ref Pd, .int (nI hs), .int (nI np), .int (nI nm), .int (nI nw)])), (Pa, .inl (g.2.1.1, 6, .inl (zf wc))), (Pb, .inl (g.2.1.1, 96, .inl (zf wp)))] := Eq.mp (congrArg (fun z => va_D A [(T, .inr (0, [.ref Ta, .ref Tb, .ref Tc, .int (nI mi), .int (nI st), .int (nI si)])), (Ta, .inl (g.2.1.1, 6, .inl (zf dn))), (Tb, .inl (g.2.1.1, 6, .inl (zf z))), (Tc, .inl (g.2.1.1, 6, .inl (zf tk))), (P, .inr (1, [.ref Pa, .ref Pb, .ref Pc, .ref Pd, .int (nI hs), .int (nI np), .int (nI nm), .int (nI nw)])), (Pa, .inl (g.2.1.1, 6, .inl (zf wc))), (Pb, .inl (g.2.1.1, 96, .inl (zf wp)))]) eq_21) hD
      exact hcut37  _ _ _ (show zL1 wc wp dn lf mi hr p < 1000 ∧ (zL1 wc wp dn lf mi hr p ≠ 0 → dn p < wc p) from by first | (rw [← zL1_a (by omega)]; exact ⟨hlf, hlf0⟩) | (rw [← zL1_b (by assumption)]; exact ⟨hlf, hlf0⟩) | (rw [zL1_c (by assumption) (by omega)]; have hz : zMay wc wp dn mi hr p := (by assumption); have hz1 := hz.1; have hwq := hwp (16 * p + 4 * dn p + 2); exact ⟨by omega, fun _ => by omega⟩)) hP hD hS (lv_sub hl [0, 1, 2, 3] rfl)
    · rw [if_neg b_17] at hr_16
      subst hr_16
      refine zz_if_eq (tgt := 37) hx hb dX0_walk_16 (by decide) (zi_c 0 rfl) (by omega) (fun c_22 => ?_) (fun c_22 => (by exfalso; omega))
      have hP := hP.sub (ws' := [(T, .inr (0, [.ref Ta, .ref Tb, .ref Tc, .int (nI mi), .int (nI st), .int (nI si)])), (Ta, .inl (g.2.1.1, 6, .inl (zf dn))), (Tb, .inl (g.2.1.1, 6, .inl (zf lf))), (Tc, .inl (g.2.1.1, 6, .inl (zf tk))), (P, .inr (1, [.ref Pa, .ref Pb, .ref Pc, .ref Pd, .int (nI hs), .int (nI np), .int (nI nm), .int (nI nw)])), (Pa, .inl (g.2.1.1, 6, .inl (zf wc))), (Pb, .inl (g.2.1.1, 96, .inl (zf wp)))]) [2, 3, 0, 1, 4, 5, 6] rfl
      have hD := hD.sub (ws' := [(T, .inr (0, [.ref Ta, .ref Tb, .ref Tc, .int (nI mi), .int (nI st), .int (nI si)])), (Ta, .inl (g.2.1.1, 6, .inl (zf dn))), (Tb, .inl (g.2.1.1, 6, .inl (zf lf))), (Tc, .inl (g.2.1.1, 6, .inl (zf tk))), (P, .inr (1, [.ref Pa, .ref Pb, .ref Pc, .ref Pd, .int (nI hs), .int (nI np), .int (nI nm), .int (nI nw)])), (Pa, .inl (g.2.1.1, 6, .inl (zf wc))), (Pb, .inl (g.2.1.1, 96, .inl (zf wp)))]) [2, 3, 0, 1, 4, 5, 6] (by decide) rfl
      have eq_23 : lf = (zu lf p (zL1 wc wp dn lf mi hr p)) := by first | exact zu_id (zL1_a (by omega)) | exact zu_id (zL1_b (by assumption)) | (rw [zL1_c (by assumption) (by omega)])
      have hP : va_P g.1 vwCl [(T, .inr (0, [.ref Ta, .ref Tb, .ref Tc, .int (nI mi), .int (nI st), .int (nI si)])), (Ta, .inl (g.2.1.1, 6, .inl (zf dn))), (Tb, .inl (g.2.1.1, 6, .inl (zf (zu lf p (zL1 wc wp dn lf mi hr p))))), (Tc, .inl (g.2.1.1, 6, .inl (zf tk))), (P, .inr (1, [.ref Pa, .ref Pb, .ref Pc, .ref Pd, .int (nI hs), .int (nI np), .int (nI nm), .int (nI nw)])), (Pa, .inl (g.2.1.1, 6, .inl (zf wc))), (Pb, .inl (g.2.1.1, 96, .inl (zf wp)))] _ := Eq.mp (congrArg (fun z => va_P g.1 vwCl [(T, .inr (0, [.ref Ta, .ref Tb, .ref Tc, .int (nI mi), .int (nI st), .int (nI si)])), (Ta, .inl (g.2.1.1, 6, .inl (zf dn))), (Tb, .inl (g.2.1.1, 6, .inl (zf z))), (Tc, .inl (g.2.1.1, 6, .inl (zf tk))), (P, .inr (1, [.ref Pa, .ref Pb, .ref Pc, .ref Pd, .int (nI hs), .int (nI np), .int (nI nm), .int (nI nw)])), (Pa, .inl (g.2.1.1, 6, .inl (zf wc))), (Pb, .inl (g.2.1.1, 96, .inl (zf wp)))] _) eq_23) hP
      have hD : va_D A [(T, .inr (0, [.ref Ta, .ref Tb, .ref Tc, .int (nI mi), .int (nI st), .int (nI si)])), (Ta, .inl (g.2.1.1, 6, .inl (zf dn))), (Tb, .inl (g.2.1.1, 6, .inl (zf (zu lf p (zL1 wc wp dn lf mi hr p))))), (Tc, .inl (g.2.1.1, 6, .inl (zf tk))), (P, .inr (1, [.ref Pa, .ref Pb, .ref Pc, .ref Pd, .int (nI hs), .int (nI np), .int (nI nm), .int (nI nw)])), (Pa, .inl (g.2.1.1, 6, .inl (zf wc))), (Pb, .inl (g.2.1.1, 96, .inl (zf wp)))] := Eq.mp (congrArg (fun z => va_D A [(T, .inr (0, [.ref Ta, .ref Tb, .ref Tc, .int (nI mi), .int (nI st), .int (nI si)])), (Ta, .inl (g.2.1.1, 6, .inl (zf dn))), (Tb, .inl (g.2.1.1, 6, .inl (zf z))), (Tc, .inl (g.2.1.1, 6, .inl (zf tk))), (P, .inr (1, [.ref Pa, .ref Pb, .ref Pc, .ref Pd, .int (nI hs), .int (nI np), .int (nI nm), .int (nI nw)])), (Pa, .inl (g.2.1.1, 6, .inl (zf wc))), (Pb, .inl (g.2.1.1, 96, .inl (zf wp)))]) eq_23) hD
      exact hcut37  _ _ _ (show zL1 wc wp dn lf mi hr p < 1000 ∧ (zL1 wc wp dn lf mi hr p ≠ 0 → dn p < wc p) from by first | (rw [← zL1_a (by omega)]; exact ⟨hlf, hlf0⟩) | (rw [← zL1_b (by assumption)]; exact ⟨hlf, hlf0⟩) | (rw [zL1_c (by assumption) (by omega)]; have hz : zMay wc wp dn mi hr p := (by assumption); have hz1 := hz.1; have hwq := hwp (16 * p + 4 * dn p + 2); exact ⟨by omega, fun _ => by omega⟩)) hP hD hS (lv_sub hl [0, 1, 2, 3] rfl)

set_option maxHeartbeats 4000000 in
set_option maxRecDepth 100000 in
theorem c_X0_passMinute (l : Launch) (g : zG) (T Ta Tb Tc : Nat) (mi st si : Nat) (dn lf tk : Nat → Nat) (P Pa Pb Pc Pd : Nat) (hs np nm nw : Nat) (wc wp mp : Nat → Nat) (hnp : np ≤ 6) (hnm : nm ≤ 4) (hhs : 0 < hs ∧ hs < 2147483648) (hwc : ∀ p, wc p ≤ 4) (hwp : ∀ k, wp k < 1000) (hmp : ∀ k, mp k < 1000) (hd : ∀ p, dn p ≤ wc p) (hlf0 : ∀ p, lf p ≠ 0 → dn p < wc p) (hlf : ∀ p, lf p < 1000) (htk : ∀ p, tk p < 1000000000) (hmi : mi < 1000000000) (hst : st < 1000000000) (hsi : si < 2147483648) : zV l yX0_passMinute wsX0_passMinute 3 72 0 0 g [.ref T, .ref P] [(T, .inr (0, [.ref Ta, .ref Tb, .ref Tc, .int (nI mi), .int (nI st), .int (nI si)])), (Ta, .inl (g.2.1.1, 6, .inl (zf dn))), (Tb, .inl (g.2.1.1, 6, .inl (zf lf))), (Tc, .inl (g.2.1.1, 6, .inl (zf tk))), (P, .inr (1, [.ref Pa, .ref Pb, .ref Pc, .ref Pd, .int (nI hs), .int (nI np), .int (nI nm), .int (nI nw)])), (Pa, .inl (g.2.1.1, 6, .inl (zf wc))), (Pb, .inl (g.2.1.1, 96, .inl (zf wp))), (Pc, .inl (g.2.1.1, 12, .inl (zf mp)))] (fun (u : Unit) => True) (fun (u : Unit) => [(T, .inr (0, [.ref Ta, .ref Tb, .ref Tc, .int (nI (mi + 1)), .int (nI (st + (zSm (zMs mp mi) nm + zSm (zTs wc wp dn lf mi (st / hs) si) np))), .int (nI si)])), (Ta, .inl (g.2.1.1, 6, .inl (zf (zNew si np (zDn wc wp dn lf mi (st / hs)) dn)))), (Tb, .inl (g.2.1.1, 6, .inl (zf (zNew si np (zLf wc wp dn lf mi (st / hs)) lf)))), (Tc, .inl (g.2.1.1, 6, .inl (zf (zNew si np (fun q => tk q + zTk wc wp dn lf mi (st / hs) q) tk)))), (P, .inr (1, [.ref Pa, .ref Pb, .ref Pc, .ref Pd, .int (nI hs), .int (nI np), .int (nI nm), .int (nI nw)])), (Pa, .inl (g.2.1.1, 6, .inl (zf wc))), (Pb, .inl (g.2.1.1, 96, .inl (zf wp))), (Pc, .inl (g.2.1.1, 12, .inl (zf mp)))]) := by
  refine zz_bodyV (cc := cX0_passMinute) (nL := 5) (own := RX0) (by decide) rfl rfl (Nat.le_of_ble_eq_true rfl) ?_
  intro pP eE s mM below meth cC A Q ls F hin hA hK hE hP hD hl hret
  have hS : va_S A s.heap s.heap [] := va_S.rf
  obtain ⟨hx, hb, hml, hown, hts⟩ := id F
  have hiX0 : ∀ w ∈ u_ws RX0 TX0 6, w ∈ wsX0_passMinute := by decide +kernel
  have hiX1 : ∀ w ∈ u_ws RX1 TX1 8, w ∈ wsX0_passMinute := by decide +kernel
  have hf0 := hts (.fieldLink RX0 25 "StepClock$Moment" "steps" "I") (by decide +kernel)
  have hf1 := hts (.fieldLink RX0 21 "StepClock$Moment" "minute" "I") (by decide +kernel)
  have hf2 := hts (.fieldLink RX0 28 "StepClock$Moment" "sitting" "I") (by decide +kernel)
  have hl : lv_has ls 5 [(0, .ref T), (1, .ref P)] := hl
  have hq0 : st / hs ≤ st := Nat.div_le_self _ _
  refine lv_aload_n hx hb dX0_passMinute_0 rfl (lv_at hl 1 rfl) ?_
  refine lv_aload_n hx hb dX0_passMinute_1 rfl (lv_at hl 0 rfl) ?_
  refine va_get (D := g.1) (ci := 0) (v := .int (nI st)) (C := RX0) (T := TX0) (N := 6) hx hb hts hiX0 hown hK.1 hP 0 rfl rfl 4 (by decide) hf0 (fun _ h9 => h9) rfl dX0_passMinute_2 ?_
  refine zz_callI (wr := [(T, .inr (0, [.ref Ta, .ref Tb, .ref Tc, .int (nI mi), .int (nI st), .int (nI si)])), (Ta, .inl (g.2.1.1, 6, .inl (zf dn))), (Tb, .inl (g.2.1.1, 6, .inl (zf lf))), (Tc, .inl (g.2.1.1, 6, .inl (zf tk))), (Pa, .inl (g.2.1.1, 6, .inl (zf wc))), (Pb, .inl (g.2.1.1, 96, .inl (zf wp))), (Pc, .inl (g.2.1.1, 12, .inl (zf mp)))]) (wc := [(P, .inr (1, [.ref Pa, .ref Pb, .ref Pc, .ref Pd, .int (nI hs), .int (nI np), .int (nI nm), .int (nI nw)]))]) (As := [.int (nI st)]) (rest := []) F hK hE hA hP hD hS (c_X1_hourOf l g (P := P) (Pa := Pa) (Pb := Pb) (Pc := Pc) (Pd := Pd) (hs := hs) (np := np) (nm := nm) (nw := nw) (x := st) (hhs := by first | assumption | omega) (hx1 := by first | assumption | omega)) (cwV 1 hts gX0_passMinute_X1_hourOf rfl rfl rfl (by decide +kernel) ⟨Nat.le_of_ble_eq_true rfl, Nat.le_of_ble_eq_true rfl⟩) [4] [0, 1, 2, 3, 5, 6, 7] rfl rfl (by decide) (by decide) (by decide) 1 0 rfl rfl rfl rfl rfl hl.1 (Nat.le_of_ble_eq_true rfl) dX0_passMinute_5 ⟨Nat.le_of_ble_eq_true rfl, Nat.le_of_ble_eq_true rfl⟩ (fun r_1 u_1 H locs hw hP hD hS => ?_)
  have hP : va_P g.1 vwCl [(T, .inr (0, [.ref Ta, .ref Tb, .ref Tc, .int (nI mi), .int (nI st), .int (nI si)])), (Ta, .inl (g.2.1.1, 6, .inl (zf dn))), (Tb, .inl (g.2.1.1, 6, .inl (zf lf))), (Tc, .inl (g.2.1.1, 6, .inl (zf tk))), (Pa, .inl (g.2.1.1, 6, .inl (zf wc))), (Pb, .inl (g.2.1.1, 96, .inl (zf wp))), (Pc, .inl (g.2.1.1, 12, .inl (zf mp))), (P, .inr (1, [.ref Pa, .ref Pb, .ref Pc, .ref Pd, .int (nI hs), .int (nI np), .int (nI nm), .int (nI nw)]))] _ := hP
  have hD : va_D A [(T, .inr (0, [.ref Ta, .ref Tb, .ref Tc, .int (nI mi), .int (nI st), .int (nI si)])), (Ta, .inl (g.2.1.1, 6, .inl (zf dn))), (Tb, .inl (g.2.1.1, 6, .inl (zf lf))), (Tc, .inl (g.2.1.1, 6, .inl (zf tk))), (Pa, .inl (g.2.1.1, 6, .inl (zf wc))), (Pb, .inl (g.2.1.1, 96, .inl (zf wp))), (Pc, .inl (g.2.1.1, 12, .inl (zf mp))), (P, .inr (1, [.ref Pa, .ref Pb, .ref Pc, .ref Pd, .int (nI hs), .int (nI np), .int (nI nm), .int (nI nw)]))] := hD
  have hr_1 := hw
  have hr_1 : r_1 = nI (st / hs) := hr_1
  subst hr_1
  refine lv_istore_n (lv' := [(2, .int (nI (st / hs))), (0, .ref T), (1, .ref P)]) hx hb dX0_passMinute_8 rfl hl (by decide) rfl (fun ls hl => ?_)
  refine lv_aload_n hx hb dX0_passMinute_9 rfl (lv_at hl 2 rfl) ?_
  refine lv_aload_n hx hb dX0_passMinute_10 rfl (lv_at hl 1 rfl) ?_
  refine va_get (D := g.1) (ci := 0) (v := .int (nI mi)) (C := RX0) (T := TX0) (N := 6) hx hb hts hiX0 hown hK.1 hP 0 rfl rfl 3 (by decide) hf1 (fun _ h9 => h9) rfl dX0_passMinute_11 ?_
  refine zz_callI (wr := [(T, .inr (0, [.ref Ta, .ref Tb, .ref Tc, .int (nI mi), .int (nI st), .int (nI si)])), (Ta, .inl (g.2.1.1, 6, .inl (zf dn))), (Tb, .inl (g.2.1.1, 6, .inl (zf lf))), (Tc, .inl (g.2.1.1, 6, .inl (zf tk))), (Pa, .inl (g.2.1.1, 6, .inl (zf wc))), (Pb, .inl (g.2.1.1, 96, .inl (zf wp)))]) (wc := [(P, .inr (1, [.ref Pa, .ref Pb, .ref Pc, .ref Pd, .int (nI hs), .int (nI np), .int (nI nm), .int (nI nw)])), (Pc, .inl (g.2.1.1, 12, .inl (zf mp)))]) (As := [.int (nI mi)]) (rest := []) F hK hE hA hP hD hS (c_X1_marchSteps l g (P := P) (Pa := Pa) (Pb := Pb) (Pc := Pc) (Pd := Pd) (hs := hs) (np := np) (nm := nm) (nw := nw) (mp := mp) (mi := mi) (hnm := by first | assumption | omega) (hmp := by first | assumption | omega) (hmi := by first | assumption | omega)) (cwV 1 hts gX0_passMinute_X1_marchSteps rfl rfl rfl (by decide +kernel) ⟨Nat.le_of_ble_eq_true rfl, Nat.le_of_ble_eq_true rfl⟩) [7, 6] [0, 1, 2, 3, 4, 5] rfl rfl (by decide) (by decide) (by decide) 1 0 rfl rfl rfl rfl rfl hl.1 (Nat.le_of_ble_eq_true rfl) dX0_passMinute_14 ⟨Nat.le_of_ble_eq_true rfl, Nat.le_of_ble_eq_true rfl⟩ (fun r_2 u_2 H locs hw hP hD hS => ?_)
  have hP : va_P g.1 vwCl [(T, .inr (0, [.ref Ta, .ref Tb, .ref Tc, .int (nI mi), .int (nI st), .int (nI si)])), (Ta, .inl (g.2.1.1, 6, .inl (zf dn))), (Tb, .inl (g.2.1.1, 6, .inl (zf lf))), (Tc, .inl (g.2.1.1, 6, .inl (zf tk))), (Pa, .inl (g.2.1.1, 6, .inl (zf wc))), (Pb, .inl (g.2.1.1, 96, .inl (zf wp))), (P, .inr (1, [.ref Pa, .ref Pb, .ref Pc, .ref Pd, .int (nI hs), .int (nI np), .int (nI nm), .int (nI nw)])), (Pc, .inl (g.2.1.1, 12, .inl (zf mp)))] _ := hP
  have hD : va_D A [(T, .inr (0, [.ref Ta, .ref Tb, .ref Tc, .int (nI mi), .int (nI st), .int (nI si)])), (Ta, .inl (g.2.1.1, 6, .inl (zf dn))), (Tb, .inl (g.2.1.1, 6, .inl (zf lf))), (Tc, .inl (g.2.1.1, 6, .inl (zf tk))), (Pa, .inl (g.2.1.1, 6, .inl (zf wc))), (Pb, .inl (g.2.1.1, 96, .inl (zf wp))), (P, .inr (1, [.ref Pa, .ref Pb, .ref Pc, .ref Pd, .int (nI hs), .int (nI np), .int (nI nm), .int (nI nw)])), (Pc, .inl (g.2.1.1, 12, .inl (zf mp)))] := hD
  have hr_2 := hw
  have hr_2 : r_2 = nI (zSm (zMs mp mi) nm) := hr_2
  subst hr_2
  have hms0 := zSm_le (zMs_le hmp mi) nm
  refine lv_istore_n (lv' := [(3, .int (nI (zSm (zMs mp mi) nm))), (2, .int (nI (st / hs))), (0, .ref T), (1, .ref P)]) hx hb dX0_passMinute_17 rfl hl (by decide) rfl (fun ls hl => ?_)
  refine lv_iconst (v := 0) hx hb dX0_passMinute_18 (by decide) ?_
  refine lv_istore (lv' := [(4, .int 0), (3, .int (nI (zSm (zMs mp mi) nm))), (2, .int (nI (st / hs))), (0, .ref T), (1, .ref P)]) hx hb dX0_passMinute_19 hl (by decide) rfl (fun ls hl => ?_)
  have hcut21 : ∀ (fu : Nat) (i : Nat) (H : Heap) (locs : List Loc) (ls : Array Slot), (i ≤ np) → (np - i) < fu → va_P g.1 vwCl [(T, .inr (0, [.ref Ta, .ref Tb, .ref Tc, .int (nI mi), .int (nI st), .int (nI si)])), (Ta, .inl (g.2.1.1, 6, .inl (zf (zNew si i (zDn wc wp dn lf mi (st / hs)) dn)))), (Tb, .inl (g.2.1.1, 6, .inl (zf (zNew si i (zLf wc wp dn lf mi (st / hs)) lf)))), (Tc, .inl (g.2.1.1, 6, .inl (zf (zNew si i (fun q => tk q + zTk wc wp dn lf mi (st / hs) q) tk)))), (Pa, .inl (g.2.1.1, 6, .inl (zf wc))), (Pb, .inl (g.2.1.1, 96, .inl (zf wp))), (P, .inr (1, [.ref Pa, .ref Pb, .ref Pc, .ref Pd, .int (nI hs), .int (nI np), .int (nI nm), .int (nI nw)])), (Pc, .inl (g.2.1.1, 12, .inl (zf mp)))] H → va_D A [(T, .inr (0, [.ref Ta, .ref Tb, .ref Tc, .int (nI mi), .int (nI st), .int (nI si)])), (Ta, .inl (g.2.1.1, 6, .inl (zf (zNew si i (zDn wc wp dn lf mi (st / hs)) dn)))), (Tb, .inl (g.2.1.1, 6, .inl (zf (zNew si i (zLf wc wp dn lf mi (st / hs)) lf)))), (Tc, .inl (g.2.1.1, 6, .inl (zf (zNew si i (fun q => tk q + zTk wc wp dn lf mi (st / hs) q) tk)))), (Pa, .inl (g.2.1.1, 6, .inl (zf wc))), (Pb, .inl (g.2.1.1, 96, .inl (zf wp))), (P, .inr (1, [.ref Pa, .ref Pb, .ref Pc, .ref Pd, .int (nI hs), .int (nI np), .int (nI nm), .int (nI nw)])), (Pc, .inl (g.2.1.1, 12, .inl (zf mp)))] → va_S A s.heap H locs → lv_has ls 5 [(0, .ref T), (1, .ref P), (2, .int (nI (st / hs))), (3, .int (nI (zSm (zMs mp mi) nm + zSm (zTs wc wp dn lf mi (st / hs) si) i))), (4, .int (nI i))] → W pP l eE { frames := 3, cells := 0, slots := 0, locals := 72 } s mM ([.ref T, .ref P] : List Value).toArray below meth cC H locs 0 0 Q (F0 mM 21 ls []) := by
    intro fu
    induction fu with
    | zero =>
      intro i H locs ls hi hm
      exact absurd hm (Nat.not_lt_zero _)
    | succ fu ih21 =>
      intro i H locs ls hi hm hP hD hS hl
      have hms := zSm_le (zMs_le hmp mi) nm
      have htsm := zSm_le (f := zTs wc wp dn lf mi (st / hs) si) (b := 1000) (zTs_le (si := si) hwp) i
      refine lv_iload hx hb dX0_passMinute_21 (lv_at hl 4 rfl) ?_
      refine lv_aload_n hx hb dX0_passMinute_23 rfl (lv_at hl 1 rfl) ?_
      refine va_getN (D := g.1) (ci := 1) (v := .int (nI np)) (C := RX1) (T := TX1) (N := 8) (host := RX4) (ref := RX1) hx hb hts hiX1 hown hK.1 hP 6 rfl rfl 5 (by decide) (va_Nw.use rfl (hK.2.1 (.fieldLinkNest RX0 44 RX1 "people" "I" RX4) (by decide +kernel))) (fun _ h9 => h9) rfl dX0_passMinute_24 ?_
      refine zz_icmp_ge (tgt := 66) hx hb dX0_passMinute_27 (by decide) (zi_n i) (zi_n np) (by omega) (by omega) (fun c_3 => ?_) (fun c_3 => ?_)
      · refine lv_aload_n hx hb dX0_passMinute_66 rfl (lv_at hl 0 rfl) ?_
        refine lv_dup hx hb dX0_passMinute_67 rfl ?_
        refine va_get (D := g.1) (ci := 0) (v := .int (nI st)) (C := RX0) (T := TX0) (N := 6) hx hb hts hiX0 hown hK.1 hP 0 rfl rfl 4 (by decide) hf0 (fun _ h9 => h9) rfl dX0_passMinute_68 ?_
        refine lv_iload_n hx hb dX0_passMinute_71 rfl (lv_at hl 3 rfl) ?_
        refine lv_iadd hx hb dX0_passMinute_72 ?_
        refine zz_topi (y := nI (st + (zSm (zMs mp mi) nm + zSm (zTs wc wp dn lf mi (st / hs) si) i))) (zi_eq (zi_add (zi_n st) (zi_n (zSm (zMs mp mi) nm + zSm (zTs wc wp dn lf mi (st / hs) si) i))) (zi_n (st + (zSm (zMs mp mi) nm + zSm (zTs wc wp dn lf mi (st / hs) si) i))) (by omega)) ?_
        refine va_put (D := g.1) (ci := 0) (v := .int (nI (st + (zSm (zMs mp mi) nm + zSm (zTs wc wp dn lf mi (st / hs) si) i)))) (ty := .int) (C := RX0) (T := TX0) (N := 6) hx hb hts hiX0 tyX0 tyX0_ok nmX0 hown hK.1 hP hD hS 0 rfl rfl 4 (by decide) hf0 (fun _ h9 => h9) rfl (by decide +kernel) rfl rfl (Nat.le_of_ble_eq_true rfl) dX0_passMinute_73 (fun H locs hP hD hS => ?_)
        have hP : va_P g.1 vwCl [(T, .inr (0, [.ref Ta, .ref Tb, .ref Tc, .int (nI mi), .int (nI (st + (zSm (zMs mp mi) nm + zSm (zTs wc wp dn lf mi (st / hs) si) i))), .int (nI si)])), (Ta, .inl (g.2.1.1, 6, .inl (zf (zNew si i (zDn wc wp dn lf mi (st / hs)) dn)))), (Tb, .inl (g.2.1.1, 6, .inl (zf (zNew si i (zLf wc wp dn lf mi (st / hs)) lf)))), (Tc, .inl (g.2.1.1, 6, .inl (zf (zNew si i (fun q => tk q + zTk wc wp dn lf mi (st / hs) q) tk)))), (Pa, .inl (g.2.1.1, 6, .inl (zf wc))), (Pb, .inl (g.2.1.1, 96, .inl (zf wp))), (P, .inr (1, [.ref Pa, .ref Pb, .ref Pc, .ref Pd, .int (nI hs), .int (nI np), .int (nI nm), .int (nI nw)])), (Pc, .inl (g.2.1.1, 12, .inl (zf mp)))] _ := hP
        have hD : va_D A [(T, .inr (0, [.ref Ta, .ref Tb, .ref Tc, .int (nI mi), .int (nI (st + (zSm (zMs mp mi) nm + zSm (zTs wc wp dn lf mi (st / hs) si) i))), .int (nI si)])), (Ta, .inl (g.2.1.1, 6, .inl (zf (zNew si i (zDn wc wp dn lf mi (st / hs)) dn)))), (Tb, .inl (g.2.1.1, 6, .inl (zf (zNew si i (zLf wc wp dn lf mi (st / hs)) lf)))), (Tc, .inl (g.2.1.1, 6, .inl (zf (zNew si i (fun q => tk q + zTk wc wp dn lf mi (st / hs) q) tk)))), (Pa, .inl (g.2.1.1, 6, .inl (zf wc))), (Pb, .inl (g.2.1.1, 96, .inl (zf wp))), (P, .inr (1, [.ref Pa, .ref Pb, .ref Pc, .ref Pd, .int (nI hs), .int (nI np), .int (nI nm), .int (nI nw)])), (Pc, .inl (g.2.1.1, 12, .inl (zf mp)))] := hD
        refine lv_aload_n hx hb dX0_passMinute_76 rfl (lv_at hl 0 rfl) ?_
        refine lv_dup hx hb dX0_passMinute_77 rfl ?_
        refine va_get (D := g.1) (ci := 0) (v := .int (nI mi)) (C := RX0) (T := TX0) (N := 6) hx hb hts hiX0 hown hK.1 hP 0 rfl rfl 3 (by decide) hf1 (fun _ h9 => h9) rfl dX0_passMinute_78 ?_
        refine lv_iconst (v := 1) hx hb dX0_passMinute_81 (by decide) ?_
        refine lv_iadd hx hb dX0_passMinute_82 ?_
        refine zz_topi (y := nI (mi + 1)) (zi_eq (zi_add (zi_n mi) (zi_c 1 rfl)) (zi_n (mi + 1)) (by omega)) ?_
        refine va_put (D := g.1) (ci := 0) (v := .int (nI (mi + 1))) (ty := .int) (C := RX0) (T := TX0) (N := 6) hx hb hts hiX0 tyX0 tyX0_ok nmX0 hown hK.1 hP hD hS 0 rfl rfl 3 (by decide) hf1 (fun _ h9 => h9) rfl (by decide +kernel) rfl rfl (Nat.le_of_ble_eq_true rfl) dX0_passMinute_83 (fun H locs hP hD hS => ?_)
        have hP : va_P g.1 vwCl [(T, .inr (0, [.ref Ta, .ref Tb, .ref Tc, .int (nI (mi + 1)), .int (nI (st + (zSm (zMs mp mi) nm + zSm (zTs wc wp dn lf mi (st / hs) si) i))), .int (nI si)])), (Ta, .inl (g.2.1.1, 6, .inl (zf (zNew si i (zDn wc wp dn lf mi (st / hs)) dn)))), (Tb, .inl (g.2.1.1, 6, .inl (zf (zNew si i (zLf wc wp dn lf mi (st / hs)) lf)))), (Tc, .inl (g.2.1.1, 6, .inl (zf (zNew si i (fun q => tk q + zTk wc wp dn lf mi (st / hs) q) tk)))), (Pa, .inl (g.2.1.1, 6, .inl (zf wc))), (Pb, .inl (g.2.1.1, 96, .inl (zf wp))), (P, .inr (1, [.ref Pa, .ref Pb, .ref Pc, .ref Pd, .int (nI hs), .int (nI np), .int (nI nm), .int (nI nw)])), (Pc, .inl (g.2.1.1, 12, .inl (zf mp)))] _ := hP
        have hD : va_D A [(T, .inr (0, [.ref Ta, .ref Tb, .ref Tc, .int (nI (mi + 1)), .int (nI (st + (zSm (zMs mp mi) nm + zSm (zTs wc wp dn lf mi (st / hs) si) i))), .int (nI si)])), (Ta, .inl (g.2.1.1, 6, .inl (zf (zNew si i (zDn wc wp dn lf mi (st / hs)) dn)))), (Tb, .inl (g.2.1.1, 6, .inl (zf (zNew si i (zLf wc wp dn lf mi (st / hs)) lf)))), (Tc, .inl (g.2.1.1, 6, .inl (zf (zNew si i (fun q => tk q + zTk wc wp dn lf mi (st / hs) q) tk)))), (Pa, .inl (g.2.1.1, 6, .inl (zf wc))), (Pb, .inl (g.2.1.1, 96, .inl (zf wp))), (P, .inr (1, [.ref Pa, .ref Pb, .ref Pc, .ref Pd, .int (nI hs), .int (nI np), .int (nI nm), .int (nI nw)])), (Pc, .inl (g.2.1.1, 12, .inl (zf mp)))] := hD
        have hP := hP.sub (ws' := [(T, .inr (0, [.ref Ta, .ref Tb, .ref Tc, .int (nI (mi + 1)), .int (nI (st + (zSm (zMs mp mi) nm + zSm (zTs wc wp dn lf mi (st / hs) si) i))), .int (nI si)])), (Ta, .inl (g.2.1.1, 6, .inl (zf (zNew si i (zDn wc wp dn lf mi (st / hs)) dn)))), (Tb, .inl (g.2.1.1, 6, .inl (zf (zNew si i (zLf wc wp dn lf mi (st / hs)) lf)))), (Tc, .inl (g.2.1.1, 6, .inl (zf (zNew si i (fun q => tk q + zTk wc wp dn lf mi (st / hs) q) tk)))), (P, .inr (1, [.ref Pa, .ref Pb, .ref Pc, .ref Pd, .int (nI hs), .int (nI np), .int (nI nm), .int (nI nw)])), (Pa, .inl (g.2.1.1, 6, .inl (zf wc))), (Pb, .inl (g.2.1.1, 96, .inl (zf wp))), (Pc, .inl (g.2.1.1, 12, .inl (zf mp)))]) [0, 1, 2, 3, 6, 4, 5, 7] rfl
        have hD := hD.sub (ws' := [(T, .inr (0, [.ref Ta, .ref Tb, .ref Tc, .int (nI (mi + 1)), .int (nI (st + (zSm (zMs mp mi) nm + zSm (zTs wc wp dn lf mi (st / hs) si) i))), .int (nI si)])), (Ta, .inl (g.2.1.1, 6, .inl (zf (zNew si i (zDn wc wp dn lf mi (st / hs)) dn)))), (Tb, .inl (g.2.1.1, 6, .inl (zf (zNew si i (zLf wc wp dn lf mi (st / hs)) lf)))), (Tc, .inl (g.2.1.1, 6, .inl (zf (zNew si i (fun q => tk q + zTk wc wp dn lf mi (st / hs) q) tk)))), (P, .inr (1, [.ref Pa, .ref Pb, .ref Pc, .ref Pd, .int (nI hs), .int (nI np), .int (nI nm), .int (nI nw)])), (Pa, .inl (g.2.1.1, 6, .inl (zf wc))), (Pb, .inl (g.2.1.1, 96, .inl (zf wp))), (Pc, .inl (g.2.1.1, 12, .inl (zf mp)))]) [0, 1, 2, 3, 6, 4, 5, 7] (by decide) rfl
        have eq_4 : nI (st + (zSm (zMs mp mi) nm + zSm (zTs wc wp dn lf mi (st / hs) si) i)) = nI (st + (zSm (zMs mp mi) nm + zSm (zTs wc wp dn lf mi (st / hs) si) np)) := by rw [show i = np by omega]
        have hP : va_P g.1 vwCl [(T, .inr (0, [.ref Ta, .ref Tb, .ref Tc, .int (nI (mi + 1)), .int ((nI (st + (zSm (zMs mp mi) nm + zSm (zTs wc wp dn lf mi (st / hs) si) np)))), .int (nI si)])), (Ta, .inl (g.2.1.1, 6, .inl (zf (zNew si i (zDn wc wp dn lf mi (st / hs)) dn)))), (Tb, .inl (g.2.1.1, 6, .inl (zf (zNew si i (zLf wc wp dn lf mi (st / hs)) lf)))), (Tc, .inl (g.2.1.1, 6, .inl (zf (zNew si i (fun q => tk q + zTk wc wp dn lf mi (st / hs) q) tk)))), (P, .inr (1, [.ref Pa, .ref Pb, .ref Pc, .ref Pd, .int (nI hs), .int (nI np), .int (nI nm), .int (nI nw)])), (Pa, .inl (g.2.1.1, 6, .inl (zf wc))), (Pb, .inl (g.2.1.1, 96, .inl (zf wp))), (Pc, .inl (g.2.1.1, 12, .inl (zf mp)))] _ := Eq.mp (congrArg (fun z => va_P g.1 vwCl [(T, .inr (0, [.ref Ta, .ref Tb, .ref Tc, .int (nI (mi + 1)), .int (z), .int (nI si)])), (Ta, .inl (g.2.1.1, 6, .inl (zf (zNew si i (zDn wc wp dn lf mi (st / hs)) dn)))), (Tb, .inl (g.2.1.1, 6, .inl (zf (zNew si i (zLf wc wp dn lf mi (st / hs)) lf)))), (Tc, .inl (g.2.1.1, 6, .inl (zf (zNew si i (fun q => tk q + zTk wc wp dn lf mi (st / hs) q) tk)))), (P, .inr (1, [.ref Pa, .ref Pb, .ref Pc, .ref Pd, .int (nI hs), .int (nI np), .int (nI nm), .int (nI nw)])), (Pa, .inl (g.2.1.1, 6, .inl (zf wc))), (Pb, .inl (g.2.1.1, 96, .inl (zf wp))), (Pc, .inl (g.2.1.1, 12, .inl (zf mp)))] _) eq_4) hP
        have hD : va_D A [(T, .inr (0, [.ref Ta, .ref Tb, .ref Tc, .int (nI (mi + 1)), .int ((nI (st + (zSm (zMs mp mi) nm + zSm (zTs wc wp dn lf mi (st / hs) si) np)))), .int (nI si)])), (Ta, .inl (g.2.1.1, 6, .inl (zf (zNew si i (zDn wc wp dn lf mi (st / hs)) dn)))), (Tb, .inl (g.2.1.1, 6, .inl (zf (zNew si i (zLf wc wp dn lf mi (st / hs)) lf)))), (Tc, .inl (g.2.1.1, 6, .inl (zf (zNew si i (fun q => tk q + zTk wc wp dn lf mi (st / hs) q) tk)))), (P, .inr (1, [.ref Pa, .ref Pb, .ref Pc, .ref Pd, .int (nI hs), .int (nI np), .int (nI nm), .int (nI nw)])), (Pa, .inl (g.2.1.1, 6, .inl (zf wc))), (Pb, .inl (g.2.1.1, 96, .inl (zf wp))), (Pc, .inl (g.2.1.1, 12, .inl (zf mp)))] := Eq.mp (congrArg (fun z => va_D A [(T, .inr (0, [.ref Ta, .ref Tb, .ref Tc, .int (nI (mi + 1)), .int (z), .int (nI si)])), (Ta, .inl (g.2.1.1, 6, .inl (zf (zNew si i (zDn wc wp dn lf mi (st / hs)) dn)))), (Tb, .inl (g.2.1.1, 6, .inl (zf (zNew si i (zLf wc wp dn lf mi (st / hs)) lf)))), (Tc, .inl (g.2.1.1, 6, .inl (zf (zNew si i (fun q => tk q + zTk wc wp dn lf mi (st / hs) q) tk)))), (P, .inr (1, [.ref Pa, .ref Pb, .ref Pc, .ref Pd, .int (nI hs), .int (nI np), .int (nI nm), .int (nI nw)])), (Pa, .inl (g.2.1.1, 6, .inl (zf wc))), (Pb, .inl (g.2.1.1, 96, .inl (zf wp))), (Pc, .inl (g.2.1.1, 12, .inl (zf mp)))]) eq_4) hD
        have eq_5 : (zNew si i (zDn wc wp dn lf mi (st / hs)) dn) = (zNew si np (zDn wc wp dn lf mi (st / hs)) dn) := by rw [show i = np by omega]
        have hP : va_P g.1 vwCl [(T, .inr (0, [.ref Ta, .ref Tb, .ref Tc, .int (nI (mi + 1)), .int (nI (st + (zSm (zMs mp mi) nm + zSm (zTs wc wp dn lf mi (st / hs) si) np))), .int (nI si)])), (Ta, .inl (g.2.1.1, 6, .inl (zf (zNew si np (zDn wc wp dn lf mi (st / hs)) dn)))), (Tb, .inl (g.2.1.1, 6, .inl (zf (zNew si i (zLf wc wp dn lf mi (st / hs)) lf)))), (Tc, .inl (g.2.1.1, 6, .inl (zf (zNew si i (fun q => tk q + zTk wc wp dn lf mi (st / hs) q) tk)))), (P, .inr (1, [.ref Pa, .ref Pb, .ref Pc, .ref Pd, .int (nI hs), .int (nI np), .int (nI nm), .int (nI nw)])), (Pa, .inl (g.2.1.1, 6, .inl (zf wc))), (Pb, .inl (g.2.1.1, 96, .inl (zf wp))), (Pc, .inl (g.2.1.1, 12, .inl (zf mp)))] _ := Eq.mp (congrArg (fun z => va_P g.1 vwCl [(T, .inr (0, [.ref Ta, .ref Tb, .ref Tc, .int (nI (mi + 1)), .int (nI (st + (zSm (zMs mp mi) nm + zSm (zTs wc wp dn lf mi (st / hs) si) np))), .int (nI si)])), (Ta, .inl (g.2.1.1, 6, .inl (zf z))), (Tb, .inl (g.2.1.1, 6, .inl (zf (zNew si i (zLf wc wp dn lf mi (st / hs)) lf)))), (Tc, .inl (g.2.1.1, 6, .inl (zf (zNew si i (fun q => tk q + zTk wc wp dn lf mi (st / hs) q) tk)))), (P, .inr (1, [.ref Pa, .ref Pb, .ref Pc, .ref Pd, .int (nI hs), .int (nI np), .int (nI nm), .int (nI nw)])), (Pa, .inl (g.2.1.1, 6, .inl (zf wc))), (Pb, .inl (g.2.1.1, 96, .inl (zf wp))), (Pc, .inl (g.2.1.1, 12, .inl (zf mp)))] _) eq_5) hP
        have hD : va_D A [(T, .inr (0, [.ref Ta, .ref Tb, .ref Tc, .int (nI (mi + 1)), .int (nI (st + (zSm (zMs mp mi) nm + zSm (zTs wc wp dn lf mi (st / hs) si) np))), .int (nI si)])), (Ta, .inl (g.2.1.1, 6, .inl (zf (zNew si np (zDn wc wp dn lf mi (st / hs)) dn)))), (Tb, .inl (g.2.1.1, 6, .inl (zf (zNew si i (zLf wc wp dn lf mi (st / hs)) lf)))), (Tc, .inl (g.2.1.1, 6, .inl (zf (zNew si i (fun q => tk q + zTk wc wp dn lf mi (st / hs) q) tk)))), (P, .inr (1, [.ref Pa, .ref Pb, .ref Pc, .ref Pd, .int (nI hs), .int (nI np), .int (nI nm), .int (nI nw)])), (Pa, .inl (g.2.1.1, 6, .inl (zf wc))), (Pb, .inl (g.2.1.1, 96, .inl (zf wp))), (Pc, .inl (g.2.1.1, 12, .inl (zf mp)))] := Eq.mp (congrArg (fun z => va_D A [(T, .inr (0, [.ref Ta, .ref Tb, .ref Tc, .int (nI (mi + 1)), .int (nI (st + (zSm (zMs mp mi) nm + zSm (zTs wc wp dn lf mi (st / hs) si) np))), .int (nI si)])), (Ta, .inl (g.2.1.1, 6, .inl (zf z))), (Tb, .inl (g.2.1.1, 6, .inl (zf (zNew si i (zLf wc wp dn lf mi (st / hs)) lf)))), (Tc, .inl (g.2.1.1, 6, .inl (zf (zNew si i (fun q => tk q + zTk wc wp dn lf mi (st / hs) q) tk)))), (P, .inr (1, [.ref Pa, .ref Pb, .ref Pc, .ref Pd, .int (nI hs), .int (nI np), .int (nI nm), .int (nI nw)])), (Pa, .inl (g.2.1.1, 6, .inl (zf wc))), (Pb, .inl (g.2.1.1, 96, .inl (zf wp))), (Pc, .inl (g.2.1.1, 12, .inl (zf mp)))]) eq_5) hD
        have eq_6 : (zNew si i (zLf wc wp dn lf mi (st / hs)) lf) = (zNew si np (zLf wc wp dn lf mi (st / hs)) lf) := by rw [show i = np by omega]
        have hP : va_P g.1 vwCl [(T, .inr (0, [.ref Ta, .ref Tb, .ref Tc, .int (nI (mi + 1)), .int (nI (st + (zSm (zMs mp mi) nm + zSm (zTs wc wp dn lf mi (st / hs) si) np))), .int (nI si)])), (Ta, .inl (g.2.1.1, 6, .inl (zf (zNew si np (zDn wc wp dn lf mi (st / hs)) dn)))), (Tb, .inl (g.2.1.1, 6, .inl (zf (zNew si np (zLf wc wp dn lf mi (st / hs)) lf)))), (Tc, .inl (g.2.1.1, 6, .inl (zf (zNew si i (fun q => tk q + zTk wc wp dn lf mi (st / hs) q) tk)))), (P, .inr (1, [.ref Pa, .ref Pb, .ref Pc, .ref Pd, .int (nI hs), .int (nI np), .int (nI nm), .int (nI nw)])), (Pa, .inl (g.2.1.1, 6, .inl (zf wc))), (Pb, .inl (g.2.1.1, 96, .inl (zf wp))), (Pc, .inl (g.2.1.1, 12, .inl (zf mp)))] _ := Eq.mp (congrArg (fun z => va_P g.1 vwCl [(T, .inr (0, [.ref Ta, .ref Tb, .ref Tc, .int (nI (mi + 1)), .int (nI (st + (zSm (zMs mp mi) nm + zSm (zTs wc wp dn lf mi (st / hs) si) np))), .int (nI si)])), (Ta, .inl (g.2.1.1, 6, .inl (zf (zNew si np (zDn wc wp dn lf mi (st / hs)) dn)))), (Tb, .inl (g.2.1.1, 6, .inl (zf z))), (Tc, .inl (g.2.1.1, 6, .inl (zf (zNew si i (fun q => tk q + zTk wc wp dn lf mi (st / hs) q) tk)))), (P, .inr (1, [.ref Pa, .ref Pb, .ref Pc, .ref Pd, .int (nI hs), .int (nI np), .int (nI nm), .int (nI nw)])), (Pa, .inl (g.2.1.1, 6, .inl (zf wc))), (Pb, .inl (g.2.1.1, 96, .inl (zf wp))), (Pc, .inl (g.2.1.1, 12, .inl (zf mp)))] _) eq_6) hP
        have hD : va_D A [(T, .inr (0, [.ref Ta, .ref Tb, .ref Tc, .int (nI (mi + 1)), .int (nI (st + (zSm (zMs mp mi) nm + zSm (zTs wc wp dn lf mi (st / hs) si) np))), .int (nI si)])), (Ta, .inl (g.2.1.1, 6, .inl (zf (zNew si np (zDn wc wp dn lf mi (st / hs)) dn)))), (Tb, .inl (g.2.1.1, 6, .inl (zf (zNew si np (zLf wc wp dn lf mi (st / hs)) lf)))), (Tc, .inl (g.2.1.1, 6, .inl (zf (zNew si i (fun q => tk q + zTk wc wp dn lf mi (st / hs) q) tk)))), (P, .inr (1, [.ref Pa, .ref Pb, .ref Pc, .ref Pd, .int (nI hs), .int (nI np), .int (nI nm), .int (nI nw)])), (Pa, .inl (g.2.1.1, 6, .inl (zf wc))), (Pb, .inl (g.2.1.1, 96, .inl (zf wp))), (Pc, .inl (g.2.1.1, 12, .inl (zf mp)))] := Eq.mp (congrArg (fun z => va_D A [(T, .inr (0, [.ref Ta, .ref Tb, .ref Tc, .int (nI (mi + 1)), .int (nI (st + (zSm (zMs mp mi) nm + zSm (zTs wc wp dn lf mi (st / hs) si) np))), .int (nI si)])), (Ta, .inl (g.2.1.1, 6, .inl (zf (zNew si np (zDn wc wp dn lf mi (st / hs)) dn)))), (Tb, .inl (g.2.1.1, 6, .inl (zf z))), (Tc, .inl (g.2.1.1, 6, .inl (zf (zNew si i (fun q => tk q + zTk wc wp dn lf mi (st / hs) q) tk)))), (P, .inr (1, [.ref Pa, .ref Pb, .ref Pc, .ref Pd, .int (nI hs), .int (nI np), .int (nI nm), .int (nI nw)])), (Pa, .inl (g.2.1.1, 6, .inl (zf wc))), (Pb, .inl (g.2.1.1, 96, .inl (zf wp))), (Pc, .inl (g.2.1.1, 12, .inl (zf mp)))]) eq_6) hD
        have eq_7 : (zNew si i (fun q => tk q + zTk wc wp dn lf mi (st / hs) q) tk) = (zNew si np (fun q => tk q + zTk wc wp dn lf mi (st / hs) q) tk) := by rw [show i = np by omega]
        have hP : va_P g.1 vwCl [(T, .inr (0, [.ref Ta, .ref Tb, .ref Tc, .int (nI (mi + 1)), .int (nI (st + (zSm (zMs mp mi) nm + zSm (zTs wc wp dn lf mi (st / hs) si) np))), .int (nI si)])), (Ta, .inl (g.2.1.1, 6, .inl (zf (zNew si np (zDn wc wp dn lf mi (st / hs)) dn)))), (Tb, .inl (g.2.1.1, 6, .inl (zf (zNew si np (zLf wc wp dn lf mi (st / hs)) lf)))), (Tc, .inl (g.2.1.1, 6, .inl (zf (zNew si np (fun q => tk q + zTk wc wp dn lf mi (st / hs) q) tk)))), (P, .inr (1, [.ref Pa, .ref Pb, .ref Pc, .ref Pd, .int (nI hs), .int (nI np), .int (nI nm), .int (nI nw)])), (Pa, .inl (g.2.1.1, 6, .inl (zf wc))), (Pb, .inl (g.2.1.1, 96, .inl (zf wp))), (Pc, .inl (g.2.1.1, 12, .inl (zf mp)))] _ := Eq.mp (congrArg (fun z => va_P g.1 vwCl [(T, .inr (0, [.ref Ta, .ref Tb, .ref Tc, .int (nI (mi + 1)), .int (nI (st + (zSm (zMs mp mi) nm + zSm (zTs wc wp dn lf mi (st / hs) si) np))), .int (nI si)])), (Ta, .inl (g.2.1.1, 6, .inl (zf (zNew si np (zDn wc wp dn lf mi (st / hs)) dn)))), (Tb, .inl (g.2.1.1, 6, .inl (zf (zNew si np (zLf wc wp dn lf mi (st / hs)) lf)))), (Tc, .inl (g.2.1.1, 6, .inl (zf z))), (P, .inr (1, [.ref Pa, .ref Pb, .ref Pc, .ref Pd, .int (nI hs), .int (nI np), .int (nI nm), .int (nI nw)])), (Pa, .inl (g.2.1.1, 6, .inl (zf wc))), (Pb, .inl (g.2.1.1, 96, .inl (zf wp))), (Pc, .inl (g.2.1.1, 12, .inl (zf mp)))] _) eq_7) hP
        have hD : va_D A [(T, .inr (0, [.ref Ta, .ref Tb, .ref Tc, .int (nI (mi + 1)), .int (nI (st + (zSm (zMs mp mi) nm + zSm (zTs wc wp dn lf mi (st / hs) si) np))), .int (nI si)])), (Ta, .inl (g.2.1.1, 6, .inl (zf (zNew si np (zDn wc wp dn lf mi (st / hs)) dn)))), (Tb, .inl (g.2.1.1, 6, .inl (zf (zNew si np (zLf wc wp dn lf mi (st / hs)) lf)))), (Tc, .inl (g.2.1.1, 6, .inl (zf (zNew si np (fun q => tk q + zTk wc wp dn lf mi (st / hs) q) tk)))), (P, .inr (1, [.ref Pa, .ref Pb, .ref Pc, .ref Pd, .int (nI hs), .int (nI np), .int (nI nm), .int (nI nw)])), (Pa, .inl (g.2.1.1, 6, .inl (zf wc))), (Pb, .inl (g.2.1.1, 96, .inl (zf wp))), (Pc, .inl (g.2.1.1, 12, .inl (zf mp)))] := Eq.mp (congrArg (fun z => va_D A [(T, .inr (0, [.ref Ta, .ref Tb, .ref Tc, .int (nI (mi + 1)), .int (nI (st + (zSm (zMs mp mi) nm + zSm (zTs wc wp dn lf mi (st / hs) si) np))), .int (nI si)])), (Ta, .inl (g.2.1.1, 6, .inl (zf (zNew si np (zDn wc wp dn lf mi (st / hs)) dn)))), (Tb, .inl (g.2.1.1, 6, .inl (zf (zNew si np (zLf wc wp dn lf mi (st / hs)) lf)))), (Tc, .inl (g.2.1.1, 6, .inl (zf z))), (P, .inr (1, [.ref Pa, .ref Pb, .ref Pc, .ref Pd, .int (nI hs), .int (nI np), .int (nI nm), .int (nI nw)])), (Pa, .inl (g.2.1.1, 6, .inl (zf wc))), (Pb, .inl (g.2.1.1, 96, .inl (zf wp))), (Pc, .inl (g.2.1.1, 12, .inl (zf mp)))]) eq_7) hD
        exact hret 86 _ _ _ () dX0_passMinute_86 hP hD hS (show True from by trivial)
      · refine lv_iload hx hb dX0_passMinute_30 (lv_at hl 4 rfl) ?_
        refine lv_bipush (v := 6) hx hb dX0_passMinute_32 (by decide) ?_
        refine zz_icmp_ge (tgt := 66) hx hb dX0_passMinute_34 (by decide) (zi_n i) (zi_c 6 rfl) (by omega) (by omega) (fun c_8 => ?_) (fun c_8 => ?_)
        · refine lv_aload_n hx hb dX0_passMinute_66 rfl (lv_at hl 0 rfl) ?_
          refine lv_dup hx hb dX0_passMinute_67 rfl ?_
          refine va_get (D := g.1) (ci := 0) (v := .int (nI st)) (C := RX0) (T := TX0) (N := 6) hx hb hts hiX0 hown hK.1 hP 0 rfl rfl 4 (by decide) hf0 (fun _ h9 => h9) rfl dX0_passMinute_68 ?_
          refine lv_iload_n hx hb dX0_passMinute_71 rfl (lv_at hl 3 rfl) ?_
          refine lv_iadd hx hb dX0_passMinute_72 ?_
          refine zz_topi (y := nI (st + (zSm (zMs mp mi) nm + zSm (zTs wc wp dn lf mi (st / hs) si) i))) (zi_eq (zi_add (zi_n st) (zi_n (zSm (zMs mp mi) nm + zSm (zTs wc wp dn lf mi (st / hs) si) i))) (zi_n (st + (zSm (zMs mp mi) nm + zSm (zTs wc wp dn lf mi (st / hs) si) i))) (by omega)) ?_
          refine va_put (D := g.1) (ci := 0) (v := .int (nI (st + (zSm (zMs mp mi) nm + zSm (zTs wc wp dn lf mi (st / hs) si) i)))) (ty := .int) (C := RX0) (T := TX0) (N := 6) hx hb hts hiX0 tyX0 tyX0_ok nmX0 hown hK.1 hP hD hS 0 rfl rfl 4 (by decide) hf0 (fun _ h9 => h9) rfl (by decide +kernel) rfl rfl (Nat.le_of_ble_eq_true rfl) dX0_passMinute_73 (fun H locs hP hD hS => ?_)
          have hP : va_P g.1 vwCl [(T, .inr (0, [.ref Ta, .ref Tb, .ref Tc, .int (nI mi), .int (nI (st + (zSm (zMs mp mi) nm + zSm (zTs wc wp dn lf mi (st / hs) si) i))), .int (nI si)])), (Ta, .inl (g.2.1.1, 6, .inl (zf (zNew si i (zDn wc wp dn lf mi (st / hs)) dn)))), (Tb, .inl (g.2.1.1, 6, .inl (zf (zNew si i (zLf wc wp dn lf mi (st / hs)) lf)))), (Tc, .inl (g.2.1.1, 6, .inl (zf (zNew si i (fun q => tk q + zTk wc wp dn lf mi (st / hs) q) tk)))), (Pa, .inl (g.2.1.1, 6, .inl (zf wc))), (Pb, .inl (g.2.1.1, 96, .inl (zf wp))), (P, .inr (1, [.ref Pa, .ref Pb, .ref Pc, .ref Pd, .int (nI hs), .int (nI np), .int (nI nm), .int (nI nw)])), (Pc, .inl (g.2.1.1, 12, .inl (zf mp)))] _ := hP
          have hD : va_D A [(T, .inr (0, [.ref Ta, .ref Tb, .ref Tc, .int (nI mi), .int (nI (st + (zSm (zMs mp mi) nm + zSm (zTs wc wp dn lf mi (st / hs) si) i))), .int (nI si)])), (Ta, .inl (g.2.1.1, 6, .inl (zf (zNew si i (zDn wc wp dn lf mi (st / hs)) dn)))), (Tb, .inl (g.2.1.1, 6, .inl (zf (zNew si i (zLf wc wp dn lf mi (st / hs)) lf)))), (Tc, .inl (g.2.1.1, 6, .inl (zf (zNew si i (fun q => tk q + zTk wc wp dn lf mi (st / hs) q) tk)))), (Pa, .inl (g.2.1.1, 6, .inl (zf wc))), (Pb, .inl (g.2.1.1, 96, .inl (zf wp))), (P, .inr (1, [.ref Pa, .ref Pb, .ref Pc, .ref Pd, .int (nI hs), .int (nI np), .int (nI nm), .int (nI nw)])), (Pc, .inl (g.2.1.1, 12, .inl (zf mp)))] := hD
          refine lv_aload_n hx hb dX0_passMinute_76 rfl (lv_at hl 0 rfl) ?_
          refine lv_dup hx hb dX0_passMinute_77 rfl ?_
          refine va_get (D := g.1) (ci := 0) (v := .int (nI mi)) (C := RX0) (T := TX0) (N := 6) hx hb hts hiX0 hown hK.1 hP 0 rfl rfl 3 (by decide) hf1 (fun _ h9 => h9) rfl dX0_passMinute_78 ?_
          refine lv_iconst (v := 1) hx hb dX0_passMinute_81 (by decide) ?_
          refine lv_iadd hx hb dX0_passMinute_82 ?_
          refine zz_topi (y := nI (mi + 1)) (zi_eq (zi_add (zi_n mi) (zi_c 1 rfl)) (zi_n (mi + 1)) (by omega)) ?_
          refine va_put (D := g.1) (ci := 0) (v := .int (nI (mi + 1))) (ty := .int) (C := RX0) (T := TX0) (N := 6) hx hb hts hiX0 tyX0 tyX0_ok nmX0 hown hK.1 hP hD hS 0 rfl rfl 3 (by decide) hf1 (fun _ h9 => h9) rfl (by decide +kernel) rfl rfl (Nat.le_of_ble_eq_true rfl) dX0_passMinute_83 (fun H locs hP hD hS => ?_)
          have hP : va_P g.1 vwCl [(T, .inr (0, [.ref Ta, .ref Tb, .ref Tc, .int (nI (mi + 1)), .int (nI (st + (zSm (zMs mp mi) nm + zSm (zTs wc wp dn lf mi (st / hs) si) i))), .int (nI si)])), (Ta, .inl (g.2.1.1, 6, .inl (zf (zNew si i (zDn wc wp dn lf mi (st / hs)) dn)))), (Tb, .inl (g.2.1.1, 6, .inl (zf (zNew si i (zLf wc wp dn lf mi (st / hs)) lf)))), (Tc, .inl (g.2.1.1, 6, .inl (zf (zNew si i (fun q => tk q + zTk wc wp dn lf mi (st / hs) q) tk)))), (Pa, .inl (g.2.1.1, 6, .inl (zf wc))), (Pb, .inl (g.2.1.1, 96, .inl (zf wp))), (P, .inr (1, [.ref Pa, .ref Pb, .ref Pc, .ref Pd, .int (nI hs), .int (nI np), .int (nI nm), .int (nI nw)])), (Pc, .inl (g.2.1.1, 12, .inl (zf mp)))] _ := hP
          have hD : va_D A [(T, .inr (0, [.ref Ta, .ref Tb, .ref Tc, .int (nI (mi + 1)), .int (nI (st + (zSm (zMs mp mi) nm + zSm (zTs wc wp dn lf mi (st / hs) si) i))), .int (nI si)])), (Ta, .inl (g.2.1.1, 6, .inl (zf (zNew si i (zDn wc wp dn lf mi (st / hs)) dn)))), (Tb, .inl (g.2.1.1, 6, .inl (zf (zNew si i (zLf wc wp dn lf mi (st / hs)) lf)))), (Tc, .inl (g.2.1.1, 6, .inl (zf (zNew si i (fun q => tk q + zTk wc wp dn lf mi (st / hs) q) tk)))), (Pa, .inl (g.2.1.1, 6, .inl (zf wc))), (Pb, .inl (g.2.1.1, 96, .inl (zf wp))), (P, .inr (1, [.ref Pa, .ref Pb, .ref Pc, .ref Pd, .int (nI hs), .int (nI np), .int (nI nm), .int (nI nw)])), (Pc, .inl (g.2.1.1, 12, .inl (zf mp)))] := hD
          have hP := hP.sub (ws' := [(T, .inr (0, [.ref Ta, .ref Tb, .ref Tc, .int (nI (mi + 1)), .int (nI (st + (zSm (zMs mp mi) nm + zSm (zTs wc wp dn lf mi (st / hs) si) i))), .int (nI si)])), (Ta, .inl (g.2.1.1, 6, .inl (zf (zNew si i (zDn wc wp dn lf mi (st / hs)) dn)))), (Tb, .inl (g.2.1.1, 6, .inl (zf (zNew si i (zLf wc wp dn lf mi (st / hs)) lf)))), (Tc, .inl (g.2.1.1, 6, .inl (zf (zNew si i (fun q => tk q + zTk wc wp dn lf mi (st / hs) q) tk)))), (P, .inr (1, [.ref Pa, .ref Pb, .ref Pc, .ref Pd, .int (nI hs), .int (nI np), .int (nI nm), .int (nI nw)])), (Pa, .inl (g.2.1.1, 6, .inl (zf wc))), (Pb, .inl (g.2.1.1, 96, .inl (zf wp))), (Pc, .inl (g.2.1.1, 12, .inl (zf mp)))]) [0, 1, 2, 3, 6, 4, 5, 7] rfl
          have hD := hD.sub (ws' := [(T, .inr (0, [.ref Ta, .ref Tb, .ref Tc, .int (nI (mi + 1)), .int (nI (st + (zSm (zMs mp mi) nm + zSm (zTs wc wp dn lf mi (st / hs) si) i))), .int (nI si)])), (Ta, .inl (g.2.1.1, 6, .inl (zf (zNew si i (zDn wc wp dn lf mi (st / hs)) dn)))), (Tb, .inl (g.2.1.1, 6, .inl (zf (zNew si i (zLf wc wp dn lf mi (st / hs)) lf)))), (Tc, .inl (g.2.1.1, 6, .inl (zf (zNew si i (fun q => tk q + zTk wc wp dn lf mi (st / hs) q) tk)))), (P, .inr (1, [.ref Pa, .ref Pb, .ref Pc, .ref Pd, .int (nI hs), .int (nI np), .int (nI nm), .int (nI nw)])), (Pa, .inl (g.2.1.1, 6, .inl (zf wc))), (Pb, .inl (g.2.1.1, 96, .inl (zf wp))), (Pc, .inl (g.2.1.1, 12, .inl (zf mp)))]) [0, 1, 2, 3, 6, 4, 5, 7] (by decide) rfl
          have eq_9 : nI (st + (zSm (zMs mp mi) nm + zSm (zTs wc wp dn lf mi (st / hs) si) i)) = nI (st + (zSm (zMs mp mi) nm + zSm (zTs wc wp dn lf mi (st / hs) si) np)) := by rw [show i = np by omega]
          have hP : va_P g.1 vwCl [(T, .inr (0, [.ref Ta, .ref Tb, .ref Tc, .int (nI (mi + 1)), .int ((nI (st + (zSm (zMs mp mi) nm + zSm (zTs wc wp dn lf mi (st / hs) si) np)))), .int (nI si)])), (Ta, .inl (g.2.1.1, 6, .inl (zf (zNew si i (zDn wc wp dn lf mi (st / hs)) dn)))), (Tb, .inl (g.2.1.1, 6, .inl (zf (zNew si i (zLf wc wp dn lf mi (st / hs)) lf)))), (Tc, .inl (g.2.1.1, 6, .inl (zf (zNew si i (fun q => tk q + zTk wc wp dn lf mi (st / hs) q) tk)))), (P, .inr (1, [.ref Pa, .ref Pb, .ref Pc, .ref Pd, .int (nI hs), .int (nI np), .int (nI nm), .int (nI nw)])), (Pa, .inl (g.2.1.1, 6, .inl (zf wc))), (Pb, .inl (g.2.1.1, 96, .inl (zf wp))), (Pc, .inl (g.2.1.1, 12, .inl (zf mp)))] _ := Eq.mp (congrArg (fun z => va_P g.1 vwCl [(T, .inr (0, [.ref Ta, .ref Tb, .ref Tc, .int (nI (mi + 1)), .int (z), .int (nI si)])), (Ta, .inl (g.2.1.1, 6, .inl (zf (zNew si i (zDn wc wp dn lf mi (st / hs)) dn)))), (Tb, .inl (g.2.1.1, 6, .inl (zf (zNew si i (zLf wc wp dn lf mi (st / hs)) lf)))), (Tc, .inl (g.2.1.1, 6, .inl (zf (zNew si i (fun q => tk q + zTk wc wp dn lf mi (st / hs) q) tk)))), (P, .inr (1, [.ref Pa, .ref Pb, .ref Pc, .ref Pd, .int (nI hs), .int (nI np), .int (nI nm), .int (nI nw)])), (Pa, .inl (g.2.1.1, 6, .inl (zf wc))), (Pb, .inl (g.2.1.1, 96, .inl (zf wp))), (Pc, .inl (g.2.1.1, 12, .inl (zf mp)))] _) eq_9) hP
          have hD : va_D A [(T, .inr (0, [.ref Ta, .ref Tb, .ref Tc, .int (nI (mi + 1)), .int ((nI (st + (zSm (zMs mp mi) nm + zSm (zTs wc wp dn lf mi (st / hs) si) np)))), .int (nI si)])), (Ta, .inl (g.2.1.1, 6, .inl (zf (zNew si i (zDn wc wp dn lf mi (st / hs)) dn)))), (Tb, .inl (g.2.1.1, 6, .inl (zf (zNew si i (zLf wc wp dn lf mi (st / hs)) lf)))), (Tc, .inl (g.2.1.1, 6, .inl (zf (zNew si i (fun q => tk q + zTk wc wp dn lf mi (st / hs) q) tk)))), (P, .inr (1, [.ref Pa, .ref Pb, .ref Pc, .ref Pd, .int (nI hs), .int (nI np), .int (nI nm), .int (nI nw)])), (Pa, .inl (g.2.1.1, 6, .inl (zf wc))), (Pb, .inl (g.2.1.1, 96, .inl (zf wp))), (Pc, .inl (g.2.1.1, 12, .inl (zf mp)))] := Eq.mp (congrArg (fun z => va_D A [(T, .inr (0, [.ref Ta, .ref Tb, .ref Tc, .int (nI (mi + 1)), .int (z), .int (nI si)])), (Ta, .inl (g.2.1.1, 6, .inl (zf (zNew si i (zDn wc wp dn lf mi (st / hs)) dn)))), (Tb, .inl (g.2.1.1, 6, .inl (zf (zNew si i (zLf wc wp dn lf mi (st / hs)) lf)))), (Tc, .inl (g.2.1.1, 6, .inl (zf (zNew si i (fun q => tk q + zTk wc wp dn lf mi (st / hs) q) tk)))), (P, .inr (1, [.ref Pa, .ref Pb, .ref Pc, .ref Pd, .int (nI hs), .int (nI np), .int (nI nm), .int (nI nw)])), (Pa, .inl (g.2.1.1, 6, .inl (zf wc))), (Pb, .inl (g.2.1.1, 96, .inl (zf wp))), (Pc, .inl (g.2.1.1, 12, .inl (zf mp)))]) eq_9) hD
          have eq_10 : (zNew si i (zDn wc wp dn lf mi (st / hs)) dn) = (zNew si np (zDn wc wp dn lf mi (st / hs)) dn) := by rw [show i = np by omega]
          have hP : va_P g.1 vwCl [(T, .inr (0, [.ref Ta, .ref Tb, .ref Tc, .int (nI (mi + 1)), .int (nI (st + (zSm (zMs mp mi) nm + zSm (zTs wc wp dn lf mi (st / hs) si) np))), .int (nI si)])), (Ta, .inl (g.2.1.1, 6, .inl (zf (zNew si np (zDn wc wp dn lf mi (st / hs)) dn)))), (Tb, .inl (g.2.1.1, 6, .inl (zf (zNew si i (zLf wc wp dn lf mi (st / hs)) lf)))), (Tc, .inl (g.2.1.1, 6, .inl (zf (zNew si i (fun q => tk q + zTk wc wp dn lf mi (st / hs) q) tk)))), (P, .inr (1, [.ref Pa, .ref Pb, .ref Pc, .ref Pd, .int (nI hs), .int (nI np), .int (nI nm), .int (nI nw)])), (Pa, .inl (g.2.1.1, 6, .inl (zf wc))), (Pb, .inl (g.2.1.1, 96, .inl (zf wp))), (Pc, .inl (g.2.1.1, 12, .inl (zf mp)))] _ := Eq.mp (congrArg (fun z => va_P g.1 vwCl [(T, .inr (0, [.ref Ta, .ref Tb, .ref Tc, .int (nI (mi + 1)), .int (nI (st + (zSm (zMs mp mi) nm + zSm (zTs wc wp dn lf mi (st / hs) si) np))), .int (nI si)])), (Ta, .inl (g.2.1.1, 6, .inl (zf z))), (Tb, .inl (g.2.1.1, 6, .inl (zf (zNew si i (zLf wc wp dn lf mi (st / hs)) lf)))), (Tc, .inl (g.2.1.1, 6, .inl (zf (zNew si i (fun q => tk q + zTk wc wp dn lf mi (st / hs) q) tk)))), (P, .inr (1, [.ref Pa, .ref Pb, .ref Pc, .ref Pd, .int (nI hs), .int (nI np), .int (nI nm), .int (nI nw)])), (Pa, .inl (g.2.1.1, 6, .inl (zf wc))), (Pb, .inl (g.2.1.1, 96, .inl (zf wp))), (Pc, .inl (g.2.1.1, 12, .inl (zf mp)))] _) eq_10) hP
          have hD : va_D A [(T, .inr (0, [.ref Ta, .ref Tb, .ref Tc, .int (nI (mi + 1)), .int (nI (st + (zSm (zMs mp mi) nm + zSm (zTs wc wp dn lf mi (st / hs) si) np))), .int (nI si)])), (Ta, .inl (g.2.1.1, 6, .inl (zf (zNew si np (zDn wc wp dn lf mi (st / hs)) dn)))), (Tb, .inl (g.2.1.1, 6, .inl (zf (zNew si i (zLf wc wp dn lf mi (st / hs)) lf)))), (Tc, .inl (g.2.1.1, 6, .inl (zf (zNew si i (fun q => tk q + zTk wc wp dn lf mi (st / hs) q) tk)))), (P, .inr (1, [.ref Pa, .ref Pb, .ref Pc, .ref Pd, .int (nI hs), .int (nI np), .int (nI nm), .int (nI nw)])), (Pa, .inl (g.2.1.1, 6, .inl (zf wc))), (Pb, .inl (g.2.1.1, 96, .inl (zf wp))), (Pc, .inl (g.2.1.1, 12, .inl (zf mp)))] := Eq.mp (congrArg (fun z => va_D A [(T, .inr (0, [.ref Ta, .ref Tb, .ref Tc, .int (nI (mi + 1)), .int (nI (st + (zSm (zMs mp mi) nm + zSm (zTs wc wp dn lf mi (st / hs) si) np))), .int (nI si)])), (Ta, .inl (g.2.1.1, 6, .inl (zf z))), (Tb, .inl (g.2.1.1, 6, .inl (zf (zNew si i (zLf wc wp dn lf mi (st / hs)) lf)))), (Tc, .inl (g.2.1.1, 6, .inl (zf (zNew si i (fun q => tk q + zTk wc wp dn lf mi (st / hs) q) tk)))), (P, .inr (1, [.ref Pa, .ref Pb, .ref Pc, .ref Pd, .int (nI hs), .int (nI np), .int (nI nm), .int (nI nw)])), (Pa, .inl (g.2.1.1, 6, .inl (zf wc))), (Pb, .inl (g.2.1.1, 96, .inl (zf wp))), (Pc, .inl (g.2.1.1, 12, .inl (zf mp)))]) eq_10) hD
          have eq_11 : (zNew si i (zLf wc wp dn lf mi (st / hs)) lf) = (zNew si np (zLf wc wp dn lf mi (st / hs)) lf) := by rw [show i = np by omega]
          have hP : va_P g.1 vwCl [(T, .inr (0, [.ref Ta, .ref Tb, .ref Tc, .int (nI (mi + 1)), .int (nI (st + (zSm (zMs mp mi) nm + zSm (zTs wc wp dn lf mi (st / hs) si) np))), .int (nI si)])), (Ta, .inl (g.2.1.1, 6, .inl (zf (zNew si np (zDn wc wp dn lf mi (st / hs)) dn)))), (Tb, .inl (g.2.1.1, 6, .inl (zf (zNew si np (zLf wc wp dn lf mi (st / hs)) lf)))), (Tc, .inl (g.2.1.1, 6, .inl (zf (zNew si i (fun q => tk q + zTk wc wp dn lf mi (st / hs) q) tk)))), (P, .inr (1, [.ref Pa, .ref Pb, .ref Pc, .ref Pd, .int (nI hs), .int (nI np), .int (nI nm), .int (nI nw)])), (Pa, .inl (g.2.1.1, 6, .inl (zf wc))), (Pb, .inl (g.2.1.1, 96, .inl (zf wp))), (Pc, .inl (g.2.1.1, 12, .inl (zf mp)))] _ := Eq.mp (congrArg (fun z => va_P g.1 vwCl [(T, .inr (0, [.ref Ta, .ref Tb, .ref Tc, .int (nI (mi + 1)), .int (nI (st + (zSm (zMs mp mi) nm + zSm (zTs wc wp dn lf mi (st / hs) si) np))), .int (nI si)])), (Ta, .inl (g.2.1.1, 6, .inl (zf (zNew si np (zDn wc wp dn lf mi (st / hs)) dn)))), (Tb, .inl (g.2.1.1, 6, .inl (zf z))), (Tc, .inl (g.2.1.1, 6, .inl (zf (zNew si i (fun q => tk q + zTk wc wp dn lf mi (st / hs) q) tk)))), (P, .inr (1, [.ref Pa, .ref Pb, .ref Pc, .ref Pd, .int (nI hs), .int (nI np), .int (nI nm), .int (nI nw)])), (Pa, .inl (g.2.1.1, 6, .inl (zf wc))), (Pb, .inl (g.2.1.1, 96, .inl (zf wp))), (Pc, .inl (g.2.1.1, 12, .inl (zf mp)))] _) eq_11) hP
          have hD : va_D A [(T, .inr (0, [.ref Ta, .ref Tb, .ref Tc, .int (nI (mi + 1)), .int (nI (st + (zSm (zMs mp mi) nm + zSm (zTs wc wp dn lf mi (st / hs) si) np))), .int (nI si)])), (Ta, .inl (g.2.1.1, 6, .inl (zf (zNew si np (zDn wc wp dn lf mi (st / hs)) dn)))), (Tb, .inl (g.2.1.1, 6, .inl (zf (zNew si np (zLf wc wp dn lf mi (st / hs)) lf)))), (Tc, .inl (g.2.1.1, 6, .inl (zf (zNew si i (fun q => tk q + zTk wc wp dn lf mi (st / hs) q) tk)))), (P, .inr (1, [.ref Pa, .ref Pb, .ref Pc, .ref Pd, .int (nI hs), .int (nI np), .int (nI nm), .int (nI nw)])), (Pa, .inl (g.2.1.1, 6, .inl (zf wc))), (Pb, .inl (g.2.1.1, 96, .inl (zf wp))), (Pc, .inl (g.2.1.1, 12, .inl (zf mp)))] := Eq.mp (congrArg (fun z => va_D A [(T, .inr (0, [.ref Ta, .ref Tb, .ref Tc, .int (nI (mi + 1)), .int (nI (st + (zSm (zMs mp mi) nm + zSm (zTs wc wp dn lf mi (st / hs) si) np))), .int (nI si)])), (Ta, .inl (g.2.1.1, 6, .inl (zf (zNew si np (zDn wc wp dn lf mi (st / hs)) dn)))), (Tb, .inl (g.2.1.1, 6, .inl (zf z))), (Tc, .inl (g.2.1.1, 6, .inl (zf (zNew si i (fun q => tk q + zTk wc wp dn lf mi (st / hs) q) tk)))), (P, .inr (1, [.ref Pa, .ref Pb, .ref Pc, .ref Pd, .int (nI hs), .int (nI np), .int (nI nm), .int (nI nw)])), (Pa, .inl (g.2.1.1, 6, .inl (zf wc))), (Pb, .inl (g.2.1.1, 96, .inl (zf wp))), (Pc, .inl (g.2.1.1, 12, .inl (zf mp)))]) eq_11) hD
          have eq_12 : (zNew si i (fun q => tk q + zTk wc wp dn lf mi (st / hs) q) tk) = (zNew si np (fun q => tk q + zTk wc wp dn lf mi (st / hs) q) tk) := by rw [show i = np by omega]
          have hP : va_P g.1 vwCl [(T, .inr (0, [.ref Ta, .ref Tb, .ref Tc, .int (nI (mi + 1)), .int (nI (st + (zSm (zMs mp mi) nm + zSm (zTs wc wp dn lf mi (st / hs) si) np))), .int (nI si)])), (Ta, .inl (g.2.1.1, 6, .inl (zf (zNew si np (zDn wc wp dn lf mi (st / hs)) dn)))), (Tb, .inl (g.2.1.1, 6, .inl (zf (zNew si np (zLf wc wp dn lf mi (st / hs)) lf)))), (Tc, .inl (g.2.1.1, 6, .inl (zf (zNew si np (fun q => tk q + zTk wc wp dn lf mi (st / hs) q) tk)))), (P, .inr (1, [.ref Pa, .ref Pb, .ref Pc, .ref Pd, .int (nI hs), .int (nI np), .int (nI nm), .int (nI nw)])), (Pa, .inl (g.2.1.1, 6, .inl (zf wc))), (Pb, .inl (g.2.1.1, 96, .inl (zf wp))), (Pc, .inl (g.2.1.1, 12, .inl (zf mp)))] _ := Eq.mp (congrArg (fun z => va_P g.1 vwCl [(T, .inr (0, [.ref Ta, .ref Tb, .ref Tc, .int (nI (mi + 1)), .int (nI (st + (zSm (zMs mp mi) nm + zSm (zTs wc wp dn lf mi (st / hs) si) np))), .int (nI si)])), (Ta, .inl (g.2.1.1, 6, .inl (zf (zNew si np (zDn wc wp dn lf mi (st / hs)) dn)))), (Tb, .inl (g.2.1.1, 6, .inl (zf (zNew si np (zLf wc wp dn lf mi (st / hs)) lf)))), (Tc, .inl (g.2.1.1, 6, .inl (zf z))), (P, .inr (1, [.ref Pa, .ref Pb, .ref Pc, .ref Pd, .int (nI hs), .int (nI np), .int (nI nm), .int (nI nw)])), (Pa, .inl (g.2.1.1, 6, .inl (zf wc))), (Pb, .inl (g.2.1.1, 96, .inl (zf wp))), (Pc, .inl (g.2.1.1, 12, .inl (zf mp)))] _) eq_12) hP
          have hD : va_D A [(T, .inr (0, [.ref Ta, .ref Tb, .ref Tc, .int (nI (mi + 1)), .int (nI (st + (zSm (zMs mp mi) nm + zSm (zTs wc wp dn lf mi (st / hs) si) np))), .int (nI si)])), (Ta, .inl (g.2.1.1, 6, .inl (zf (zNew si np (zDn wc wp dn lf mi (st / hs)) dn)))), (Tb, .inl (g.2.1.1, 6, .inl (zf (zNew si np (zLf wc wp dn lf mi (st / hs)) lf)))), (Tc, .inl (g.2.1.1, 6, .inl (zf (zNew si np (fun q => tk q + zTk wc wp dn lf mi (st / hs) q) tk)))), (P, .inr (1, [.ref Pa, .ref Pb, .ref Pc, .ref Pd, .int (nI hs), .int (nI np), .int (nI nm), .int (nI nw)])), (Pa, .inl (g.2.1.1, 6, .inl (zf wc))), (Pb, .inl (g.2.1.1, 96, .inl (zf wp))), (Pc, .inl (g.2.1.1, 12, .inl (zf mp)))] := Eq.mp (congrArg (fun z => va_D A [(T, .inr (0, [.ref Ta, .ref Tb, .ref Tc, .int (nI (mi + 1)), .int (nI (st + (zSm (zMs mp mi) nm + zSm (zTs wc wp dn lf mi (st / hs) si) np))), .int (nI si)])), (Ta, .inl (g.2.1.1, 6, .inl (zf (zNew si np (zDn wc wp dn lf mi (st / hs)) dn)))), (Tb, .inl (g.2.1.1, 6, .inl (zf (zNew si np (zLf wc wp dn lf mi (st / hs)) lf)))), (Tc, .inl (g.2.1.1, 6, .inl (zf z))), (P, .inr (1, [.ref Pa, .ref Pb, .ref Pc, .ref Pd, .int (nI hs), .int (nI np), .int (nI nm), .int (nI nw)])), (Pa, .inl (g.2.1.1, 6, .inl (zf wc))), (Pb, .inl (g.2.1.1, 96, .inl (zf wp))), (Pc, .inl (g.2.1.1, 12, .inl (zf mp)))]) eq_12) hD
          exact hret 86 _ _ _ () dX0_passMinute_86 hP hD hS (show True from by trivial)
        · refine lv_aload_n hx hb dX0_passMinute_37 rfl (lv_at hl 0 rfl) ?_
          refine va_get (D := g.1) (ci := 0) (v := .int (nI si)) (C := RX0) (T := TX0) (N := 6) hx hb hts hiX0 hown hK.1 hP 0 rfl rfl 5 (by decide) hf2 (fun _ h9 => h9) rfl dX0_passMinute_38 ?_
          refine lv_iload hx hb dX0_passMinute_41 (lv_at hl 4 rfl) ?_
          refine lv_ishr hx hb dX0_passMinute_43 ?_
          refine lv_iconst (v := 1) hx hb dX0_passMinute_44 (by decide) ?_
          refine lv_iand hx hb dX0_passMinute_45 ?_
          have hbl := zbit_lt si i
          refine zz_topi (y := nI (zbit si i)) (zi_bit (by omega) (by omega)) ?_
          refine zz_if_ne (tgt := 60) hx hb dX0_passMinute_46 (by decide) (zi_n (zbit si i)) (by omega) (fun c_13 => ?_) (fun c_13 => ?_)
          · refine lv_iinc (v := nI (i + 1)) (lv' := [(4, .int (nI (i + 1))), (0, .ref T), (1, .ref P), (2, .int (nI (st / hs))), (3, .int (nI (zSm (zMs mp mi) nm + zSm (zTs wc wp dn lf mi (st / hs) si) i)))]) hx hb dX0_passMinute_60 hl (k := 4) rfl (zi_eq (zi_add (zi_n i) (zi_c 1 rfl)) (zi_n (i + 1)) (by omega)) (by decide) rfl (fun ls hl => ?_)
            refine lv_goto (tgt := 21) hx hb dX0_passMinute_63 (by decide) ?_
            have eq_14 : (zNew si i (zDn wc wp dn lf mi (st / hs)) dn) = (zNew si (i + 1) (zDn wc wp dn lf mi (st / hs)) dn) := by first | exact (zNew_t _ _ (by omega)).symm | (rw [zNew_s _ _ (by omega), zDn_cong (zNew_at _ _) (zNew_at _ _)])
            have hP : va_P g.1 vwCl [(T, .inr (0, [.ref Ta, .ref Tb, .ref Tc, .int (nI mi), .int (nI st), .int (nI si)])), (Ta, .inl (g.2.1.1, 6, .inl (zf (zNew si (i + 1) (zDn wc wp dn lf mi (st / hs)) dn)))), (Tb, .inl (g.2.1.1, 6, .inl (zf (zNew si i (zLf wc wp dn lf mi (st / hs)) lf)))), (Tc, .inl (g.2.1.1, 6, .inl (zf (zNew si i (fun q => tk q + zTk wc wp dn lf mi (st / hs) q) tk)))), (Pa, .inl (g.2.1.1, 6, .inl (zf wc))), (Pb, .inl (g.2.1.1, 96, .inl (zf wp))), (P, .inr (1, [.ref Pa, .ref Pb, .ref Pc, .ref Pd, .int (nI hs), .int (nI np), .int (nI nm), .int (nI nw)])), (Pc, .inl (g.2.1.1, 12, .inl (zf mp)))] _ := Eq.mp (congrArg (fun z => va_P g.1 vwCl [(T, .inr (0, [.ref Ta, .ref Tb, .ref Tc, .int (nI mi), .int (nI st), .int (nI si)])), (Ta, .inl (g.2.1.1, 6, .inl (zf z))), (Tb, .inl (g.2.1.1, 6, .inl (zf (zNew si i (zLf wc wp dn lf mi (st / hs)) lf)))), (Tc, .inl (g.2.1.1, 6, .inl (zf (zNew si i (fun q => tk q + zTk wc wp dn lf mi (st / hs) q) tk)))), (Pa, .inl (g.2.1.1, 6, .inl (zf wc))), (Pb, .inl (g.2.1.1, 96, .inl (zf wp))), (P, .inr (1, [.ref Pa, .ref Pb, .ref Pc, .ref Pd, .int (nI hs), .int (nI np), .int (nI nm), .int (nI nw)])), (Pc, .inl (g.2.1.1, 12, .inl (zf mp)))] _) eq_14) hP
            have hD : va_D A [(T, .inr (0, [.ref Ta, .ref Tb, .ref Tc, .int (nI mi), .int (nI st), .int (nI si)])), (Ta, .inl (g.2.1.1, 6, .inl (zf (zNew si (i + 1) (zDn wc wp dn lf mi (st / hs)) dn)))), (Tb, .inl (g.2.1.1, 6, .inl (zf (zNew si i (zLf wc wp dn lf mi (st / hs)) lf)))), (Tc, .inl (g.2.1.1, 6, .inl (zf (zNew si i (fun q => tk q + zTk wc wp dn lf mi (st / hs) q) tk)))), (Pa, .inl (g.2.1.1, 6, .inl (zf wc))), (Pb, .inl (g.2.1.1, 96, .inl (zf wp))), (P, .inr (1, [.ref Pa, .ref Pb, .ref Pc, .ref Pd, .int (nI hs), .int (nI np), .int (nI nm), .int (nI nw)])), (Pc, .inl (g.2.1.1, 12, .inl (zf mp)))] := Eq.mp (congrArg (fun z => va_D A [(T, .inr (0, [.ref Ta, .ref Tb, .ref Tc, .int (nI mi), .int (nI st), .int (nI si)])), (Ta, .inl (g.2.1.1, 6, .inl (zf z))), (Tb, .inl (g.2.1.1, 6, .inl (zf (zNew si i (zLf wc wp dn lf mi (st / hs)) lf)))), (Tc, .inl (g.2.1.1, 6, .inl (zf (zNew si i (fun q => tk q + zTk wc wp dn lf mi (st / hs) q) tk)))), (Pa, .inl (g.2.1.1, 6, .inl (zf wc))), (Pb, .inl (g.2.1.1, 96, .inl (zf wp))), (P, .inr (1, [.ref Pa, .ref Pb, .ref Pc, .ref Pd, .int (nI hs), .int (nI np), .int (nI nm), .int (nI nw)])), (Pc, .inl (g.2.1.1, 12, .inl (zf mp)))]) eq_14) hD
            have eq_15 : (zNew si i (zLf wc wp dn lf mi (st / hs)) lf) = (zNew si (i + 1) (zLf wc wp dn lf mi (st / hs)) lf) := by first | exact (zNew_t _ _ (by omega)).symm | (rw [zNew_s _ _ (by omega), zLf_cong (zNew_at _ _) (zNew_at _ _)])
            have hP : va_P g.1 vwCl [(T, .inr (0, [.ref Ta, .ref Tb, .ref Tc, .int (nI mi), .int (nI st), .int (nI si)])), (Ta, .inl (g.2.1.1, 6, .inl (zf (zNew si (i + 1) (zDn wc wp dn lf mi (st / hs)) dn)))), (Tb, .inl (g.2.1.1, 6, .inl (zf (zNew si (i + 1) (zLf wc wp dn lf mi (st / hs)) lf)))), (Tc, .inl (g.2.1.1, 6, .inl (zf (zNew si i (fun q => tk q + zTk wc wp dn lf mi (st / hs) q) tk)))), (Pa, .inl (g.2.1.1, 6, .inl (zf wc))), (Pb, .inl (g.2.1.1, 96, .inl (zf wp))), (P, .inr (1, [.ref Pa, .ref Pb, .ref Pc, .ref Pd, .int (nI hs), .int (nI np), .int (nI nm), .int (nI nw)])), (Pc, .inl (g.2.1.1, 12, .inl (zf mp)))] _ := Eq.mp (congrArg (fun z => va_P g.1 vwCl [(T, .inr (0, [.ref Ta, .ref Tb, .ref Tc, .int (nI mi), .int (nI st), .int (nI si)])), (Ta, .inl (g.2.1.1, 6, .inl (zf (zNew si (i + 1) (zDn wc wp dn lf mi (st / hs)) dn)))), (Tb, .inl (g.2.1.1, 6, .inl (zf z))), (Tc, .inl (g.2.1.1, 6, .inl (zf (zNew si i (fun q => tk q + zTk wc wp dn lf mi (st / hs) q) tk)))), (Pa, .inl (g.2.1.1, 6, .inl (zf wc))), (Pb, .inl (g.2.1.1, 96, .inl (zf wp))), (P, .inr (1, [.ref Pa, .ref Pb, .ref Pc, .ref Pd, .int (nI hs), .int (nI np), .int (nI nm), .int (nI nw)])), (Pc, .inl (g.2.1.1, 12, .inl (zf mp)))] _) eq_15) hP
            have hD : va_D A [(T, .inr (0, [.ref Ta, .ref Tb, .ref Tc, .int (nI mi), .int (nI st), .int (nI si)])), (Ta, .inl (g.2.1.1, 6, .inl (zf (zNew si (i + 1) (zDn wc wp dn lf mi (st / hs)) dn)))), (Tb, .inl (g.2.1.1, 6, .inl (zf (zNew si (i + 1) (zLf wc wp dn lf mi (st / hs)) lf)))), (Tc, .inl (g.2.1.1, 6, .inl (zf (zNew si i (fun q => tk q + zTk wc wp dn lf mi (st / hs) q) tk)))), (Pa, .inl (g.2.1.1, 6, .inl (zf wc))), (Pb, .inl (g.2.1.1, 96, .inl (zf wp))), (P, .inr (1, [.ref Pa, .ref Pb, .ref Pc, .ref Pd, .int (nI hs), .int (nI np), .int (nI nm), .int (nI nw)])), (Pc, .inl (g.2.1.1, 12, .inl (zf mp)))] := Eq.mp (congrArg (fun z => va_D A [(T, .inr (0, [.ref Ta, .ref Tb, .ref Tc, .int (nI mi), .int (nI st), .int (nI si)])), (Ta, .inl (g.2.1.1, 6, .inl (zf (zNew si (i + 1) (zDn wc wp dn lf mi (st / hs)) dn)))), (Tb, .inl (g.2.1.1, 6, .inl (zf z))), (Tc, .inl (g.2.1.1, 6, .inl (zf (zNew si i (fun q => tk q + zTk wc wp dn lf mi (st / hs) q) tk)))), (Pa, .inl (g.2.1.1, 6, .inl (zf wc))), (Pb, .inl (g.2.1.1, 96, .inl (zf wp))), (P, .inr (1, [.ref Pa, .ref Pb, .ref Pc, .ref Pd, .int (nI hs), .int (nI np), .int (nI nm), .int (nI nw)])), (Pc, .inl (g.2.1.1, 12, .inl (zf mp)))]) eq_15) hD
            have eq_16 : (zNew si i (fun q => tk q + zTk wc wp dn lf mi (st / hs) q) tk) = (zNew si (i + 1) (fun q => tk q + zTk wc wp dn lf mi (st / hs) q) tk) := by first | exact (zNew_t _ _ (by omega)).symm | (rw [zNew_s _ _ (by omega), zTk_cong (zNew_at _ _) (zNew_at _ _), zNew_at])
            have hP : va_P g.1 vwCl [(T, .inr (0, [.ref Ta, .ref Tb, .ref Tc, .int (nI mi), .int (nI st), .int (nI si)])), (Ta, .inl (g.2.1.1, 6, .inl (zf (zNew si (i + 1) (zDn wc wp dn lf mi (st / hs)) dn)))), (Tb, .inl (g.2.1.1, 6, .inl (zf (zNew si (i + 1) (zLf wc wp dn lf mi (st / hs)) lf)))), (Tc, .inl (g.2.1.1, 6, .inl (zf (zNew si (i + 1) (fun q => tk q + zTk wc wp dn lf mi (st / hs) q) tk)))), (Pa, .inl (g.2.1.1, 6, .inl (zf wc))), (Pb, .inl (g.2.1.1, 96, .inl (zf wp))), (P, .inr (1, [.ref Pa, .ref Pb, .ref Pc, .ref Pd, .int (nI hs), .int (nI np), .int (nI nm), .int (nI nw)])), (Pc, .inl (g.2.1.1, 12, .inl (zf mp)))] _ := Eq.mp (congrArg (fun z => va_P g.1 vwCl [(T, .inr (0, [.ref Ta, .ref Tb, .ref Tc, .int (nI mi), .int (nI st), .int (nI si)])), (Ta, .inl (g.2.1.1, 6, .inl (zf (zNew si (i + 1) (zDn wc wp dn lf mi (st / hs)) dn)))), (Tb, .inl (g.2.1.1, 6, .inl (zf (zNew si (i + 1) (zLf wc wp dn lf mi (st / hs)) lf)))), (Tc, .inl (g.2.1.1, 6, .inl (zf z))), (Pa, .inl (g.2.1.1, 6, .inl (zf wc))), (Pb, .inl (g.2.1.1, 96, .inl (zf wp))), (P, .inr (1, [.ref Pa, .ref Pb, .ref Pc, .ref Pd, .int (nI hs), .int (nI np), .int (nI nm), .int (nI nw)])), (Pc, .inl (g.2.1.1, 12, .inl (zf mp)))] _) eq_16) hP
            have hD : va_D A [(T, .inr (0, [.ref Ta, .ref Tb, .ref Tc, .int (nI mi), .int (nI st), .int (nI si)])), (Ta, .inl (g.2.1.1, 6, .inl (zf (zNew si (i + 1) (zDn wc wp dn lf mi (st / hs)) dn)))), (Tb, .inl (g.2.1.1, 6, .inl (zf (zNew si (i + 1) (zLf wc wp dn lf mi (st / hs)) lf)))), (Tc, .inl (g.2.1.1, 6, .inl (zf (zNew si (i + 1) (fun q => tk q + zTk wc wp dn lf mi (st / hs) q) tk)))), (Pa, .inl (g.2.1.1, 6, .inl (zf wc))), (Pb, .inl (g.2.1.1, 96, .inl (zf wp))), (P, .inr (1, [.ref Pa, .ref Pb, .ref Pc, .ref Pd, .int (nI hs), .int (nI np), .int (nI nm), .int (nI nw)])), (Pc, .inl (g.2.1.1, 12, .inl (zf mp)))] := Eq.mp (congrArg (fun z => va_D A [(T, .inr (0, [.ref Ta, .ref Tb, .ref Tc, .int (nI mi), .int (nI st), .int (nI si)])), (Ta, .inl (g.2.1.1, 6, .inl (zf (zNew si (i + 1) (zDn wc wp dn lf mi (st / hs)) dn)))), (Tb, .inl (g.2.1.1, 6, .inl (zf (zNew si (i + 1) (zLf wc wp dn lf mi (st / hs)) lf)))), (Tc, .inl (g.2.1.1, 6, .inl (zf z))), (Pa, .inl (g.2.1.1, 6, .inl (zf wc))), (Pb, .inl (g.2.1.1, 96, .inl (zf wp))), (P, .inr (1, [.ref Pa, .ref Pb, .ref Pc, .ref Pd, .int (nI hs), .int (nI np), .int (nI nm), .int (nI nw)])), (Pc, .inl (g.2.1.1, 12, .inl (zf mp)))]) eq_16) hD
            have eq_17 : nI (zSm (zMs mp mi) nm + zSm (zTs wc wp dn lf mi (st / hs) si) i) = nI (zSm (zMs mp mi) nm + zSm (zTs wc wp dn lf mi (st / hs) si) (i + 1)) := by first | (rw [zSm, zTs, if_neg (by omega), Nat.add_zero]) | (rw [zSm, zTs, if_pos (by omega), Nat.add_assoc])
            have hl : lv_has ls 5 [(4, .int (nI (i + 1))), (0, .ref T), (1, .ref P), (2, .int (nI (st / hs))), (3, .int (nI (zSm (zMs mp mi) nm + zSm (zTs wc wp dn lf mi (st / hs) si) (i + 1))))] := Eq.mp (congrArg (fun z => lv_has ls 5 [(4, .int (nI (i + 1))), (0, .ref T), (1, .ref P), (2, .int (nI (st / hs))), (3, .int (z))]) eq_17) hl
            exact ih21 (i + 1) _ _ _ (show (i + 1) ≤ np from by omega) (by omega) hP hD hS (lv_sub hl [1, 2, 3, 4, 0] rfl)
          · refine lv_iload_n hx hb dX0_passMinute_49 rfl (lv_at hl 3 rfl) ?_
            refine lv_aload_n hx hb dX0_passMinute_50 rfl (lv_at hl 0 rfl) ?_
            refine lv_aload_n hx hb dX0_passMinute_51 rfl (lv_at hl 1 rfl) ?_
            refine lv_iload hx hb dX0_passMinute_52 (lv_at hl 4 rfl) ?_
            refine lv_iload_n hx hb dX0_passMinute_54 rfl (lv_at hl 2 rfl) ?_
            refine zz_callI (wr := [(Pc, .inl (g.2.1.1, 12, .inl (zf mp)))]) (wc := [(T, .inr (0, [.ref Ta, .ref Tb, .ref Tc, .int (nI mi), .int (nI st), .int (nI si)])), (Ta, .inl (g.2.1.1, 6, .inl (zf (zNew si i (zDn wc wp dn lf mi (st / hs)) dn)))), (Tb, .inl (g.2.1.1, 6, .inl (zf (zNew si i (zLf wc wp dn lf mi (st / hs)) lf)))), (Tc, .inl (g.2.1.1, 6, .inl (zf (zNew si i (fun q => tk q + zTk wc wp dn lf mi (st / hs) q) tk)))), (P, .inr (1, [.ref Pa, .ref Pb, .ref Pc, .ref Pd, .int (nI hs), .int (nI np), .int (nI nm), .int (nI nw)])), (Pa, .inl (g.2.1.1, 6, .inl (zf wc))), (Pb, .inl (g.2.1.1, 96, .inl (zf wp)))]) (As := [.ref P, .int (nI i), .int (nI (st / hs))]) (rest := [.int (nI (zSm (zMs mp mi) nm + zSm (zTs wc wp dn lf mi (st / hs) si) i))]) F hK hE hA hP hD hS (c_X0_walk l g (T := T) (Ta := Ta) (Tb := Tb) (Tc := Tc) (mi := mi) (st := st) (si := si) (dn := (zNew si i (zDn wc wp dn lf mi (st / hs)) dn)) (lf := (zNew si i (zLf wc wp dn lf mi (st / hs)) lf)) (tk := (zNew si i (fun q => tk q + zTk wc wp dn lf mi (st / hs) q) tk)) (P := P) (Pa := Pa) (Pb := Pb) (Pc := Pc) (Pd := Pd) (hs := hs) (np := np) (nm := nm) (nw := nw) (wc := wc) (wp := wp) (p := i) (hr := (st / hs)) (hnp := by first | assumption | omega) (hwc := by exact hwc) (hwp := by exact hwp) (hp := by omega) (hd := by (rw [zNew_at]; exact hd i)) (hlf0 := by (rw [zNew_at, zNew_at]; exact hlf0 i)) (hlf := by (rw [zNew_at]; exact hlf i)) (htk := by (rw [zNew_at]; exact htk i)) (hmi := by first | assumption | omega) (hhr := by first | assumption | omega)) (cwV 3 hts gX0_passMinute_X0_walk rfl rfl rfl (by decide +kernel) ⟨Nat.le_of_ble_eq_true rfl, Nat.le_of_ble_eq_true rfl⟩) [0, 1, 2, 3, 6, 4, 5] [7] rfl rfl (by decide) (by decide) (by decide) 0 0 rfl rfl rfl rfl rfl hl.1 (Nat.le_of_ble_eq_true rfl) dX0_passMinute_55 ⟨Nat.le_of_ble_eq_true rfl, Nat.le_of_ble_eq_true rfl⟩ (fun r_18 u_18 H locs hw hP hD hS => ?_)
            have hP : va_P g.1 vwCl [(Pc, .inl (g.2.1.1, 12, .inl (zf mp))), (T, .inr (0, [.ref Ta, .ref Tb, .ref Tc, .int (nI mi), .int (nI st), .int (nI si)])), (Ta, .inl (g.2.1.1, 6, .inl (zf (zu (zNew si i (zDn wc wp dn lf mi (st / hs)) dn) i (zDn wc wp (zNew si i (zDn wc wp dn lf mi (st / hs)) dn) (zNew si i (zLf wc wp dn lf mi (st / hs)) lf) mi (st / hs) i))))), (Tb, .inl (g.2.1.1, 6, .inl (zf (zu (zNew si i (zLf wc wp dn lf mi (st / hs)) lf) i (zLf wc wp (zNew si i (zDn wc wp dn lf mi (st / hs)) dn) (zNew si i (zLf wc wp dn lf mi (st / hs)) lf) mi (st / hs) i))))), (Tc, .inl (g.2.1.1, 6, .inl (zf (zu (zNew si i (fun q => tk q + zTk wc wp dn lf mi (st / hs) q) tk) i ((zNew si i (fun q => tk q + zTk wc wp dn lf mi (st / hs) q) tk) i + zTk wc wp (zNew si i (zDn wc wp dn lf mi (st / hs)) dn) (zNew si i (zLf wc wp dn lf mi (st / hs)) lf) mi (st / hs) i))))), (P, .inr (1, [.ref Pa, .ref Pb, .ref Pc, .ref Pd, .int (nI hs), .int (nI np), .int (nI nm), .int (nI nw)])), (Pa, .inl (g.2.1.1, 6, .inl (zf wc))), (Pb, .inl (g.2.1.1, 96, .inl (zf wp)))] _ := hP
            have hD : va_D A [(Pc, .inl (g.2.1.1, 12, .inl (zf mp))), (T, .inr (0, [.ref Ta, .ref Tb, .ref Tc, .int (nI mi), .int (nI st), .int (nI si)])), (Ta, .inl (g.2.1.1, 6, .inl (zf (zu (zNew si i (zDn wc wp dn lf mi (st / hs)) dn) i (zDn wc wp (zNew si i (zDn wc wp dn lf mi (st / hs)) dn) (zNew si i (zLf wc wp dn lf mi (st / hs)) lf) mi (st / hs) i))))), (Tb, .inl (g.2.1.1, 6, .inl (zf (zu (zNew si i (zLf wc wp dn lf mi (st / hs)) lf) i (zLf wc wp (zNew si i (zDn wc wp dn lf mi (st / hs)) dn) (zNew si i (zLf wc wp dn lf mi (st / hs)) lf) mi (st / hs) i))))), (Tc, .inl (g.2.1.1, 6, .inl (zf (zu (zNew si i (fun q => tk q + zTk wc wp dn lf mi (st / hs) q) tk) i ((zNew si i (fun q => tk q + zTk wc wp dn lf mi (st / hs) q) tk) i + zTk wc wp (zNew si i (zDn wc wp dn lf mi (st / hs)) dn) (zNew si i (zLf wc wp dn lf mi (st / hs)) lf) mi (st / hs) i))))), (P, .inr (1, [.ref Pa, .ref Pb, .ref Pc, .ref Pd, .int (nI hs), .int (nI np), .int (nI nm), .int (nI nw)])), (Pa, .inl (g.2.1.1, 6, .inl (zf wc))), (Pb, .inl (g.2.1.1, 96, .inl (zf wp)))] := hD
            have hr_18 := hw
            have hr_18 : r_18 = nI (zTk wc wp (zNew si i (zDn wc wp dn lf mi (st / hs)) dn) (zNew si i (zLf wc wp dn lf mi (st / hs)) lf) mi (st / hs) i) := hr_18
            subst hr_18
            have e9 := zTk_cong (wc := wc) (wp := wp) (mi := mi) (hr := (st / hs)) (p := i) (zNew_at (si := si) (zDn wc wp dn lf mi (st / hs)) dn) (zNew_at (si := si) (zLf wc wp dn lf mi (st / hs)) lf)
            have e8 := zTk_le2 wc wp dn lf mi (st / hs) i
            have e7 := hwp (16 * i + 4 * dn i + 3)
            rw [e9]
            refine lv_iadd hx hb dX0_passMinute_58 ?_
            refine zz_topi (y := nI ((zSm (zMs mp mi) nm + zSm (zTs wc wp dn lf mi (st / hs) si) i) + (zTk wc wp dn lf mi (st / hs) i))) (zi_eq (zi_add (zi_n (zSm (zMs mp mi) nm + zSm (zTs wc wp dn lf mi (st / hs) si) i)) (zi_n (zTk wc wp dn lf mi (st / hs) i))) (zi_n ((zSm (zMs mp mi) nm + zSm (zTs wc wp dn lf mi (st / hs) si) i) + (zTk wc wp dn lf mi (st / hs) i))) (by omega)) ?_
            refine lv_istore_n (lv' := [(3, .int (nI ((zSm (zMs mp mi) nm + zSm (zTs wc wp dn lf mi (st / hs) si) i) + (zTk wc wp dn lf mi (st / hs) i)))), (0, .ref T), (1, .ref P), (2, .int (nI (st / hs))), (4, .int (nI i))]) hx hb dX0_passMinute_59 rfl hl (by decide) rfl (fun ls hl => ?_)
            refine lv_iinc (v := nI (i + 1)) (lv' := [(4, .int (nI (i + 1))), (3, .int (nI ((zSm (zMs mp mi) nm + zSm (zTs wc wp dn lf mi (st / hs) si) i) + (zTk wc wp dn lf mi (st / hs) i)))), (0, .ref T), (1, .ref P), (2, .int (nI (st / hs)))]) hx hb dX0_passMinute_60 hl (k := 4) rfl (zi_eq (zi_add (zi_n i) (zi_c 1 rfl)) (zi_n (i + 1)) (by omega)) (by decide) rfl (fun ls hl => ?_)
            refine lv_goto (tgt := 21) hx hb dX0_passMinute_63 (by decide) ?_
            have hP := hP.sub (ws' := [(T, .inr (0, [.ref Ta, .ref Tb, .ref Tc, .int (nI mi), .int (nI st), .int (nI si)])), (Ta, .inl (g.2.1.1, 6, .inl (zf (zu (zNew si i (zDn wc wp dn lf mi (st / hs)) dn) i (zDn wc wp (zNew si i (zDn wc wp dn lf mi (st / hs)) dn) (zNew si i (zLf wc wp dn lf mi (st / hs)) lf) mi (st / hs) i))))), (Tb, .inl (g.2.1.1, 6, .inl (zf (zu (zNew si i (zLf wc wp dn lf mi (st / hs)) lf) i (zLf wc wp (zNew si i (zDn wc wp dn lf mi (st / hs)) dn) (zNew si i (zLf wc wp dn lf mi (st / hs)) lf) mi (st / hs) i))))), (Tc, .inl (g.2.1.1, 6, .inl (zf (zu (zNew si i (fun q => tk q + zTk wc wp dn lf mi (st / hs) q) tk) i ((zNew si i (fun q => tk q + zTk wc wp dn lf mi (st / hs) q) tk) i + zTk wc wp (zNew si i (zDn wc wp dn lf mi (st / hs)) dn) (zNew si i (zLf wc wp dn lf mi (st / hs)) lf) mi (st / hs) i))))), (Pa, .inl (g.2.1.1, 6, .inl (zf wc))), (Pb, .inl (g.2.1.1, 96, .inl (zf wp))), (P, .inr (1, [.ref Pa, .ref Pb, .ref Pc, .ref Pd, .int (nI hs), .int (nI np), .int (nI nm), .int (nI nw)])), (Pc, .inl (g.2.1.1, 12, .inl (zf mp)))]) [1, 2, 3, 4, 6, 7, 5, 0] rfl
            have hD := hD.sub (ws' := [(T, .inr (0, [.ref Ta, .ref Tb, .ref Tc, .int (nI mi), .int (nI st), .int (nI si)])), (Ta, .inl (g.2.1.1, 6, .inl (zf (zu (zNew si i (zDn wc wp dn lf mi (st / hs)) dn) i (zDn wc wp (zNew si i (zDn wc wp dn lf mi (st / hs)) dn) (zNew si i (zLf wc wp dn lf mi (st / hs)) lf) mi (st / hs) i))))), (Tb, .inl (g.2.1.1, 6, .inl (zf (zu (zNew si i (zLf wc wp dn lf mi (st / hs)) lf) i (zLf wc wp (zNew si i (zDn wc wp dn lf mi (st / hs)) dn) (zNew si i (zLf wc wp dn lf mi (st / hs)) lf) mi (st / hs) i))))), (Tc, .inl (g.2.1.1, 6, .inl (zf (zu (zNew si i (fun q => tk q + zTk wc wp dn lf mi (st / hs) q) tk) i ((zNew si i (fun q => tk q + zTk wc wp dn lf mi (st / hs) q) tk) i + zTk wc wp (zNew si i (zDn wc wp dn lf mi (st / hs)) dn) (zNew si i (zLf wc wp dn lf mi (st / hs)) lf) mi (st / hs) i))))), (Pa, .inl (g.2.1.1, 6, .inl (zf wc))), (Pb, .inl (g.2.1.1, 96, .inl (zf wp))), (P, .inr (1, [.ref Pa, .ref Pb, .ref Pc, .ref Pd, .int (nI hs), .int (nI np), .int (nI nm), .int (nI nw)])), (Pc, .inl (g.2.1.1, 12, .inl (zf mp)))]) [1, 2, 3, 4, 6, 7, 5, 0] (by decide) rfl
            have eq_19 : (zu (zNew si i (zDn wc wp dn lf mi (st / hs)) dn) i (zDn wc wp (zNew si i (zDn wc wp dn lf mi (st / hs)) dn) (zNew si i (zLf wc wp dn lf mi (st / hs)) lf) mi (st / hs) i)) = (zNew si (i + 1) (zDn wc wp dn lf mi (st / hs)) dn) := by first | exact (zNew_t _ _ (by omega)).symm | (rw [zNew_s _ _ (by omega), zDn_cong (zNew_at _ _) (zNew_at _ _)])
            have hP : va_P g.1 vwCl [(T, .inr (0, [.ref Ta, .ref Tb, .ref Tc, .int (nI mi), .int (nI st), .int (nI si)])), (Ta, .inl (g.2.1.1, 6, .inl (zf (zNew si (i + 1) (zDn wc wp dn lf mi (st / hs)) dn)))), (Tb, .inl (g.2.1.1, 6, .inl (zf (zu (zNew si i (zLf wc wp dn lf mi (st / hs)) lf) i (zLf wc wp (zNew si i (zDn wc wp dn lf mi (st / hs)) dn) (zNew si i (zLf wc wp dn lf mi (st / hs)) lf) mi (st / hs) i))))), (Tc, .inl (g.2.1.1, 6, .inl (zf (zu (zNew si i (fun q => tk q + zTk wc wp dn lf mi (st / hs) q) tk) i ((zNew si i (fun q => tk q + zTk wc wp dn lf mi (st / hs) q) tk) i + zTk wc wp (zNew si i (zDn wc wp dn lf mi (st / hs)) dn) (zNew si i (zLf wc wp dn lf mi (st / hs)) lf) mi (st / hs) i))))), (Pa, .inl (g.2.1.1, 6, .inl (zf wc))), (Pb, .inl (g.2.1.1, 96, .inl (zf wp))), (P, .inr (1, [.ref Pa, .ref Pb, .ref Pc, .ref Pd, .int (nI hs), .int (nI np), .int (nI nm), .int (nI nw)])), (Pc, .inl (g.2.1.1, 12, .inl (zf mp)))] _ := Eq.mp (congrArg (fun z => va_P g.1 vwCl [(T, .inr (0, [.ref Ta, .ref Tb, .ref Tc, .int (nI mi), .int (nI st), .int (nI si)])), (Ta, .inl (g.2.1.1, 6, .inl (zf z))), (Tb, .inl (g.2.1.1, 6, .inl (zf (zu (zNew si i (zLf wc wp dn lf mi (st / hs)) lf) i (zLf wc wp (zNew si i (zDn wc wp dn lf mi (st / hs)) dn) (zNew si i (zLf wc wp dn lf mi (st / hs)) lf) mi (st / hs) i))))), (Tc, .inl (g.2.1.1, 6, .inl (zf (zu (zNew si i (fun q => tk q + zTk wc wp dn lf mi (st / hs) q) tk) i ((zNew si i (fun q => tk q + zTk wc wp dn lf mi (st / hs) q) tk) i + zTk wc wp (zNew si i (zDn wc wp dn lf mi (st / hs)) dn) (zNew si i (zLf wc wp dn lf mi (st / hs)) lf) mi (st / hs) i))))), (Pa, .inl (g.2.1.1, 6, .inl (zf wc))), (Pb, .inl (g.2.1.1, 96, .inl (zf wp))), (P, .inr (1, [.ref Pa, .ref Pb, .ref Pc, .ref Pd, .int (nI hs), .int (nI np), .int (nI nm), .int (nI nw)])), (Pc, .inl (g.2.1.1, 12, .inl (zf mp)))] _) eq_19) hP
            have hD : va_D A [(T, .inr (0, [.ref Ta, .ref Tb, .ref Tc, .int (nI mi), .int (nI st), .int (nI si)])), (Ta, .inl (g.2.1.1, 6, .inl (zf (zNew si (i + 1) (zDn wc wp dn lf mi (st / hs)) dn)))), (Tb, .inl (g.2.1.1, 6, .inl (zf (zu (zNew si i (zLf wc wp dn lf mi (st / hs)) lf) i (zLf wc wp (zNew si i (zDn wc wp dn lf mi (st / hs)) dn) (zNew si i (zLf wc wp dn lf mi (st / hs)) lf) mi (st / hs) i))))), (Tc, .inl (g.2.1.1, 6, .inl (zf (zu (zNew si i (fun q => tk q + zTk wc wp dn lf mi (st / hs) q) tk) i ((zNew si i (fun q => tk q + zTk wc wp dn lf mi (st / hs) q) tk) i + zTk wc wp (zNew si i (zDn wc wp dn lf mi (st / hs)) dn) (zNew si i (zLf wc wp dn lf mi (st / hs)) lf) mi (st / hs) i))))), (Pa, .inl (g.2.1.1, 6, .inl (zf wc))), (Pb, .inl (g.2.1.1, 96, .inl (zf wp))), (P, .inr (1, [.ref Pa, .ref Pb, .ref Pc, .ref Pd, .int (nI hs), .int (nI np), .int (nI nm), .int (nI nw)])), (Pc, .inl (g.2.1.1, 12, .inl (zf mp)))] := Eq.mp (congrArg (fun z => va_D A [(T, .inr (0, [.ref Ta, .ref Tb, .ref Tc, .int (nI mi), .int (nI st), .int (nI si)])), (Ta, .inl (g.2.1.1, 6, .inl (zf z))), (Tb, .inl (g.2.1.1, 6, .inl (zf (zu (zNew si i (zLf wc wp dn lf mi (st / hs)) lf) i (zLf wc wp (zNew si i (zDn wc wp dn lf mi (st / hs)) dn) (zNew si i (zLf wc wp dn lf mi (st / hs)) lf) mi (st / hs) i))))), (Tc, .inl (g.2.1.1, 6, .inl (zf (zu (zNew si i (fun q => tk q + zTk wc wp dn lf mi (st / hs) q) tk) i ((zNew si i (fun q => tk q + zTk wc wp dn lf mi (st / hs) q) tk) i + zTk wc wp (zNew si i (zDn wc wp dn lf mi (st / hs)) dn) (zNew si i (zLf wc wp dn lf mi (st / hs)) lf) mi (st / hs) i))))), (Pa, .inl (g.2.1.1, 6, .inl (zf wc))), (Pb, .inl (g.2.1.1, 96, .inl (zf wp))), (P, .inr (1, [.ref Pa, .ref Pb, .ref Pc, .ref Pd, .int (nI hs), .int (nI np), .int (nI nm), .int (nI nw)])), (Pc, .inl (g.2.1.1, 12, .inl (zf mp)))]) eq_19) hD
            have eq_20 : (zu (zNew si i (zLf wc wp dn lf mi (st / hs)) lf) i (zLf wc wp (zNew si i (zDn wc wp dn lf mi (st / hs)) dn) (zNew si i (zLf wc wp dn lf mi (st / hs)) lf) mi (st / hs) i)) = (zNew si (i + 1) (zLf wc wp dn lf mi (st / hs)) lf) := by first | exact (zNew_t _ _ (by omega)).symm | (rw [zNew_s _ _ (by omega), zLf_cong (zNew_at _ _) (zNew_at _ _)])
            have hP : va_P g.1 vwCl [(T, .inr (0, [.ref Ta, .ref Tb, .ref Tc, .int (nI mi), .int (nI st), .int (nI si)])), (Ta, .inl (g.2.1.1, 6, .inl (zf (zNew si (i + 1) (zDn wc wp dn lf mi (st / hs)) dn)))), (Tb, .inl (g.2.1.1, 6, .inl (zf (zNew si (i + 1) (zLf wc wp dn lf mi (st / hs)) lf)))), (Tc, .inl (g.2.1.1, 6, .inl (zf (zu (zNew si i (fun q => tk q + zTk wc wp dn lf mi (st / hs) q) tk) i ((zNew si i (fun q => tk q + zTk wc wp dn lf mi (st / hs) q) tk) i + zTk wc wp (zNew si i (zDn wc wp dn lf mi (st / hs)) dn) (zNew si i (zLf wc wp dn lf mi (st / hs)) lf) mi (st / hs) i))))), (Pa, .inl (g.2.1.1, 6, .inl (zf wc))), (Pb, .inl (g.2.1.1, 96, .inl (zf wp))), (P, .inr (1, [.ref Pa, .ref Pb, .ref Pc, .ref Pd, .int (nI hs), .int (nI np), .int (nI nm), .int (nI nw)])), (Pc, .inl (g.2.1.1, 12, .inl (zf mp)))] _ := Eq.mp (congrArg (fun z => va_P g.1 vwCl [(T, .inr (0, [.ref Ta, .ref Tb, .ref Tc, .int (nI mi), .int (nI st), .int (nI si)])), (Ta, .inl (g.2.1.1, 6, .inl (zf (zNew si (i + 1) (zDn wc wp dn lf mi (st / hs)) dn)))), (Tb, .inl (g.2.1.1, 6, .inl (zf z))), (Tc, .inl (g.2.1.1, 6, .inl (zf (zu (zNew si i (fun q => tk q + zTk wc wp dn lf mi (st / hs) q) tk) i ((zNew si i (fun q => tk q + zTk wc wp dn lf mi (st / hs) q) tk) i + zTk wc wp (zNew si i (zDn wc wp dn lf mi (st / hs)) dn) (zNew si i (zLf wc wp dn lf mi (st / hs)) lf) mi (st / hs) i))))), (Pa, .inl (g.2.1.1, 6, .inl (zf wc))), (Pb, .inl (g.2.1.1, 96, .inl (zf wp))), (P, .inr (1, [.ref Pa, .ref Pb, .ref Pc, .ref Pd, .int (nI hs), .int (nI np), .int (nI nm), .int (nI nw)])), (Pc, .inl (g.2.1.1, 12, .inl (zf mp)))] _) eq_20) hP
            have hD : va_D A [(T, .inr (0, [.ref Ta, .ref Tb, .ref Tc, .int (nI mi), .int (nI st), .int (nI si)])), (Ta, .inl (g.2.1.1, 6, .inl (zf (zNew si (i + 1) (zDn wc wp dn lf mi (st / hs)) dn)))), (Tb, .inl (g.2.1.1, 6, .inl (zf (zNew si (i + 1) (zLf wc wp dn lf mi (st / hs)) lf)))), (Tc, .inl (g.2.1.1, 6, .inl (zf (zu (zNew si i (fun q => tk q + zTk wc wp dn lf mi (st / hs) q) tk) i ((zNew si i (fun q => tk q + zTk wc wp dn lf mi (st / hs) q) tk) i + zTk wc wp (zNew si i (zDn wc wp dn lf mi (st / hs)) dn) (zNew si i (zLf wc wp dn lf mi (st / hs)) lf) mi (st / hs) i))))), (Pa, .inl (g.2.1.1, 6, .inl (zf wc))), (Pb, .inl (g.2.1.1, 96, .inl (zf wp))), (P, .inr (1, [.ref Pa, .ref Pb, .ref Pc, .ref Pd, .int (nI hs), .int (nI np), .int (nI nm), .int (nI nw)])), (Pc, .inl (g.2.1.1, 12, .inl (zf mp)))] := Eq.mp (congrArg (fun z => va_D A [(T, .inr (0, [.ref Ta, .ref Tb, .ref Tc, .int (nI mi), .int (nI st), .int (nI si)])), (Ta, .inl (g.2.1.1, 6, .inl (zf (zNew si (i + 1) (zDn wc wp dn lf mi (st / hs)) dn)))), (Tb, .inl (g.2.1.1, 6, .inl (zf z))), (Tc, .inl (g.2.1.1, 6, .inl (zf (zu (zNew si i (fun q => tk q + zTk wc wp dn lf mi (st / hs) q) tk) i ((zNew si i (fun q => tk q + zTk wc wp dn lf mi (st / hs) q) tk) i + zTk wc wp (zNew si i (zDn wc wp dn lf mi (st / hs)) dn) (zNew si i (zLf wc wp dn lf mi (st / hs)) lf) mi (st / hs) i))))), (Pa, .inl (g.2.1.1, 6, .inl (zf wc))), (Pb, .inl (g.2.1.1, 96, .inl (zf wp))), (P, .inr (1, [.ref Pa, .ref Pb, .ref Pc, .ref Pd, .int (nI hs), .int (nI np), .int (nI nm), .int (nI nw)])), (Pc, .inl (g.2.1.1, 12, .inl (zf mp)))]) eq_20) hD
            have eq_21 : (zu (zNew si i (fun q => tk q + zTk wc wp dn lf mi (st / hs) q) tk) i ((zNew si i (fun q => tk q + zTk wc wp dn lf mi (st / hs) q) tk) i + zTk wc wp (zNew si i (zDn wc wp dn lf mi (st / hs)) dn) (zNew si i (zLf wc wp dn lf mi (st / hs)) lf) mi (st / hs) i)) = (zNew si (i + 1) (fun q => tk q + zTk wc wp dn lf mi (st / hs) q) tk) := by first | exact (zNew_t _ _ (by omega)).symm | (rw [zNew_s _ _ (by omega), zTk_cong (zNew_at _ _) (zNew_at _ _), zNew_at])
            have hP : va_P g.1 vwCl [(T, .inr (0, [.ref Ta, .ref Tb, .ref Tc, .int (nI mi), .int (nI st), .int (nI si)])), (Ta, .inl (g.2.1.1, 6, .inl (zf (zNew si (i + 1) (zDn wc wp dn lf mi (st / hs)) dn)))), (Tb, .inl (g.2.1.1, 6, .inl (zf (zNew si (i + 1) (zLf wc wp dn lf mi (st / hs)) lf)))), (Tc, .inl (g.2.1.1, 6, .inl (zf (zNew si (i + 1) (fun q => tk q + zTk wc wp dn lf mi (st / hs) q) tk)))), (Pa, .inl (g.2.1.1, 6, .inl (zf wc))), (Pb, .inl (g.2.1.1, 96, .inl (zf wp))), (P, .inr (1, [.ref Pa, .ref Pb, .ref Pc, .ref Pd, .int (nI hs), .int (nI np), .int (nI nm), .int (nI nw)])), (Pc, .inl (g.2.1.1, 12, .inl (zf mp)))] _ := Eq.mp (congrArg (fun z => va_P g.1 vwCl [(T, .inr (0, [.ref Ta, .ref Tb, .ref Tc, .int (nI mi), .int (nI st), .int (nI si)])), (Ta, .inl (g.2.1.1, 6, .inl (zf (zNew si (i + 1) (zDn wc wp dn lf mi (st / hs)) dn)))), (Tb, .inl (g.2.1.1, 6, .inl (zf (zNew si (i + 1) (zLf wc wp dn lf mi (st / hs)) lf)))), (Tc, .inl (g.2.1.1, 6, .inl (zf z))), (Pa, .inl (g.2.1.1, 6, .inl (zf wc))), (Pb, .inl (g.2.1.1, 96, .inl (zf wp))), (P, .inr (1, [.ref Pa, .ref Pb, .ref Pc, .ref Pd, .int (nI hs), .int (nI np), .int (nI nm), .int (nI nw)])), (Pc, .inl (g.2.1.1, 12, .inl (zf mp)))] _) eq_21) hP
            have hD : va_D A [(T, .inr (0, [.ref Ta, .ref Tb, .ref Tc, .int (nI mi), .int (nI st), .int (nI si)])), (Ta, .inl (g.2.1.1, 6, .inl (zf (zNew si (i + 1) (zDn wc wp dn lf mi (st / hs)) dn)))), (Tb, .inl (g.2.1.1, 6, .inl (zf (zNew si (i + 1) (zLf wc wp dn lf mi (st / hs)) lf)))), (Tc, .inl (g.2.1.1, 6, .inl (zf (zNew si (i + 1) (fun q => tk q + zTk wc wp dn lf mi (st / hs) q) tk)))), (Pa, .inl (g.2.1.1, 6, .inl (zf wc))), (Pb, .inl (g.2.1.1, 96, .inl (zf wp))), (P, .inr (1, [.ref Pa, .ref Pb, .ref Pc, .ref Pd, .int (nI hs), .int (nI np), .int (nI nm), .int (nI nw)])), (Pc, .inl (g.2.1.1, 12, .inl (zf mp)))] := Eq.mp (congrArg (fun z => va_D A [(T, .inr (0, [.ref Ta, .ref Tb, .ref Tc, .int (nI mi), .int (nI st), .int (nI si)])), (Ta, .inl (g.2.1.1, 6, .inl (zf (zNew si (i + 1) (zDn wc wp dn lf mi (st / hs)) dn)))), (Tb, .inl (g.2.1.1, 6, .inl (zf (zNew si (i + 1) (zLf wc wp dn lf mi (st / hs)) lf)))), (Tc, .inl (g.2.1.1, 6, .inl (zf z))), (Pa, .inl (g.2.1.1, 6, .inl (zf wc))), (Pb, .inl (g.2.1.1, 96, .inl (zf wp))), (P, .inr (1, [.ref Pa, .ref Pb, .ref Pc, .ref Pd, .int (nI hs), .int (nI np), .int (nI nm), .int (nI nw)])), (Pc, .inl (g.2.1.1, 12, .inl (zf mp)))]) eq_21) hD
            have eq_22 : nI ((zSm (zMs mp mi) nm + zSm (zTs wc wp dn lf mi (st / hs) si) i) + (zTk wc wp dn lf mi (st / hs) i)) = nI (zSm (zMs mp mi) nm + zSm (zTs wc wp dn lf mi (st / hs) si) (i + 1)) := by first | (rw [zSm, zTs, if_neg (by omega), Nat.add_zero]) | (rw [zSm, zTs, if_pos (by omega), Nat.add_assoc])
            have hl : lv_has ls 5 [(4, .int (nI (i + 1))), (3, .int (nI (zSm (zMs mp mi) nm + zSm (zTs wc wp dn lf mi (st / hs) si) (i + 1)))), (0, .ref T), (1, .ref P), (2, .int (nI (st / hs)))] := Eq.mp (congrArg (fun z => lv_has ls 5 [(4, .int (nI (i + 1))), (3, .int (z)), (0, .ref T), (1, .ref P), (2, .int (nI (st / hs)))]) eq_22) hl
            exact ih21 (i + 1) _ _ _ (show (i + 1) ≤ np from by omega) (by omega) hP hD hS (lv_sub hl [2, 3, 4, 1, 0] rfl)
  have eq_23 : dn = (zNew si 0 (zDn wc wp dn lf mi (st / hs)) dn) := by exact (zNew_0 _ _ _).symm
  have hP : va_P g.1 vwCl [(T, .inr (0, [.ref Ta, .ref Tb, .ref Tc, .int (nI mi), .int (nI st), .int (nI si)])), (Ta, .inl (g.2.1.1, 6, .inl (zf (zNew si 0 (zDn wc wp dn lf mi (st / hs)) dn)))), (Tb, .inl (g.2.1.1, 6, .inl (zf lf))), (Tc, .inl (g.2.1.1, 6, .inl (zf tk))), (Pa, .inl (g.2.1.1, 6, .inl (zf wc))), (Pb, .inl (g.2.1.1, 96, .inl (zf wp))), (P, .inr (1, [.ref Pa, .ref Pb, .ref Pc, .ref Pd, .int (nI hs), .int (nI np), .int (nI nm), .int (nI nw)])), (Pc, .inl (g.2.1.1, 12, .inl (zf mp)))] _ := Eq.mp (congrArg (fun z => va_P g.1 vwCl [(T, .inr (0, [.ref Ta, .ref Tb, .ref Tc, .int (nI mi), .int (nI st), .int (nI si)])), (Ta, .inl (g.2.1.1, 6, .inl (zf z))), (Tb, .inl (g.2.1.1, 6, .inl (zf lf))), (Tc, .inl (g.2.1.1, 6, .inl (zf tk))), (Pa, .inl (g.2.1.1, 6, .inl (zf wc))), (Pb, .inl (g.2.1.1, 96, .inl (zf wp))), (P, .inr (1, [.ref Pa, .ref Pb, .ref Pc, .ref Pd, .int (nI hs), .int (nI np), .int (nI nm), .int (nI nw)])), (Pc, .inl (g.2.1.1, 12, .inl (zf mp)))] _) eq_23) hP
  have hD : va_D A [(T, .inr (0, [.ref Ta, .ref Tb, .ref Tc, .int (nI mi), .int (nI st), .int (nI si)])), (Ta, .inl (g.2.1.1, 6, .inl (zf (zNew si 0 (zDn wc wp dn lf mi (st / hs)) dn)))), (Tb, .inl (g.2.1.1, 6, .inl (zf lf))), (Tc, .inl (g.2.1.1, 6, .inl (zf tk))), (Pa, .inl (g.2.1.1, 6, .inl (zf wc))), (Pb, .inl (g.2.1.1, 96, .inl (zf wp))), (P, .inr (1, [.ref Pa, .ref Pb, .ref Pc, .ref Pd, .int (nI hs), .int (nI np), .int (nI nm), .int (nI nw)])), (Pc, .inl (g.2.1.1, 12, .inl (zf mp)))] := Eq.mp (congrArg (fun z => va_D A [(T, .inr (0, [.ref Ta, .ref Tb, .ref Tc, .int (nI mi), .int (nI st), .int (nI si)])), (Ta, .inl (g.2.1.1, 6, .inl (zf z))), (Tb, .inl (g.2.1.1, 6, .inl (zf lf))), (Tc, .inl (g.2.1.1, 6, .inl (zf tk))), (Pa, .inl (g.2.1.1, 6, .inl (zf wc))), (Pb, .inl (g.2.1.1, 96, .inl (zf wp))), (P, .inr (1, [.ref Pa, .ref Pb, .ref Pc, .ref Pd, .int (nI hs), .int (nI np), .int (nI nm), .int (nI nw)])), (Pc, .inl (g.2.1.1, 12, .inl (zf mp)))]) eq_23) hD
  have eq_24 : lf = (zNew si 0 (zLf wc wp dn lf mi (st / hs)) lf) := by exact (zNew_0 _ _ _).symm
  have hP : va_P g.1 vwCl [(T, .inr (0, [.ref Ta, .ref Tb, .ref Tc, .int (nI mi), .int (nI st), .int (nI si)])), (Ta, .inl (g.2.1.1, 6, .inl (zf (zNew si 0 (zDn wc wp dn lf mi (st / hs)) dn)))), (Tb, .inl (g.2.1.1, 6, .inl (zf (zNew si 0 (zLf wc wp dn lf mi (st / hs)) lf)))), (Tc, .inl (g.2.1.1, 6, .inl (zf tk))), (Pa, .inl (g.2.1.1, 6, .inl (zf wc))), (Pb, .inl (g.2.1.1, 96, .inl (zf wp))), (P, .inr (1, [.ref Pa, .ref Pb, .ref Pc, .ref Pd, .int (nI hs), .int (nI np), .int (nI nm), .int (nI nw)])), (Pc, .inl (g.2.1.1, 12, .inl (zf mp)))] _ := Eq.mp (congrArg (fun z => va_P g.1 vwCl [(T, .inr (0, [.ref Ta, .ref Tb, .ref Tc, .int (nI mi), .int (nI st), .int (nI si)])), (Ta, .inl (g.2.1.1, 6, .inl (zf (zNew si 0 (zDn wc wp dn lf mi (st / hs)) dn)))), (Tb, .inl (g.2.1.1, 6, .inl (zf z))), (Tc, .inl (g.2.1.1, 6, .inl (zf tk))), (Pa, .inl (g.2.1.1, 6, .inl (zf wc))), (Pb, .inl (g.2.1.1, 96, .inl (zf wp))), (P, .inr (1, [.ref Pa, .ref Pb, .ref Pc, .ref Pd, .int (nI hs), .int (nI np), .int (nI nm), .int (nI nw)])), (Pc, .inl (g.2.1.1, 12, .inl (zf mp)))] _) eq_24) hP
  have hD : va_D A [(T, .inr (0, [.ref Ta, .ref Tb, .ref Tc, .int (nI mi), .int (nI st), .int (nI si)])), (Ta, .inl (g.2.1.1, 6, .inl (zf (zNew si 0 (zDn wc wp dn lf mi (st / hs)) dn)))), (Tb, .inl (g.2.1.1, 6, .inl (zf (zNew si 0 (zLf wc wp dn lf mi (st / hs)) lf)))), (Tc, .inl (g.2.1.1, 6, .inl (zf tk))), (Pa, .inl (g.2.1.1, 6, .inl (zf wc))), (Pb, .inl (g.2.1.1, 96, .inl (zf wp))), (P, .inr (1, [.ref Pa, .ref Pb, .ref Pc, .ref Pd, .int (nI hs), .int (nI np), .int (nI nm), .int (nI nw)])), (Pc, .inl (g.2.1.1, 12, .inl (zf mp)))] := Eq.mp (congrArg (fun z => va_D A [(T, .inr (0, [.ref Ta, .ref Tb, .ref Tc, .int (nI mi), .int (nI st), .int (nI si)])), (Ta, .inl (g.2.1.1, 6, .inl (zf (zNew si 0 (zDn wc wp dn lf mi (st / hs)) dn)))), (Tb, .inl (g.2.1.1, 6, .inl (zf z))), (Tc, .inl (g.2.1.1, 6, .inl (zf tk))), (Pa, .inl (g.2.1.1, 6, .inl (zf wc))), (Pb, .inl (g.2.1.1, 96, .inl (zf wp))), (P, .inr (1, [.ref Pa, .ref Pb, .ref Pc, .ref Pd, .int (nI hs), .int (nI np), .int (nI nm), .int (nI nw)])), (Pc, .inl (g.2.1.1, 12, .inl (zf mp)))]) eq_24) hD
  have eq_25 : tk = (zNew si 0 (fun q => tk q + zTk wc wp dn lf mi (st / hs) q) tk) := by exact (zNew_0 _ _ _).symm
  have hP : va_P g.1 vwCl [(T, .inr (0, [.ref Ta, .ref Tb, .ref Tc, .int (nI mi), .int (nI st), .int (nI si)])), (Ta, .inl (g.2.1.1, 6, .inl (zf (zNew si 0 (zDn wc wp dn lf mi (st / hs)) dn)))), (Tb, .inl (g.2.1.1, 6, .inl (zf (zNew si 0 (zLf wc wp dn lf mi (st / hs)) lf)))), (Tc, .inl (g.2.1.1, 6, .inl (zf (zNew si 0 (fun q => tk q + zTk wc wp dn lf mi (st / hs) q) tk)))), (Pa, .inl (g.2.1.1, 6, .inl (zf wc))), (Pb, .inl (g.2.1.1, 96, .inl (zf wp))), (P, .inr (1, [.ref Pa, .ref Pb, .ref Pc, .ref Pd, .int (nI hs), .int (nI np), .int (nI nm), .int (nI nw)])), (Pc, .inl (g.2.1.1, 12, .inl (zf mp)))] _ := Eq.mp (congrArg (fun z => va_P g.1 vwCl [(T, .inr (0, [.ref Ta, .ref Tb, .ref Tc, .int (nI mi), .int (nI st), .int (nI si)])), (Ta, .inl (g.2.1.1, 6, .inl (zf (zNew si 0 (zDn wc wp dn lf mi (st / hs)) dn)))), (Tb, .inl (g.2.1.1, 6, .inl (zf (zNew si 0 (zLf wc wp dn lf mi (st / hs)) lf)))), (Tc, .inl (g.2.1.1, 6, .inl (zf z))), (Pa, .inl (g.2.1.1, 6, .inl (zf wc))), (Pb, .inl (g.2.1.1, 96, .inl (zf wp))), (P, .inr (1, [.ref Pa, .ref Pb, .ref Pc, .ref Pd, .int (nI hs), .int (nI np), .int (nI nm), .int (nI nw)])), (Pc, .inl (g.2.1.1, 12, .inl (zf mp)))] _) eq_25) hP
  have hD : va_D A [(T, .inr (0, [.ref Ta, .ref Tb, .ref Tc, .int (nI mi), .int (nI st), .int (nI si)])), (Ta, .inl (g.2.1.1, 6, .inl (zf (zNew si 0 (zDn wc wp dn lf mi (st / hs)) dn)))), (Tb, .inl (g.2.1.1, 6, .inl (zf (zNew si 0 (zLf wc wp dn lf mi (st / hs)) lf)))), (Tc, .inl (g.2.1.1, 6, .inl (zf (zNew si 0 (fun q => tk q + zTk wc wp dn lf mi (st / hs) q) tk)))), (Pa, .inl (g.2.1.1, 6, .inl (zf wc))), (Pb, .inl (g.2.1.1, 96, .inl (zf wp))), (P, .inr (1, [.ref Pa, .ref Pb, .ref Pc, .ref Pd, .int (nI hs), .int (nI np), .int (nI nm), .int (nI nw)])), (Pc, .inl (g.2.1.1, 12, .inl (zf mp)))] := Eq.mp (congrArg (fun z => va_D A [(T, .inr (0, [.ref Ta, .ref Tb, .ref Tc, .int (nI mi), .int (nI st), .int (nI si)])), (Ta, .inl (g.2.1.1, 6, .inl (zf (zNew si 0 (zDn wc wp dn lf mi (st / hs)) dn)))), (Tb, .inl (g.2.1.1, 6, .inl (zf (zNew si 0 (zLf wc wp dn lf mi (st / hs)) lf)))), (Tc, .inl (g.2.1.1, 6, .inl (zf z))), (Pa, .inl (g.2.1.1, 6, .inl (zf wc))), (Pb, .inl (g.2.1.1, 96, .inl (zf wp))), (P, .inr (1, [.ref Pa, .ref Pb, .ref Pc, .ref Pd, .int (nI hs), .int (nI np), .int (nI nm), .int (nI nw)])), (Pc, .inl (g.2.1.1, 12, .inl (zf mp)))]) eq_25) hD
  have eq_26 : nI (zSm (zMs mp mi) nm) = nI (zSm (zMs mp mi) nm + zSm (zTs wc wp dn lf mi (st / hs) si) 0) := by simp [zSm]
  have hl : lv_has ls 5 [(4, .int 0), (3, .int (nI (zSm (zMs mp mi) nm + zSm (zTs wc wp dn lf mi (st / hs) si) 0))), (2, .int (nI (st / hs))), (0, .ref T), (1, .ref P)] := Eq.mp (congrArg (fun z => lv_has ls 5 [(4, .int 0), (3, .int (z)), (2, .int (nI (st / hs))), (0, .ref T), (1, .ref P)]) eq_26) hl
  exact hcut21 ((np - 0) + 1) 0 _ _ _ (show 0 ≤ np from by omega) (by omega) hP hD hS (lv_sub hl [3, 4, 2, 1, 0] rfl)

set_option maxHeartbeats 4000000 in
set_option maxRecDepth 100000 in
theorem c_X2_append (l : Launch) (g : zG) (S Sa : Nat) (nd rr : Nat) (rf rt : Int32) (wr : Nat → Nat) (v : Nat) (hnd : nd < 20) : zV l yX2_append wsX2_append 0 0 0 0 g [.ref S, .int (nI v)] [(S, .inr (2, [.ref Sa, .int (nI nd), .int (nI rr), .int rf, .int rt])), (Sa, .inl (g.2.1.1, 20, .inl (zf wr)))] (fun (u : Unit) => True) (fun (u : Unit) => [(S, .inr (2, [.ref Sa, .int (nI (nd + 1)), .int (nI rr), .int rf, .int rt])), (Sa, .inl (g.2.1.1, 20, .inl (zf (zu wr nd v))))]) := by
  refine zz_bodyV (cc := cX2_append) (nL := 2) (own := RX2) (by decide) rfl rfl (Nat.le_of_ble_eq_true rfl) ?_
  intro pP eE s mM below meth cC A Q ls F hin hA hK hE hP hD hl hret
  have hS : va_S A s.heap s.heap [] := va_S.rf
  obtain ⟨hx, hb, hml, hown, hts⟩ := id F
  have hiX2 : ∀ w ∈ u_ws RX2 TX2 5, w ∈ wsX2_append := by decide +kernel
  have hf0 := hts (.fieldLink RX2 15 "StepClock$Stair" "days" "I") (by decide +kernel)
  have hf1 := hts (.fieldLink RX2 9 "StepClock$Stair" "wear" "[I") (by decide +kernel)
  have hl : lv_has ls 2 [(0, .ref S), (1, .int (nI v))] := hl
  refine lv_aload_n hx hb dX2_append_0 rfl (lv_at hl 0 rfl) ?_
  refine va_get (D := g.1) (ci := 2) (v := .int (nI nd)) (C := RX2) (T := TX2) (N := 5) hx hb hts hiX2 hown hK.1 hP 0 rfl rfl 1 (by decide) hf0 (fun _ h9 => h9) rfl dX2_append_1 ?_
  refine zz_if_lt (tgt := 39) hx hb dX2_append_4 (by decide) (zi_n nd) (by omega) (fun c_1 => (by exfalso; omega)) (fun c_1 => ?_)
  refine lv_aload_n hx hb dX2_append_7 rfl (lv_at hl 0 rfl) ?_
  refine va_get (D := g.1) (ci := 2) (v := .int (nI nd)) (C := RX2) (T := TX2) (N := 5) hx hb hts hiX2 hown hK.1 hP 0 rfl rfl 1 (by decide) hf0 (fun _ h9 => h9) rfl dX2_append_8 ?_
  refine lv_aload_n hx hb dX2_append_11 rfl (lv_at hl 0 rfl) ?_
  refine va_get (D := g.1) (ci := 2) (v := .ref Sa) (C := RX2) (T := TX2) (N := 5) hx hb hts hiX2 hown hK.1 hP 0 rfl rfl 0 (by decide) hf1 (fun _ h9 => h9) rfl dX2_append_12 ?_
  refine va_alen hx hb hK.1 hP 1 0 (v := 20) rfl rfl rfl dX2_append_15 ?_
  refine zz_icmp_ge (tgt := 39) hx hb dX2_append_16 (by decide) (zi_n nd) (zi_c 20 rfl) (by omega) (by omega) (fun c_2 => (by exfalso; omega)) (fun c_2 => ?_)
  refine lv_aload_n hx hb dX2_append_19 rfl (lv_at hl 0 rfl) ?_
  refine va_get (D := g.1) (ci := 2) (v := .ref Sa) (C := RX2) (T := TX2) (N := 5) hx hb hts hiX2 hown hK.1 hP 0 rfl rfl 0 (by decide) hf1 (fun _ h9 => h9) rfl dX2_append_20 ?_
  refine lv_aload_n hx hb dX2_append_23 rfl (lv_at hl 0 rfl) ?_
  refine va_get (D := g.1) (ci := 2) (v := .int (nI nd)) (C := RX2) (T := TX2) (N := 5) hx hb hts hiX2 hown hK.1 hP 0 rfl rfl 1 (by decide) hf0 (fun _ h9 => h9) rfl dX2_append_24 ?_
  refine lv_iload_n hx hb dX2_append_27 rfl (lv_at hl 1 rfl) ?_
  refine zz_iast hx hb hK.1 hP hD hS 1 0 rfl rfl nd rfl (by omega) (by decide) dX2_append_28 (fun H locs hP hD hS => ?_)
  have hP : va_P g.1 vwCl [(S, .inr (2, [.ref Sa, .int (nI nd), .int (nI rr), .int rf, .int rt])), (Sa, .inl (g.2.1.1, 20, .inl (upd (zf wr) nd (nI v))))] _ := hP
  have hD : va_D A [(S, .inr (2, [.ref Sa, .int (nI nd), .int (nI rr), .int rf, .int rt])), (Sa, .inl (g.2.1.1, 20, .inl (upd (zf wr) nd (nI v))))] := hD
  rw [zf_upd] at hP hD
  refine lv_aload_n hx hb dX2_append_29 rfl (lv_at hl 0 rfl) ?_
  refine lv_dup hx hb dX2_append_30 rfl ?_
  refine va_get (D := g.1) (ci := 2) (v := .int (nI nd)) (C := RX2) (T := TX2) (N := 5) hx hb hts hiX2 hown hK.1 hP 0 rfl rfl 1 (by decide) hf0 (fun _ h9 => h9) rfl dX2_append_31 ?_
  refine lv_iconst (v := 1) hx hb dX2_append_34 (by decide) ?_
  refine lv_iadd hx hb dX2_append_35 ?_
  refine zz_topi (y := nI (nd + 1)) (zi_eq (zi_add (zi_n nd) (zi_c 1 rfl)) (zi_n (nd + 1)) (by omega)) ?_
  refine va_put (D := g.1) (ci := 2) (v := .int (nI (nd + 1))) (ty := .int) (C := RX2) (T := TX2) (N := 5) hx hb hts hiX2 tyX2 tyX2_ok nmX2 hown hK.1 hP hD hS 0 rfl rfl 1 (by decide) hf0 (fun _ h9 => h9) rfl (by decide +kernel) rfl rfl (Nat.le_of_ble_eq_true rfl) dX2_append_36 (fun H locs hP hD hS => ?_)
  have hP : va_P g.1 vwCl [(S, .inr (2, [.ref Sa, .int (nI (nd + 1)), .int (nI rr), .int rf, .int rt])), (Sa, .inl (g.2.1.1, 20, .inl (zf (zu wr nd v))))] _ := hP
  have hD : va_D A [(S, .inr (2, [.ref Sa, .int (nI (nd + 1)), .int (nI rr), .int rf, .int rt])), (Sa, .inl (g.2.1.1, 20, .inl (zf (zu wr nd v))))] := hD
  exact hret 39 _ _ _ () dX2_append_39 hP hD hS (show True from by trivial)

set_option maxHeartbeats 4000000 in
set_option maxRecDepth 100000 in
theorem c_X2_takeRow (l : Launch) (g : zG) (S Sa : Nat) (nd rr : Nat) (rf rt : Int32) (a b : Nat) (hrr : rr < 1000) : zV l yX2_takeRow wsX2_takeRow 0 0 0 0 g [.ref S, .int (nI a), .int (nI b)] [(S, .inr (2, [.ref Sa, .int (nI nd), .int (nI rr), .int rf, .int rt]))] (fun (u : Unit) => True) (fun (u : Unit) => [(S, .inr (2, [.ref Sa, .int (nI nd), .int (nI (rr + 1)), .int (if rr = 0 then nI a else rf), .int (if rr = 0 then nI b else rt)]))]) := by
  refine zz_bodyV (cc := cX2_takeRow) (nL := 3) (own := RX2) (by decide) rfl rfl (Nat.le_of_ble_eq_true rfl) ?_
  intro pP eE s mM below meth cC A Q ls F hin hA hK hE hP hD hl hret
  have hS : va_S A s.heap s.heap [] := va_S.rf
  obtain ⟨hx, hb, hml, hown, hts⟩ := id F
  have hiX2 : ∀ w ∈ u_ws RX2 TX2 5, w ∈ wsX2_takeRow := by decide +kernel
  have hf0 := hts (.fieldLink RX2 19 "StepClock$Stair" "rows" "I") (by decide +kernel)
  have hf1 := hts (.fieldLink RX2 22 "StepClock$Stair" "rowFrom" "I") (by decide +kernel)
  have hf2 := hts (.fieldLink RX2 25 "StepClock$Stair" "rowTo" "I") (by decide +kernel)
  have hl : lv_has ls 3 [(0, .ref S), (1, .int (nI a)), (2, .int (nI b))] := hl
  refine lv_aload_n hx hb dX2_takeRow_0 rfl (lv_at hl 0 rfl) ?_
  refine va_get (D := g.1) (ci := 2) (v := .int (nI rr)) (C := RX2) (T := TX2) (N := 5) hx hb hts hiX2 hown hK.1 hP 0 rfl rfl 2 (by decide) hf0 (fun _ h9 => h9) rfl dX2_takeRow_1 ?_
  refine zz_if_ne (tgt := 17) hx hb dX2_takeRow_4 (by decide) (zi_n rr) (by omega) (fun c_1 => ?_) (fun c_1 => ?_)
  · refine lv_aload_n hx hb dX2_takeRow_17 rfl (lv_at hl 0 rfl) ?_
    refine lv_dup hx hb dX2_takeRow_18 rfl ?_
    refine va_get (D := g.1) (ci := 2) (v := .int (nI rr)) (C := RX2) (T := TX2) (N := 5) hx hb hts hiX2 hown hK.1 hP 0 rfl rfl 2 (by decide) hf0 (fun _ h9 => h9) rfl dX2_takeRow_19 ?_
    refine lv_iconst (v := 1) hx hb dX2_takeRow_22 (by decide) ?_
    refine lv_iadd hx hb dX2_takeRow_23 ?_
    refine zz_topi (y := nI (rr + 1)) (zi_eq (zi_add (zi_n rr) (zi_c 1 rfl)) (zi_n (rr + 1)) (by omega)) ?_
    refine va_put (D := g.1) (ci := 2) (v := .int (nI (rr + 1))) (ty := .int) (C := RX2) (T := TX2) (N := 5) hx hb hts hiX2 tyX2 tyX2_ok nmX2 hown hK.1 hP hD hS 0 rfl rfl 2 (by decide) hf0 (fun _ h9 => h9) rfl (by decide +kernel) rfl rfl (Nat.le_of_ble_eq_true rfl) dX2_takeRow_24 (fun H locs hP hD hS => ?_)
    have hP : va_P g.1 vwCl [(S, .inr (2, [.ref Sa, .int (nI nd), .int (nI (rr + 1)), .int rf, .int rt]))] _ := hP
    have hD : va_D A [(S, .inr (2, [.ref Sa, .int (nI nd), .int (nI (rr + 1)), .int rf, .int rt]))] := hD
    have eq_2 : rf = (if rr = 0 then nI a else rf) := by first | rw [if_pos (by omega)] | rw [if_neg (by omega)]
    have hP : va_P g.1 vwCl [(S, .inr (2, [.ref Sa, .int (nI nd), .int (nI (rr + 1)), .int ((if rr = 0 then nI a else rf)), .int rt]))] _ := Eq.mp (congrArg (fun z => va_P g.1 vwCl [(S, .inr (2, [.ref Sa, .int (nI nd), .int (nI (rr + 1)), .int (z), .int rt]))] _) eq_2) hP
    have hD : va_D A [(S, .inr (2, [.ref Sa, .int (nI nd), .int (nI (rr + 1)), .int ((if rr = 0 then nI a else rf)), .int rt]))] := Eq.mp (congrArg (fun z => va_D A [(S, .inr (2, [.ref Sa, .int (nI nd), .int (nI (rr + 1)), .int (z), .int rt]))]) eq_2) hD
    have eq_3 : rt = (if rr = 0 then nI b else rt) := by first | rw [if_pos (by omega)] | rw [if_neg (by omega)]
    have hP : va_P g.1 vwCl [(S, .inr (2, [.ref Sa, .int (nI nd), .int (nI (rr + 1)), .int (if rr = 0 then nI a else rf), .int ((if rr = 0 then nI b else rt))]))] _ := Eq.mp (congrArg (fun z => va_P g.1 vwCl [(S, .inr (2, [.ref Sa, .int (nI nd), .int (nI (rr + 1)), .int (if rr = 0 then nI a else rf), .int (z)]))] _) eq_3) hP
    have hD : va_D A [(S, .inr (2, [.ref Sa, .int (nI nd), .int (nI (rr + 1)), .int (if rr = 0 then nI a else rf), .int ((if rr = 0 then nI b else rt))]))] := Eq.mp (congrArg (fun z => va_D A [(S, .inr (2, [.ref Sa, .int (nI nd), .int (nI (rr + 1)), .int (if rr = 0 then nI a else rf), .int (z)]))]) eq_3) hD
    exact hret 27 _ _ _ () dX2_takeRow_27 hP hD hS (show True from by trivial)
  · refine lv_aload_n hx hb dX2_takeRow_7 rfl (lv_at hl 0 rfl) ?_
    refine lv_iload_n hx hb dX2_takeRow_8 rfl (lv_at hl 1 rfl) ?_
    refine va_put (D := g.1) (ci := 2) (v := .int (nI a)) (ty := .int) (C := RX2) (T := TX2) (N := 5) hx hb hts hiX2 tyX2 tyX2_ok nmX2 hown hK.1 hP hD hS 0 rfl rfl 3 (by decide) hf1 (fun _ h9 => h9) rfl (by decide +kernel) rfl rfl (Nat.le_of_ble_eq_true rfl) dX2_takeRow_9 (fun H locs hP hD hS => ?_)
    have hP : va_P g.1 vwCl [(S, .inr (2, [.ref Sa, .int (nI nd), .int (nI rr), .int (nI a), .int rt]))] _ := hP
    have hD : va_D A [(S, .inr (2, [.ref Sa, .int (nI nd), .int (nI rr), .int (nI a), .int rt]))] := hD
    refine lv_aload_n hx hb dX2_takeRow_12 rfl (lv_at hl 0 rfl) ?_
    refine lv_iload_n hx hb dX2_takeRow_13 rfl (lv_at hl 2 rfl) ?_
    refine va_put (D := g.1) (ci := 2) (v := .int (nI b)) (ty := .int) (C := RX2) (T := TX2) (N := 5) hx hb hts hiX2 tyX2 tyX2_ok nmX2 hown hK.1 hP hD hS 0 rfl rfl 4 (by decide) hf2 (fun _ h9 => h9) rfl (by decide +kernel) rfl rfl (Nat.le_of_ble_eq_true rfl) dX2_takeRow_14 (fun H locs hP hD hS => ?_)
    have hP : va_P g.1 vwCl [(S, .inr (2, [.ref Sa, .int (nI nd), .int (nI rr), .int (nI a), .int (nI b)]))] _ := hP
    have hD : va_D A [(S, .inr (2, [.ref Sa, .int (nI nd), .int (nI rr), .int (nI a), .int (nI b)]))] := hD
    refine lv_aload_n hx hb dX2_takeRow_17 rfl (lv_at hl 0 rfl) ?_
    refine lv_dup hx hb dX2_takeRow_18 rfl ?_
    refine va_get (D := g.1) (ci := 2) (v := .int (nI rr)) (C := RX2) (T := TX2) (N := 5) hx hb hts hiX2 hown hK.1 hP 0 rfl rfl 2 (by decide) hf0 (fun _ h9 => h9) rfl dX2_takeRow_19 ?_
    refine lv_iconst (v := 1) hx hb dX2_takeRow_22 (by decide) ?_
    refine lv_iadd hx hb dX2_takeRow_23 ?_
    refine zz_topi (y := nI (rr + 1)) (zi_eq (zi_add (zi_n rr) (zi_c 1 rfl)) (zi_n (rr + 1)) (by omega)) ?_
    refine va_put (D := g.1) (ci := 2) (v := .int (nI (rr + 1))) (ty := .int) (C := RX2) (T := TX2) (N := 5) hx hb hts hiX2 tyX2 tyX2_ok nmX2 hown hK.1 hP hD hS 0 rfl rfl 2 (by decide) hf0 (fun _ h9 => h9) rfl (by decide +kernel) rfl rfl (Nat.le_of_ble_eq_true rfl) dX2_takeRow_24 (fun H locs hP hD hS => ?_)
    have hP : va_P g.1 vwCl [(S, .inr (2, [.ref Sa, .int (nI nd), .int (nI (rr + 1)), .int (nI a), .int (nI b)]))] _ := hP
    have hD : va_D A [(S, .inr (2, [.ref Sa, .int (nI nd), .int (nI (rr + 1)), .int (nI a), .int (nI b)]))] := hD
    have eq_4 : nI a = (if rr = 0 then nI a else rf) := by first | rw [if_pos (by omega)] | rw [if_neg (by omega)]
    have hP : va_P g.1 vwCl [(S, .inr (2, [.ref Sa, .int (nI nd), .int (nI (rr + 1)), .int ((if rr = 0 then nI a else rf)), .int (nI b)]))] _ := Eq.mp (congrArg (fun z => va_P g.1 vwCl [(S, .inr (2, [.ref Sa, .int (nI nd), .int (nI (rr + 1)), .int (z), .int (nI b)]))] _) eq_4) hP
    have hD : va_D A [(S, .inr (2, [.ref Sa, .int (nI nd), .int (nI (rr + 1)), .int ((if rr = 0 then nI a else rf)), .int (nI b)]))] := Eq.mp (congrArg (fun z => va_D A [(S, .inr (2, [.ref Sa, .int (nI nd), .int (nI (rr + 1)), .int (z), .int (nI b)]))]) eq_4) hD
    have eq_5 : nI b = (if rr = 0 then nI b else rt) := by first | rw [if_pos (by omega)] | rw [if_neg (by omega)]
    have hP : va_P g.1 vwCl [(S, .inr (2, [.ref Sa, .int (nI nd), .int (nI (rr + 1)), .int (if rr = 0 then nI a else rf), .int ((if rr = 0 then nI b else rt))]))] _ := Eq.mp (congrArg (fun z => va_P g.1 vwCl [(S, .inr (2, [.ref Sa, .int (nI nd), .int (nI (rr + 1)), .int (if rr = 0 then nI a else rf), .int (z)]))] _) eq_5) hP
    have hD : va_D A [(S, .inr (2, [.ref Sa, .int (nI nd), .int (nI (rr + 1)), .int (if rr = 0 then nI a else rf), .int ((if rr = 0 then nI b else rt))]))] := Eq.mp (congrArg (fun z => va_D A [(S, .inr (2, [.ref Sa, .int (nI nd), .int (nI (rr + 1)), .int (if rr = 0 then nI a else rf), .int (z)]))]) eq_5) hD
    exact hret 27 _ _ _ () dX2_takeRow_27 hP hD hS (show True from by trivial)

set_option maxHeartbeats 4000000 in
set_option maxRecDepth 100000 in
theorem c_X2_findRows (l : Launch) (g : zG) (S Sa : Nat) (nd rr : Nat) (rf rt : Int32) (wr : Nat → Nat) (x e : Nat) (hnd : nd ≤ 20) (hx : x ≤ 199999) (he : e ≤ 999) (hwr : ∀ k, wr k < 10000) : zV l yX2_findRows wsX2_findRows 1 22 0 0 g [.ref S, .int (nI x - nI e), .int (nI x + nI e)] [(S, .inr (2, [.ref Sa, .int (nI nd), .int (nI rr), .int rf, .int rt])), (Sa, .inl (g.2.1.1, 20, .inl (zf wr)))] (fun (u : Unit) => True) (fun (u : Unit) => [(S, .inr (2, [.ref Sa, .int (nI nd), .int (nI (zRo wr x e nd nd).1), .int ((zRo wr x e nd nd).2.1), .int ((zRo wr x e nd nd).2.2)])), (Sa, .inl (g.2.1.1, 20, .inl (zf wr)))]) := by
  refine zz_bodyV (cc := cX2_findRows) (nL := 6) (own := RX2) (by decide) rfl rfl (Nat.le_of_ble_eq_true rfl) ?_
  intro pP eE s mM below meth cC A Q ls F hin hA hK hE hP hD hl hret
  have hS : va_S A s.heap s.heap [] := va_S.rf
  obtain ⟨hx, hb, hml, hown, hts⟩ := id F
  have hiX2 : ∀ w ∈ u_ws RX2 TX2 5, w ∈ wsX2_findRows := by decide +kernel
  have hf0 := hts (.fieldLink RX2 19 "StepClock$Stair" "rows" "I") (by decide +kernel)
  have hf1 := hts (.fieldLink RX2 22 "StepClock$Stair" "rowFrom" "I") (by decide +kernel)
  have hf2 := hts (.fieldLink RX2 25 "StepClock$Stair" "rowTo" "I") (by decide +kernel)
  have hf3 := hts (.fieldLink RX2 15 "StepClock$Stair" "days" "I") (by decide +kernel)
  have hf4 := hts (.fieldLink RX2 9 "StepClock$Stair" "wear" "[I") (by decide +kernel)
  have hl : lv_has ls 6 [(0, .ref S), (1, .int (nI x - nI e)), (2, .int (nI x + nI e))] := hl
  refine lv_aload_n hx hb dX2_findRows_0 rfl (lv_at hl 0 rfl) ?_
  refine lv_iconst (v := 0) hx hb dX2_findRows_1 (by decide) ?_
  refine va_put (D := g.1) (ci := 2) (v := .int 0) (ty := .int) (C := RX2) (T := TX2) (N := 5) hx hb hts hiX2 tyX2 tyX2_ok nmX2 hown hK.1 hP hD hS 0 rfl rfl 2 (by decide) hf0 (fun _ h9 => h9) rfl (by decide +kernel) rfl rfl (Nat.le_of_ble_eq_true rfl) dX2_findRows_2 (fun H locs hP hD hS => ?_)
  have hP : va_P g.1 vwCl [(S, .inr (2, [.ref Sa, .int (nI nd), .int 0, .int rf, .int rt])), (Sa, .inl (g.2.1.1, 20, .inl (zf wr)))] _ := hP
  have hD : va_D A [(S, .inr (2, [.ref Sa, .int (nI nd), .int 0, .int rf, .int rt])), (Sa, .inl (g.2.1.1, 20, .inl (zf wr)))] := hD
  refine lv_aload_n hx hb dX2_findRows_5 rfl (lv_at hl 0 rfl) ?_
  refine lv_bipush (v := (-9)) hx hb dX2_findRows_6 (by decide) ?_
  refine va_put (D := g.1) (ci := 2) (v := .int (-9)) (ty := .int) (C := RX2) (T := TX2) (N := 5) hx hb hts hiX2 tyX2 tyX2_ok nmX2 hown hK.1 hP hD hS 0 rfl rfl 3 (by decide) hf1 (fun _ h9 => h9) rfl (by decide +kernel) rfl rfl (Nat.le_of_ble_eq_true rfl) dX2_findRows_8 (fun H locs hP hD hS => ?_)
  have hP : va_P g.1 vwCl [(S, .inr (2, [.ref Sa, .int (nI nd), .int 0, .int (-9), .int rt])), (Sa, .inl (g.2.1.1, 20, .inl (zf wr)))] _ := hP
  have hD : va_D A [(S, .inr (2, [.ref Sa, .int (nI nd), .int 0, .int (-9), .int rt])), (Sa, .inl (g.2.1.1, 20, .inl (zf wr)))] := hD
  refine lv_aload_n hx hb dX2_findRows_11 rfl (lv_at hl 0 rfl) ?_
  refine lv_bipush (v := (-9)) hx hb dX2_findRows_12 (by decide) ?_
  refine va_put (D := g.1) (ci := 2) (v := .int (-9)) (ty := .int) (C := RX2) (T := TX2) (N := 5) hx hb hts hiX2 tyX2 tyX2_ok nmX2 hown hK.1 hP hD hS 0 rfl rfl 4 (by decide) hf2 (fun _ h9 => h9) rfl (by decide +kernel) rfl rfl (Nat.le_of_ble_eq_true rfl) dX2_findRows_14 (fun H locs hP hD hS => ?_)
  have hP : va_P g.1 vwCl [(S, .inr (2, [.ref Sa, .int (nI nd), .int 0, .int (-9), .int (-9)])), (Sa, .inl (g.2.1.1, 20, .inl (zf wr)))] _ := hP
  have hD : va_D A [(S, .inr (2, [.ref Sa, .int (nI nd), .int 0, .int (-9), .int (-9)])), (Sa, .inl (g.2.1.1, 20, .inl (zf wr)))] := hD
  refine lv_iconst (v := 0) hx hb dX2_findRows_17 (by decide) ?_
  refine lv_istore_n (lv' := [(3, .int 0), (0, .ref S), (1, .int (nI x - nI e)), (2, .int (nI x + nI e))]) hx hb dX2_findRows_18 rfl hl (by decide) rfl (fun ls hl => ?_)
  have hcut19 : ∀ (fu : Nat) (i : Nat) (H : Heap) (locs : List Loc) (ls : Array Slot), (i ≤ nd) → (nd - i) < fu → va_P g.1 vwCl [(S, .inr (2, [.ref Sa, .int (nI nd), .int (nI (zRo wr x e nd i).1), .int ((zRo wr x e nd i).2.1), .int ((zRo wr x e nd i).2.2)])), (Sa, .inl (g.2.1.1, 20, .inl (zf wr)))] H → va_D A [(S, .inr (2, [.ref Sa, .int (nI nd), .int (nI (zRo wr x e nd i).1), .int ((zRo wr x e nd i).2.1), .int ((zRo wr x e nd i).2.2)])), (Sa, .inl (g.2.1.1, 20, .inl (zf wr)))] → va_S A s.heap H locs → lv_has ls 6 [(0, .ref S), (1, .int (nI x - nI e)), (2, .int (nI x + nI e)), (3, .int (nI i))] → W pP l eE { frames := 1, cells := 0, slots := 0, locals := 22 } s mM ([.ref S, .int (nI x - nI e), .int (nI x + nI e)] : List Value).toArray below meth cC H locs 0 0 Q (F0 mM 19 ls []) := by
    intro fu
    induction fu with
    | zero =>
      intro i H locs ls hi hm
      exact absurd hm (Nat.not_lt_zero _)
    | succ fu ih19 =>
      intro i H locs ls hi hm hP hD hS hl
      have hz1 := zRo_le wr x e nd i
      have hz2 : i * nd ≤ 20 * 20 := Nat.mul_le_mul (by omega) (by omega)
      refine lv_iload_n hx hb dX2_findRows_19 rfl (lv_at hl 3 rfl) ?_
      refine lv_aload_n hx hb dX2_findRows_20 rfl (lv_at hl 0 rfl) ?_
      refine va_get (D := g.1) (ci := 2) (v := .int (nI nd)) (C := RX2) (T := TX2) (N := 5) hx hb hts hiX2 hown hK.1 hP 0 rfl rfl 1 (by decide) hf3 (fun _ h9 => h9) rfl dX2_findRows_21 ?_
      refine zz_icmp_ge (tgt := 95) hx hb dX2_findRows_24 (by decide) (zi_n i) (zi_n nd) (by omega) (by omega) (fun c_1 => ?_) (fun c_1 => ?_)
      · have eq_2 : nI (zRo wr x e nd i).1 = nI ((zRo wr x e nd nd).1) := by rw [show i = nd by omega]
        have hP : va_P g.1 vwCl [(S, .inr (2, [.ref Sa, .int (nI nd), .int ((nI ((zRo wr x e nd nd).1))), .int ((zRo wr x e nd i).2.1), .int ((zRo wr x e nd i).2.2)])), (Sa, .inl (g.2.1.1, 20, .inl (zf wr)))] _ := Eq.mp (congrArg (fun z => va_P g.1 vwCl [(S, .inr (2, [.ref Sa, .int (nI nd), .int (z), .int ((zRo wr x e nd i).2.1), .int ((zRo wr x e nd i).2.2)])), (Sa, .inl (g.2.1.1, 20, .inl (zf wr)))] _) eq_2) hP
        have hD : va_D A [(S, .inr (2, [.ref Sa, .int (nI nd), .int ((nI ((zRo wr x e nd nd).1))), .int ((zRo wr x e nd i).2.1), .int ((zRo wr x e nd i).2.2)])), (Sa, .inl (g.2.1.1, 20, .inl (zf wr)))] := Eq.mp (congrArg (fun z => va_D A [(S, .inr (2, [.ref Sa, .int (nI nd), .int (z), .int ((zRo wr x e nd i).2.1), .int ((zRo wr x e nd i).2.2)])), (Sa, .inl (g.2.1.1, 20, .inl (zf wr)))]) eq_2) hD
        have eq_3 : (zRo wr x e nd i).2.1 = (zRo wr x e nd nd).2.1 := by rw [show i = nd by omega]
        have hP : va_P g.1 vwCl [(S, .inr (2, [.ref Sa, .int (nI nd), .int (nI ((zRo wr x e nd nd).1)), .int (((zRo wr x e nd nd).2.1)), .int ((zRo wr x e nd i).2.2)])), (Sa, .inl (g.2.1.1, 20, .inl (zf wr)))] _ := Eq.mp (congrArg (fun z => va_P g.1 vwCl [(S, .inr (2, [.ref Sa, .int (nI nd), .int (nI ((zRo wr x e nd nd).1)), .int (z), .int ((zRo wr x e nd i).2.2)])), (Sa, .inl (g.2.1.1, 20, .inl (zf wr)))] _) eq_3) hP
        have hD : va_D A [(S, .inr (2, [.ref Sa, .int (nI nd), .int (nI ((zRo wr x e nd nd).1)), .int (((zRo wr x e nd nd).2.1)), .int ((zRo wr x e nd i).2.2)])), (Sa, .inl (g.2.1.1, 20, .inl (zf wr)))] := Eq.mp (congrArg (fun z => va_D A [(S, .inr (2, [.ref Sa, .int (nI nd), .int (nI ((zRo wr x e nd nd).1)), .int (z), .int ((zRo wr x e nd i).2.2)])), (Sa, .inl (g.2.1.1, 20, .inl (zf wr)))]) eq_3) hD
        have eq_4 : (zRo wr x e nd i).2.2 = (zRo wr x e nd nd).2.2 := by rw [show i = nd by omega]
        have hP : va_P g.1 vwCl [(S, .inr (2, [.ref Sa, .int (nI nd), .int (nI ((zRo wr x e nd nd).1)), .int ((zRo wr x e nd nd).2.1), .int (((zRo wr x e nd nd).2.2))])), (Sa, .inl (g.2.1.1, 20, .inl (zf wr)))] _ := Eq.mp (congrArg (fun z => va_P g.1 vwCl [(S, .inr (2, [.ref Sa, .int (nI nd), .int (nI ((zRo wr x e nd nd).1)), .int ((zRo wr x e nd nd).2.1), .int (z)])), (Sa, .inl (g.2.1.1, 20, .inl (zf wr)))] _) eq_4) hP
        have hD : va_D A [(S, .inr (2, [.ref Sa, .int (nI nd), .int (nI ((zRo wr x e nd nd).1)), .int ((zRo wr x e nd nd).2.1), .int (((zRo wr x e nd nd).2.2))])), (Sa, .inl (g.2.1.1, 20, .inl (zf wr)))] := Eq.mp (congrArg (fun z => va_D A [(S, .inr (2, [.ref Sa, .int (nI nd), .int (nI ((zRo wr x e nd nd).1)), .int ((zRo wr x e nd nd).2.1), .int (z)])), (Sa, .inl (g.2.1.1, 20, .inl (zf wr)))]) eq_4) hD
        exact hret 95 _ _ _ () dX2_findRows_95 hP hD hS (show True from by trivial)
      · refine lv_iconst (v := 0) hx hb dX2_findRows_27 (by decide) ?_
        refine lv_istore (lv' := [(4, .int 0), (0, .ref S), (1, .int (nI x - nI e)), (2, .int (nI x + nI e)), (3, .int (nI i))]) hx hb dX2_findRows_28 hl (by decide) rfl (fun ls hl => ?_)
        refine lv_iload_n hx hb dX2_findRows_30 rfl (lv_at hl 4 rfl) ?_
        refine lv_istore (lv' := [(5, .int (nI i)), (4, .int 0), (0, .ref S), (1, .int (nI x - nI e)), (2, .int (nI x + nI e)), (3, .int (nI i))]) hx hb dX2_findRows_31 hl (by decide) rfl (fun ls hl => ?_)
        have hcut33 : ∀ (fu : Nat) (k : Nat) (H : Heap) (locs : List Loc) (ls : Array Slot), (i + k ≤ nd) → (nd - (i + k)) < fu → va_P g.1 vwCl [(S, .inr (2, [.ref Sa, .int (nI nd), .int (nI (zRi wr x e i (zRo wr x e nd i) k).1), .int ((zRi wr x e i (zRo wr x e nd i) k).2.1), .int ((zRi wr x e i (zRo wr x e nd i) k).2.2)])), (Sa, .inl (g.2.1.1, 20, .inl (zf wr)))] H → va_D A [(S, .inr (2, [.ref Sa, .int (nI nd), .int (nI (zRi wr x e i (zRo wr x e nd i) k).1), .int ((zRi wr x e i (zRo wr x e nd i) k).2.1), .int ((zRi wr x e i (zRo wr x e nd i) k).2.2)])), (Sa, .inl (g.2.1.1, 20, .inl (zf wr)))] → va_S A s.heap H locs → lv_has ls 6 [(0, .ref S), (1, .int (nI x - nI e)), (2, .int (nI x + nI e)), (3, .int (nI i)), (4, .int (nI (zSm (fun q => wr (i + q)) k))), (5, .int (nI (i + k)))] → W pP l eE { frames := 1, cells := 0, slots := 0, locals := 22 } s mM ([.ref S, .int (nI x - nI e), .int (nI x + nI e)] : List Value).toArray below meth cC H locs 0 0 Q (F0 mM 33 ls []) := by
          intro fu
          induction fu with
          | zero =>
            intro k H locs ls hk hm
            exact absurd hm (Nat.not_lt_zero _)
          | succ fu ih33 =>
            intro k H locs ls hk hm hP hD hS hl
            have hz3 := zRi_le wr x e i (zRo wr x e nd i) k
            have hz4 := zSm_le (f := fun q => wr (i + q)) (b := 10000) (fun q => Nat.le_of_lt (hwr _)) k
            have hz5 : k * 10000 ≤ 200000 := by omega
            refine lv_iload hx hb dX2_findRows_33 (lv_at hl 5 rfl) ?_
            refine lv_aload_n hx hb dX2_findRows_35 rfl (lv_at hl 0 rfl) ?_
            refine va_get (D := g.1) (ci := 2) (v := .int (nI nd)) (C := RX2) (T := TX2) (N := 5) hx hb hts hiX2 hown hK.1 hP 0 rfl rfl 1 (by decide) hf3 (fun _ h9 => h9) rfl dX2_findRows_36 ?_
            refine zz_icmp_ge (tgt := 89) hx hb dX2_findRows_39 (by decide) (zi_n (i + k)) (zi_n nd) (by omega) (by omega) (fun c_5 => ?_) (fun c_5 => ?_)
            · refine lv_iinc (v := nI (i + 1)) (lv' := [(3, .int (nI (i + 1))), (0, .ref S), (1, .int (nI x - nI e)), (2, .int (nI x + nI e)), (4, .int (nI (zSm (fun q => wr (i + q)) k))), (5, .int (nI (i + k)))]) hx hb dX2_findRows_89 hl (k := 3) rfl (zi_eq (zi_add (zi_n i) (zi_c 1 rfl)) (zi_n (i + 1)) (by omega)) (by decide) rfl (fun ls hl => ?_)
              refine lv_goto (tgt := 19) hx hb dX2_findRows_92 (by decide) ?_
              have eq_6 : nI (zRi wr x e i (zRo wr x e nd i) k).1 = nI ((zRo wr x e nd (i + 1)).1) := by rw [zRo, show k = nd - i by omega]
              have hP : va_P g.1 vwCl [(S, .inr (2, [.ref Sa, .int (nI nd), .int ((nI ((zRo wr x e nd (i + 1)).1))), .int ((zRi wr x e i (zRo wr x e nd i) k).2.1), .int ((zRi wr x e i (zRo wr x e nd i) k).2.2)])), (Sa, .inl (g.2.1.1, 20, .inl (zf wr)))] _ := Eq.mp (congrArg (fun z => va_P g.1 vwCl [(S, .inr (2, [.ref Sa, .int (nI nd), .int (z), .int ((zRi wr x e i (zRo wr x e nd i) k).2.1), .int ((zRi wr x e i (zRo wr x e nd i) k).2.2)])), (Sa, .inl (g.2.1.1, 20, .inl (zf wr)))] _) eq_6) hP
              have hD : va_D A [(S, .inr (2, [.ref Sa, .int (nI nd), .int ((nI ((zRo wr x e nd (i + 1)).1))), .int ((zRi wr x e i (zRo wr x e nd i) k).2.1), .int ((zRi wr x e i (zRo wr x e nd i) k).2.2)])), (Sa, .inl (g.2.1.1, 20, .inl (zf wr)))] := Eq.mp (congrArg (fun z => va_D A [(S, .inr (2, [.ref Sa, .int (nI nd), .int (z), .int ((zRi wr x e i (zRo wr x e nd i) k).2.1), .int ((zRi wr x e i (zRo wr x e nd i) k).2.2)])), (Sa, .inl (g.2.1.1, 20, .inl (zf wr)))]) eq_6) hD
              have eq_7 : (zRi wr x e i (zRo wr x e nd i) k).2.1 = (zRo wr x e nd (i + 1)).2.1 := by rw [zRo, show k = nd - i by omega]
              have hP : va_P g.1 vwCl [(S, .inr (2, [.ref Sa, .int (nI nd), .int (nI ((zRo wr x e nd (i + 1)).1)), .int (((zRo wr x e nd (i + 1)).2.1)), .int ((zRi wr x e i (zRo wr x e nd i) k).2.2)])), (Sa, .inl (g.2.1.1, 20, .inl (zf wr)))] _ := Eq.mp (congrArg (fun z => va_P g.1 vwCl [(S, .inr (2, [.ref Sa, .int (nI nd), .int (nI ((zRo wr x e nd (i + 1)).1)), .int (z), .int ((zRi wr x e i (zRo wr x e nd i) k).2.2)])), (Sa, .inl (g.2.1.1, 20, .inl (zf wr)))] _) eq_7) hP
              have hD : va_D A [(S, .inr (2, [.ref Sa, .int (nI nd), .int (nI ((zRo wr x e nd (i + 1)).1)), .int (((zRo wr x e nd (i + 1)).2.1)), .int ((zRi wr x e i (zRo wr x e nd i) k).2.2)])), (Sa, .inl (g.2.1.1, 20, .inl (zf wr)))] := Eq.mp (congrArg (fun z => va_D A [(S, .inr (2, [.ref Sa, .int (nI nd), .int (nI ((zRo wr x e nd (i + 1)).1)), .int (z), .int ((zRi wr x e i (zRo wr x e nd i) k).2.2)])), (Sa, .inl (g.2.1.1, 20, .inl (zf wr)))]) eq_7) hD
              have eq_8 : (zRi wr x e i (zRo wr x e nd i) k).2.2 = (zRo wr x e nd (i + 1)).2.2 := by rw [zRo, show k = nd - i by omega]
              have hP : va_P g.1 vwCl [(S, .inr (2, [.ref Sa, .int (nI nd), .int (nI ((zRo wr x e nd (i + 1)).1)), .int ((zRo wr x e nd (i + 1)).2.1), .int (((zRo wr x e nd (i + 1)).2.2))])), (Sa, .inl (g.2.1.1, 20, .inl (zf wr)))] _ := Eq.mp (congrArg (fun z => va_P g.1 vwCl [(S, .inr (2, [.ref Sa, .int (nI nd), .int (nI ((zRo wr x e nd (i + 1)).1)), .int ((zRo wr x e nd (i + 1)).2.1), .int (z)])), (Sa, .inl (g.2.1.1, 20, .inl (zf wr)))] _) eq_8) hP
              have hD : va_D A [(S, .inr (2, [.ref Sa, .int (nI nd), .int (nI ((zRo wr x e nd (i + 1)).1)), .int ((zRo wr x e nd (i + 1)).2.1), .int (((zRo wr x e nd (i + 1)).2.2))])), (Sa, .inl (g.2.1.1, 20, .inl (zf wr)))] := Eq.mp (congrArg (fun z => va_D A [(S, .inr (2, [.ref Sa, .int (nI nd), .int (nI ((zRo wr x e nd (i + 1)).1)), .int ((zRo wr x e nd (i + 1)).2.1), .int (z)])), (Sa, .inl (g.2.1.1, 20, .inl (zf wr)))]) eq_8) hD
              exact ih19 (i + 1) _ _ _ (show (i + 1) ≤ nd from by omega) (by omega) hP hD hS (lv_sub hl [1, 2, 3, 0] rfl)
            · refine lv_iload hx hb dX2_findRows_42 (lv_at hl 5 rfl) ?_
              refine lv_aload_n hx hb dX2_findRows_44 rfl (lv_at hl 0 rfl) ?_
              refine va_get (D := g.1) (ci := 2) (v := .ref Sa) (C := RX2) (T := TX2) (N := 5) hx hb hts hiX2 hown hK.1 hP 0 rfl rfl 0 (by decide) hf4 (fun _ h9 => h9) rfl dX2_findRows_45 ?_
              refine va_alen hx hb hK.1 hP 1 0 (v := 20) rfl rfl rfl dX2_findRows_48 ?_
              refine zz_icmp_ge (tgt := 89) hx hb dX2_findRows_49 (by decide) (zi_n (i + k)) (zi_c 20 rfl) (by omega) (by omega) (fun c_9 => ?_) (fun c_9 => ?_)
              · refine lv_iinc (v := nI (i + 1)) (lv' := [(3, .int (nI (i + 1))), (0, .ref S), (1, .int (nI x - nI e)), (2, .int (nI x + nI e)), (4, .int (nI (zSm (fun q => wr (i + q)) k))), (5, .int (nI (i + k)))]) hx hb dX2_findRows_89 hl (k := 3) rfl (zi_eq (zi_add (zi_n i) (zi_c 1 rfl)) (zi_n (i + 1)) (by omega)) (by decide) rfl (fun ls hl => ?_)
                refine lv_goto (tgt := 19) hx hb dX2_findRows_92 (by decide) ?_
                have eq_10 : nI (zRi wr x e i (zRo wr x e nd i) k).1 = nI ((zRo wr x e nd (i + 1)).1) := by rw [zRo, show k = nd - i by omega]
                have hP : va_P g.1 vwCl [(S, .inr (2, [.ref Sa, .int (nI nd), .int ((nI ((zRo wr x e nd (i + 1)).1))), .int ((zRi wr x e i (zRo wr x e nd i) k).2.1), .int ((zRi wr x e i (zRo wr x e nd i) k).2.2)])), (Sa, .inl (g.2.1.1, 20, .inl (zf wr)))] _ := Eq.mp (congrArg (fun z => va_P g.1 vwCl [(S, .inr (2, [.ref Sa, .int (nI nd), .int (z), .int ((zRi wr x e i (zRo wr x e nd i) k).2.1), .int ((zRi wr x e i (zRo wr x e nd i) k).2.2)])), (Sa, .inl (g.2.1.1, 20, .inl (zf wr)))] _) eq_10) hP
                have hD : va_D A [(S, .inr (2, [.ref Sa, .int (nI nd), .int ((nI ((zRo wr x e nd (i + 1)).1))), .int ((zRi wr x e i (zRo wr x e nd i) k).2.1), .int ((zRi wr x e i (zRo wr x e nd i) k).2.2)])), (Sa, .inl (g.2.1.1, 20, .inl (zf wr)))] := Eq.mp (congrArg (fun z => va_D A [(S, .inr (2, [.ref Sa, .int (nI nd), .int (z), .int ((zRi wr x e i (zRo wr x e nd i) k).2.1), .int ((zRi wr x e i (zRo wr x e nd i) k).2.2)])), (Sa, .inl (g.2.1.1, 20, .inl (zf wr)))]) eq_10) hD
                have eq_11 : (zRi wr x e i (zRo wr x e nd i) k).2.1 = (zRo wr x e nd (i + 1)).2.1 := by rw [zRo, show k = nd - i by omega]
                have hP : va_P g.1 vwCl [(S, .inr (2, [.ref Sa, .int (nI nd), .int (nI ((zRo wr x e nd (i + 1)).1)), .int (((zRo wr x e nd (i + 1)).2.1)), .int ((zRi wr x e i (zRo wr x e nd i) k).2.2)])), (Sa, .inl (g.2.1.1, 20, .inl (zf wr)))] _ := Eq.mp (congrArg (fun z => va_P g.1 vwCl [(S, .inr (2, [.ref Sa, .int (nI nd), .int (nI ((zRo wr x e nd (i + 1)).1)), .int (z), .int ((zRi wr x e i (zRo wr x e nd i) k).2.2)])), (Sa, .inl (g.2.1.1, 20, .inl (zf wr)))] _) eq_11) hP
                have hD : va_D A [(S, .inr (2, [.ref Sa, .int (nI nd), .int (nI ((zRo wr x e nd (i + 1)).1)), .int (((zRo wr x e nd (i + 1)).2.1)), .int ((zRi wr x e i (zRo wr x e nd i) k).2.2)])), (Sa, .inl (g.2.1.1, 20, .inl (zf wr)))] := Eq.mp (congrArg (fun z => va_D A [(S, .inr (2, [.ref Sa, .int (nI nd), .int (nI ((zRo wr x e nd (i + 1)).1)), .int (z), .int ((zRi wr x e i (zRo wr x e nd i) k).2.2)])), (Sa, .inl (g.2.1.1, 20, .inl (zf wr)))]) eq_11) hD
                have eq_12 : (zRi wr x e i (zRo wr x e nd i) k).2.2 = (zRo wr x e nd (i + 1)).2.2 := by rw [zRo, show k = nd - i by omega]
                have hP : va_P g.1 vwCl [(S, .inr (2, [.ref Sa, .int (nI nd), .int (nI ((zRo wr x e nd (i + 1)).1)), .int ((zRo wr x e nd (i + 1)).2.1), .int (((zRo wr x e nd (i + 1)).2.2))])), (Sa, .inl (g.2.1.1, 20, .inl (zf wr)))] _ := Eq.mp (congrArg (fun z => va_P g.1 vwCl [(S, .inr (2, [.ref Sa, .int (nI nd), .int (nI ((zRo wr x e nd (i + 1)).1)), .int ((zRo wr x e nd (i + 1)).2.1), .int (z)])), (Sa, .inl (g.2.1.1, 20, .inl (zf wr)))] _) eq_12) hP
                have hD : va_D A [(S, .inr (2, [.ref Sa, .int (nI nd), .int (nI ((zRo wr x e nd (i + 1)).1)), .int ((zRo wr x e nd (i + 1)).2.1), .int (((zRo wr x e nd (i + 1)).2.2))])), (Sa, .inl (g.2.1.1, 20, .inl (zf wr)))] := Eq.mp (congrArg (fun z => va_D A [(S, .inr (2, [.ref Sa, .int (nI nd), .int (nI ((zRo wr x e nd (i + 1)).1)), .int ((zRo wr x e nd (i + 1)).2.1), .int (z)])), (Sa, .inl (g.2.1.1, 20, .inl (zf wr)))]) eq_12) hD
                exact ih19 (i + 1) _ _ _ (show (i + 1) ≤ nd from by omega) (by omega) hP hD hS (lv_sub hl [1, 2, 3, 0] rfl)
              · refine lv_iload hx hb dX2_findRows_52 (lv_at hl 4 rfl) ?_
                refine lv_aload_n hx hb dX2_findRows_54 rfl (lv_at hl 0 rfl) ?_
                refine va_get (D := g.1) (ci := 2) (v := .ref Sa) (C := RX2) (T := TX2) (N := 5) hx hb hts hiX2 hown hK.1 hP 0 rfl rfl 0 (by decide) hf4 (fun _ h9 => h9) rfl dX2_findRows_55 ?_
                refine lv_iload hx hb dX2_findRows_58 (lv_at hl 5 rfl) ?_
                refine zz_iald hx hb hK.1 hP 1 0 rfl rfl (i + k) rfl (by omega) (by decide) dX2_findRows_60 ?_
                have hq_13 := hwr (i + k)
                refine lv_iadd hx hb dX2_findRows_61 ?_
                refine zz_topi (y := nI ((zSm (fun q => wr (i + q)) k) + (wr (i + k)))) (zi_eq (zi_add (zi_n (zSm (fun q => wr (i + q)) k)) (zi_n (wr (i + k)))) (zi_n ((zSm (fun q => wr (i + q)) k) + (wr (i + k)))) (by omega)) ?_
                refine lv_istore (lv' := [(4, .int (nI ((zSm (fun q => wr (i + q)) k) + (wr (i + k))))), (0, .ref S), (1, .int (nI x - nI e)), (2, .int (nI x + nI e)), (3, .int (nI i)), (5, .int (nI (i + k)))]) hx hb dX2_findRows_62 hl (by decide) rfl (fun ls hl => ?_)
                refine lv_iload hx hb dX2_findRows_64 (lv_at hl 0 rfl) ?_
                refine lv_iload_n hx hb dX2_findRows_66 rfl (lv_at hl 2 rfl) ?_
                refine zz_icmp_lt (tgt := 83) hx hb dX2_findRows_67 (by decide) (zi_n ((zSm (fun q => wr (i + q)) k) + (wr (i + k)))) (zi_sub (zi_n x) (zi_n e)) (by omega) (by omega) (fun c_14 => ?_) (fun c_14 => ?_)
                · refine lv_iinc (v := nI ((i + k) + 1)) (lv' := [(5, .int (nI ((i + k) + 1))), (4, .int (nI ((zSm (fun q => wr (i + q)) k) + (wr (i + k))))), (0, .ref S), (1, .int (nI x - nI e)), (2, .int (nI x + nI e)), (3, .int (nI i))]) hx hb dX2_findRows_83 hl (k := 5) rfl (zi_eq (zi_add (zi_n (i + k)) (zi_c 1 rfl)) (zi_n ((i + k) + 1)) (by omega)) (by decide) rfl (fun ls hl => ?_)
                  refine lv_goto (tgt := 33) hx hb dX2_findRows_86 (by decide) ?_
                  have eq_15 : nI (zRi wr x e i (zRo wr x e nd i) k).1 = nI ((zRi wr x e i (zRo wr x e nd i) (k + 1)).1) := by first | (rw [zRi, zRs_p ⟨by rw [zSm]; omega, by rw [zSm]; omega⟩]) | (rw [zRi, zRs_n (fun q => by have q1 := q.1; have q2 := q.2; rw [zSm] at q1 q2; omega)])
                  have hP : va_P g.1 vwCl [(S, .inr (2, [.ref Sa, .int (nI nd), .int ((nI ((zRi wr x e i (zRo wr x e nd i) (k + 1)).1))), .int ((zRi wr x e i (zRo wr x e nd i) k).2.1), .int ((zRi wr x e i (zRo wr x e nd i) k).2.2)])), (Sa, .inl (g.2.1.1, 20, .inl (zf wr)))] _ := Eq.mp (congrArg (fun z => va_P g.1 vwCl [(S, .inr (2, [.ref Sa, .int (nI nd), .int (z), .int ((zRi wr x e i (zRo wr x e nd i) k).2.1), .int ((zRi wr x e i (zRo wr x e nd i) k).2.2)])), (Sa, .inl (g.2.1.1, 20, .inl (zf wr)))] _) eq_15) hP
                  have hD : va_D A [(S, .inr (2, [.ref Sa, .int (nI nd), .int ((nI ((zRi wr x e i (zRo wr x e nd i) (k + 1)).1))), .int ((zRi wr x e i (zRo wr x e nd i) k).2.1), .int ((zRi wr x e i (zRo wr x e nd i) k).2.2)])), (Sa, .inl (g.2.1.1, 20, .inl (zf wr)))] := Eq.mp (congrArg (fun z => va_D A [(S, .inr (2, [.ref Sa, .int (nI nd), .int (z), .int ((zRi wr x e i (zRo wr x e nd i) k).2.1), .int ((zRi wr x e i (zRo wr x e nd i) k).2.2)])), (Sa, .inl (g.2.1.1, 20, .inl (zf wr)))]) eq_15) hD
                  have eq_16 : (zRi wr x e i (zRo wr x e nd i) k).2.1 = (zRi wr x e i (zRo wr x e nd i) (k + 1)).2.1 := by first | (rw [zRi, zRs_p ⟨by rw [zSm]; omega, by rw [zSm]; omega⟩]) | (rw [zRi, zRs_n (fun q => by have q1 := q.1; have q2 := q.2; rw [zSm] at q1 q2; omega)])
                  have hP : va_P g.1 vwCl [(S, .inr (2, [.ref Sa, .int (nI nd), .int (nI ((zRi wr x e i (zRo wr x e nd i) (k + 1)).1)), .int (((zRi wr x e i (zRo wr x e nd i) (k + 1)).2.1)), .int ((zRi wr x e i (zRo wr x e nd i) k).2.2)])), (Sa, .inl (g.2.1.1, 20, .inl (zf wr)))] _ := Eq.mp (congrArg (fun z => va_P g.1 vwCl [(S, .inr (2, [.ref Sa, .int (nI nd), .int (nI ((zRi wr x e i (zRo wr x e nd i) (k + 1)).1)), .int (z), .int ((zRi wr x e i (zRo wr x e nd i) k).2.2)])), (Sa, .inl (g.2.1.1, 20, .inl (zf wr)))] _) eq_16) hP
                  have hD : va_D A [(S, .inr (2, [.ref Sa, .int (nI nd), .int (nI ((zRi wr x e i (zRo wr x e nd i) (k + 1)).1)), .int (((zRi wr x e i (zRo wr x e nd i) (k + 1)).2.1)), .int ((zRi wr x e i (zRo wr x e nd i) k).2.2)])), (Sa, .inl (g.2.1.1, 20, .inl (zf wr)))] := Eq.mp (congrArg (fun z => va_D A [(S, .inr (2, [.ref Sa, .int (nI nd), .int (nI ((zRi wr x e i (zRo wr x e nd i) (k + 1)).1)), .int (z), .int ((zRi wr x e i (zRo wr x e nd i) k).2.2)])), (Sa, .inl (g.2.1.1, 20, .inl (zf wr)))]) eq_16) hD
                  have eq_17 : (zRi wr x e i (zRo wr x e nd i) k).2.2 = (zRi wr x e i (zRo wr x e nd i) (k + 1)).2.2 := by first | (rw [zRi, zRs_p ⟨by rw [zSm]; omega, by rw [zSm]; omega⟩]) | (rw [zRi, zRs_n (fun q => by have q1 := q.1; have q2 := q.2; rw [zSm] at q1 q2; omega)])
                  have hP : va_P g.1 vwCl [(S, .inr (2, [.ref Sa, .int (nI nd), .int (nI ((zRi wr x e i (zRo wr x e nd i) (k + 1)).1)), .int ((zRi wr x e i (zRo wr x e nd i) (k + 1)).2.1), .int (((zRi wr x e i (zRo wr x e nd i) (k + 1)).2.2))])), (Sa, .inl (g.2.1.1, 20, .inl (zf wr)))] _ := Eq.mp (congrArg (fun z => va_P g.1 vwCl [(S, .inr (2, [.ref Sa, .int (nI nd), .int (nI ((zRi wr x e i (zRo wr x e nd i) (k + 1)).1)), .int ((zRi wr x e i (zRo wr x e nd i) (k + 1)).2.1), .int (z)])), (Sa, .inl (g.2.1.1, 20, .inl (zf wr)))] _) eq_17) hP
                  have hD : va_D A [(S, .inr (2, [.ref Sa, .int (nI nd), .int (nI ((zRi wr x e i (zRo wr x e nd i) (k + 1)).1)), .int ((zRi wr x e i (zRo wr x e nd i) (k + 1)).2.1), .int (((zRi wr x e i (zRo wr x e nd i) (k + 1)).2.2))])), (Sa, .inl (g.2.1.1, 20, .inl (zf wr)))] := Eq.mp (congrArg (fun z => va_D A [(S, .inr (2, [.ref Sa, .int (nI nd), .int (nI ((zRi wr x e i (zRo wr x e nd i) (k + 1)).1)), .int ((zRi wr x e i (zRo wr x e nd i) (k + 1)).2.1), .int (z)])), (Sa, .inl (g.2.1.1, 20, .inl (zf wr)))]) eq_17) hD
                  have eq_18 : nI ((zSm (fun q => wr (i + q)) k) + (wr (i + k))) = nI (zSm (fun q => wr (i + q)) (k + 1)) := by rw [zSm]
                  have hl : lv_has ls 6 [(5, .int (nI ((i + k) + 1))), (4, .int (nI (zSm (fun q => wr (i + q)) (k + 1)))), (0, .ref S), (1, .int (nI x - nI e)), (2, .int (nI x + nI e)), (3, .int (nI i))] := Eq.mp (congrArg (fun z => lv_has ls 6 [(5, .int (nI ((i + k) + 1))), (4, .int (z)), (0, .ref S), (1, .int (nI x - nI e)), (2, .int (nI x + nI e)), (3, .int (nI i))]) eq_18) hl
                  have eq_19 : nI ((i + k) + 1) = nI (i + (k + 1)) := by rw [Nat.add_assoc]
                  have hl : lv_has ls 6 [(5, .int (nI (i + (k + 1)))), (4, .int (nI (zSm (fun q => wr (i + q)) (k + 1)))), (0, .ref S), (1, .int (nI x - nI e)), (2, .int (nI x + nI e)), (3, .int (nI i))] := Eq.mp (congrArg (fun z => lv_has ls 6 [(5, .int (z)), (4, .int (nI (zSm (fun q => wr (i + q)) (k + 1)))), (0, .ref S), (1, .int (nI x - nI e)), (2, .int (nI x + nI e)), (3, .int (nI i))]) eq_19) hl
                  exact ih33 (k + 1) _ _ _ (show i + (k + 1) ≤ nd from by omega) (by omega) hP hD hS (lv_sub hl [2, 3, 4, 5, 1, 0] rfl)
                · refine lv_iload hx hb dX2_findRows_70 (lv_at hl 0 rfl) ?_
                  refine lv_iload_n hx hb dX2_findRows_72 rfl (lv_at hl 3 rfl) ?_
                  refine zz_icmp_gt (tgt := 83) hx hb dX2_findRows_73 (by decide) (zi_n ((zSm (fun q => wr (i + q)) k) + (wr (i + k)))) (zi_add (zi_n x) (zi_n e)) (by omega) (by omega) (fun c_20 => ?_) (fun c_20 => ?_)
                  · refine lv_iinc (v := nI ((i + k) + 1)) (lv' := [(5, .int (nI ((i + k) + 1))), (4, .int (nI ((zSm (fun q => wr (i + q)) k) + (wr (i + k))))), (0, .ref S), (1, .int (nI x - nI e)), (2, .int (nI x + nI e)), (3, .int (nI i))]) hx hb dX2_findRows_83 hl (k := 5) rfl (zi_eq (zi_add (zi_n (i + k)) (zi_c 1 rfl)) (zi_n ((i + k) + 1)) (by omega)) (by decide) rfl (fun ls hl => ?_)
                    refine lv_goto (tgt := 33) hx hb dX2_findRows_86 (by decide) ?_
                    have eq_21 : nI (zRi wr x e i (zRo wr x e nd i) k).1 = nI ((zRi wr x e i (zRo wr x e nd i) (k + 1)).1) := by first | (rw [zRi, zRs_p ⟨by rw [zSm]; omega, by rw [zSm]; omega⟩]) | (rw [zRi, zRs_n (fun q => by have q1 := q.1; have q2 := q.2; rw [zSm] at q1 q2; omega)])
                    have hP : va_P g.1 vwCl [(S, .inr (2, [.ref Sa, .int (nI nd), .int ((nI ((zRi wr x e i (zRo wr x e nd i) (k + 1)).1))), .int ((zRi wr x e i (zRo wr x e nd i) k).2.1), .int ((zRi wr x e i (zRo wr x e nd i) k).2.2)])), (Sa, .inl (g.2.1.1, 20, .inl (zf wr)))] _ := Eq.mp (congrArg (fun z => va_P g.1 vwCl [(S, .inr (2, [.ref Sa, .int (nI nd), .int (z), .int ((zRi wr x e i (zRo wr x e nd i) k).2.1), .int ((zRi wr x e i (zRo wr x e nd i) k).2.2)])), (Sa, .inl (g.2.1.1, 20, .inl (zf wr)))] _) eq_21) hP
                    have hD : va_D A [(S, .inr (2, [.ref Sa, .int (nI nd), .int ((nI ((zRi wr x e i (zRo wr x e nd i) (k + 1)).1))), .int ((zRi wr x e i (zRo wr x e nd i) k).2.1), .int ((zRi wr x e i (zRo wr x e nd i) k).2.2)])), (Sa, .inl (g.2.1.1, 20, .inl (zf wr)))] := Eq.mp (congrArg (fun z => va_D A [(S, .inr (2, [.ref Sa, .int (nI nd), .int (z), .int ((zRi wr x e i (zRo wr x e nd i) k).2.1), .int ((zRi wr x e i (zRo wr x e nd i) k).2.2)])), (Sa, .inl (g.2.1.1, 20, .inl (zf wr)))]) eq_21) hD
                    have eq_22 : (zRi wr x e i (zRo wr x e nd i) k).2.1 = (zRi wr x e i (zRo wr x e nd i) (k + 1)).2.1 := by first | (rw [zRi, zRs_p ⟨by rw [zSm]; omega, by rw [zSm]; omega⟩]) | (rw [zRi, zRs_n (fun q => by have q1 := q.1; have q2 := q.2; rw [zSm] at q1 q2; omega)])
                    have hP : va_P g.1 vwCl [(S, .inr (2, [.ref Sa, .int (nI nd), .int (nI ((zRi wr x e i (zRo wr x e nd i) (k + 1)).1)), .int (((zRi wr x e i (zRo wr x e nd i) (k + 1)).2.1)), .int ((zRi wr x e i (zRo wr x e nd i) k).2.2)])), (Sa, .inl (g.2.1.1, 20, .inl (zf wr)))] _ := Eq.mp (congrArg (fun z => va_P g.1 vwCl [(S, .inr (2, [.ref Sa, .int (nI nd), .int (nI ((zRi wr x e i (zRo wr x e nd i) (k + 1)).1)), .int (z), .int ((zRi wr x e i (zRo wr x e nd i) k).2.2)])), (Sa, .inl (g.2.1.1, 20, .inl (zf wr)))] _) eq_22) hP
                    have hD : va_D A [(S, .inr (2, [.ref Sa, .int (nI nd), .int (nI ((zRi wr x e i (zRo wr x e nd i) (k + 1)).1)), .int (((zRi wr x e i (zRo wr x e nd i) (k + 1)).2.1)), .int ((zRi wr x e i (zRo wr x e nd i) k).2.2)])), (Sa, .inl (g.2.1.1, 20, .inl (zf wr)))] := Eq.mp (congrArg (fun z => va_D A [(S, .inr (2, [.ref Sa, .int (nI nd), .int (nI ((zRi wr x e i (zRo wr x e nd i) (k + 1)).1)), .int (z), .int ((zRi wr x e i (zRo wr x e nd i) k).2.2)])), (Sa, .inl (g.2.1.1, 20, .inl (zf wr)))]) eq_22) hD
                    have eq_23 : (zRi wr x e i (zRo wr x e nd i) k).2.2 = (zRi wr x e i (zRo wr x e nd i) (k + 1)).2.2 := by first | (rw [zRi, zRs_p ⟨by rw [zSm]; omega, by rw [zSm]; omega⟩]) | (rw [zRi, zRs_n (fun q => by have q1 := q.1; have q2 := q.2; rw [zSm] at q1 q2; omega)])
                    have hP : va_P g.1 vwCl [(S, .inr (2, [.ref Sa, .int (nI nd), .int (nI ((zRi wr x e i (zRo wr x e nd i) (k + 1)).1)), .int ((zRi wr x e i (zRo wr x e nd i) (k + 1)).2.1), .int (((zRi wr x e i (zRo wr x e nd i) (k + 1)).2.2))])), (Sa, .inl (g.2.1.1, 20, .inl (zf wr)))] _ := Eq.mp (congrArg (fun z => va_P g.1 vwCl [(S, .inr (2, [.ref Sa, .int (nI nd), .int (nI ((zRi wr x e i (zRo wr x e nd i) (k + 1)).1)), .int ((zRi wr x e i (zRo wr x e nd i) (k + 1)).2.1), .int (z)])), (Sa, .inl (g.2.1.1, 20, .inl (zf wr)))] _) eq_23) hP
                    have hD : va_D A [(S, .inr (2, [.ref Sa, .int (nI nd), .int (nI ((zRi wr x e i (zRo wr x e nd i) (k + 1)).1)), .int ((zRi wr x e i (zRo wr x e nd i) (k + 1)).2.1), .int (((zRi wr x e i (zRo wr x e nd i) (k + 1)).2.2))])), (Sa, .inl (g.2.1.1, 20, .inl (zf wr)))] := Eq.mp (congrArg (fun z => va_D A [(S, .inr (2, [.ref Sa, .int (nI nd), .int (nI ((zRi wr x e i (zRo wr x e nd i) (k + 1)).1)), .int ((zRi wr x e i (zRo wr x e nd i) (k + 1)).2.1), .int (z)])), (Sa, .inl (g.2.1.1, 20, .inl (zf wr)))]) eq_23) hD
                    have eq_24 : nI ((zSm (fun q => wr (i + q)) k) + (wr (i + k))) = nI (zSm (fun q => wr (i + q)) (k + 1)) := by rw [zSm]
                    have hl : lv_has ls 6 [(5, .int (nI ((i + k) + 1))), (4, .int (nI (zSm (fun q => wr (i + q)) (k + 1)))), (0, .ref S), (1, .int (nI x - nI e)), (2, .int (nI x + nI e)), (3, .int (nI i))] := Eq.mp (congrArg (fun z => lv_has ls 6 [(5, .int (nI ((i + k) + 1))), (4, .int (z)), (0, .ref S), (1, .int (nI x - nI e)), (2, .int (nI x + nI e)), (3, .int (nI i))]) eq_24) hl
                    have eq_25 : nI ((i + k) + 1) = nI (i + (k + 1)) := by rw [Nat.add_assoc]
                    have hl : lv_has ls 6 [(5, .int (nI (i + (k + 1)))), (4, .int (nI (zSm (fun q => wr (i + q)) (k + 1)))), (0, .ref S), (1, .int (nI x - nI e)), (2, .int (nI x + nI e)), (3, .int (nI i))] := Eq.mp (congrArg (fun z => lv_has ls 6 [(5, .int (z)), (4, .int (nI (zSm (fun q => wr (i + q)) (k + 1)))), (0, .ref S), (1, .int (nI x - nI e)), (2, .int (nI x + nI e)), (3, .int (nI i))]) eq_25) hl
                    exact ih33 (k + 1) _ _ _ (show i + (k + 1) ≤ nd from by omega) (by omega) hP hD hS (lv_sub hl [2, 3, 4, 5, 1, 0] rfl)
                  · refine lv_aload_n hx hb dX2_findRows_76 rfl (lv_at hl 1 rfl) ?_
                    refine lv_iload_n hx hb dX2_findRows_77 rfl (lv_at hl 4 rfl) ?_
                    refine lv_iload hx hb dX2_findRows_78 (lv_at hl 5 rfl) ?_
                    refine zz_callV (wr := [(Sa, .inl (g.2.1.1, 20, .inl (zf wr)))]) (wc := [(S, .inr (2, [.ref Sa, .int (nI nd), .int (nI (zRi wr x e i (zRo wr x e nd i) k).1), .int ((zRi wr x e i (zRo wr x e nd i) k).2.1), .int ((zRi wr x e i (zRo wr x e nd i) k).2.2)]))]) (As := [.int (nI i), .int (nI (i + k))]) (rest := []) F hK hE hA hP hD hS (c_X2_takeRow l g (S := S) (Sa := Sa) (nd := nd) (rr := (zRi wr x e i (zRo wr x e nd i) k).1) (rf := (zRi wr x e i (zRo wr x e nd i) k).2.1) (rt := (zRi wr x e i (zRo wr x e nd i) k).2.2) (a := i) (b := (i + k)) (hrr := by first | assumption | omega)) (cwV 2 hts gX2_findRows_X2_takeRow rfl rfl rfl (by decide +kernel) ⟨Nat.le_of_ble_eq_true rfl, Nat.le_of_ble_eq_true rfl⟩) [0] [1] rfl rfl (by decide) (by decide) (by decide) 2 0 rfl rfl rfl rfl rfl hl.1 (Nat.le_of_ble_eq_true rfl) dX2_findRows_80 ⟨Nat.le_of_ble_eq_true rfl, Nat.le_of_ble_eq_true rfl⟩ (fun u_26 H locs hw hP hD hS => ?_)
                    have hP : va_P g.1 vwCl [(Sa, .inl (g.2.1.1, 20, .inl (zf wr))), (S, .inr (2, [.ref Sa, .int (nI nd), .int (nI (((zRi wr x e i (zRo wr x e nd i) k).1) + 1)), .int (if ((zRi wr x e i (zRo wr x e nd i) k).1) = 0 then nI i else ((zRi wr x e i (zRo wr x e nd i) k).2.1)), .int (if ((zRi wr x e i (zRo wr x e nd i) k).1) = 0 then nI (i + k) else ((zRi wr x e i (zRo wr x e nd i) k).2.2))]))] _ := hP
                    have hD : va_D A [(Sa, .inl (g.2.1.1, 20, .inl (zf wr))), (S, .inr (2, [.ref Sa, .int (nI nd), .int (nI (((zRi wr x e i (zRo wr x e nd i) k).1) + 1)), .int (if ((zRi wr x e i (zRo wr x e nd i) k).1) = 0 then nI i else ((zRi wr x e i (zRo wr x e nd i) k).2.1)), .int (if ((zRi wr x e i (zRo wr x e nd i) k).1) = 0 then nI (i + k) else ((zRi wr x e i (zRo wr x e nd i) k).2.2))]))] := hD
                    refine lv_iinc (v := nI ((i + k) + 1)) (lv' := [(5, .int (nI ((i + k) + 1))), (4, .int (nI ((zSm (fun q => wr (i + q)) k) + (wr (i + k))))), (0, .ref S), (1, .int (nI x - nI e)), (2, .int (nI x + nI e)), (3, .int (nI i))]) hx hb dX2_findRows_83 hl (k := 5) rfl (zi_eq (zi_add (zi_n (i + k)) (zi_c 1 rfl)) (zi_n ((i + k) + 1)) (by omega)) (by decide) rfl (fun ls hl => ?_)
                    refine lv_goto (tgt := 33) hx hb dX2_findRows_86 (by decide) ?_
                    have hP := hP.sub (ws' := [(S, .inr (2, [.ref Sa, .int (nI nd), .int (nI (((zRi wr x e i (zRo wr x e nd i) k).1) + 1)), .int (if ((zRi wr x e i (zRo wr x e nd i) k).1) = 0 then nI i else ((zRi wr x e i (zRo wr x e nd i) k).2.1)), .int (if ((zRi wr x e i (zRo wr x e nd i) k).1) = 0 then nI (i + k) else ((zRi wr x e i (zRo wr x e nd i) k).2.2))])), (Sa, .inl (g.2.1.1, 20, .inl (zf wr)))]) [1, 0] rfl
                    have hD := hD.sub (ws' := [(S, .inr (2, [.ref Sa, .int (nI nd), .int (nI (((zRi wr x e i (zRo wr x e nd i) k).1) + 1)), .int (if ((zRi wr x e i (zRo wr x e nd i) k).1) = 0 then nI i else ((zRi wr x e i (zRo wr x e nd i) k).2.1)), .int (if ((zRi wr x e i (zRo wr x e nd i) k).1) = 0 then nI (i + k) else ((zRi wr x e i (zRo wr x e nd i) k).2.2))])), (Sa, .inl (g.2.1.1, 20, .inl (zf wr)))]) [1, 0] (by decide) rfl
                    have eq_27 : nI (((zRi wr x e i (zRo wr x e nd i) k).1) + 1) = nI ((zRi wr x e i (zRo wr x e nd i) (k + 1)).1) := by first | (rw [zRi, zRs_p ⟨by rw [zSm]; omega, by rw [zSm]; omega⟩]) | (rw [zRi, zRs_n (fun q => by have q1 := q.1; have q2 := q.2; rw [zSm] at q1 q2; omega)])
                    have hP : va_P g.1 vwCl [(S, .inr (2, [.ref Sa, .int (nI nd), .int ((nI ((zRi wr x e i (zRo wr x e nd i) (k + 1)).1))), .int (if ((zRi wr x e i (zRo wr x e nd i) k).1) = 0 then nI i else ((zRi wr x e i (zRo wr x e nd i) k).2.1)), .int (if ((zRi wr x e i (zRo wr x e nd i) k).1) = 0 then nI (i + k) else ((zRi wr x e i (zRo wr x e nd i) k).2.2))])), (Sa, .inl (g.2.1.1, 20, .inl (zf wr)))] _ := Eq.mp (congrArg (fun z => va_P g.1 vwCl [(S, .inr (2, [.ref Sa, .int (nI nd), .int (z), .int (if ((zRi wr x e i (zRo wr x e nd i) k).1) = 0 then nI i else ((zRi wr x e i (zRo wr x e nd i) k).2.1)), .int (if ((zRi wr x e i (zRo wr x e nd i) k).1) = 0 then nI (i + k) else ((zRi wr x e i (zRo wr x e nd i) k).2.2))])), (Sa, .inl (g.2.1.1, 20, .inl (zf wr)))] _) eq_27) hP
                    have hD : va_D A [(S, .inr (2, [.ref Sa, .int (nI nd), .int ((nI ((zRi wr x e i (zRo wr x e nd i) (k + 1)).1))), .int (if ((zRi wr x e i (zRo wr x e nd i) k).1) = 0 then nI i else ((zRi wr x e i (zRo wr x e nd i) k).2.1)), .int (if ((zRi wr x e i (zRo wr x e nd i) k).1) = 0 then nI (i + k) else ((zRi wr x e i (zRo wr x e nd i) k).2.2))])), (Sa, .inl (g.2.1.1, 20, .inl (zf wr)))] := Eq.mp (congrArg (fun z => va_D A [(S, .inr (2, [.ref Sa, .int (nI nd), .int (z), .int (if ((zRi wr x e i (zRo wr x e nd i) k).1) = 0 then nI i else ((zRi wr x e i (zRo wr x e nd i) k).2.1)), .int (if ((zRi wr x e i (zRo wr x e nd i) k).1) = 0 then nI (i + k) else ((zRi wr x e i (zRo wr x e nd i) k).2.2))])), (Sa, .inl (g.2.1.1, 20, .inl (zf wr)))]) eq_27) hD
                    have eq_28 : (if ((zRi wr x e i (zRo wr x e nd i) k).1) = 0 then nI i else ((zRi wr x e i (zRo wr x e nd i) k).2.1)) = (zRi wr x e i (zRo wr x e nd i) (k + 1)).2.1 := by first | (rw [zRi, zRs_p ⟨by rw [zSm]; omega, by rw [zSm]; omega⟩]) | (rw [zRi, zRs_n (fun q => by have q1 := q.1; have q2 := q.2; rw [zSm] at q1 q2; omega)])
                    have hP : va_P g.1 vwCl [(S, .inr (2, [.ref Sa, .int (nI nd), .int (nI ((zRi wr x e i (zRo wr x e nd i) (k + 1)).1)), .int (((zRi wr x e i (zRo wr x e nd i) (k + 1)).2.1)), .int (if ((zRi wr x e i (zRo wr x e nd i) k).1) = 0 then nI (i + k) else ((zRi wr x e i (zRo wr x e nd i) k).2.2))])), (Sa, .inl (g.2.1.1, 20, .inl (zf wr)))] _ := Eq.mp (congrArg (fun z => va_P g.1 vwCl [(S, .inr (2, [.ref Sa, .int (nI nd), .int (nI ((zRi wr x e i (zRo wr x e nd i) (k + 1)).1)), .int (z), .int (if ((zRi wr x e i (zRo wr x e nd i) k).1) = 0 then nI (i + k) else ((zRi wr x e i (zRo wr x e nd i) k).2.2))])), (Sa, .inl (g.2.1.1, 20, .inl (zf wr)))] _) eq_28) hP
                    have hD : va_D A [(S, .inr (2, [.ref Sa, .int (nI nd), .int (nI ((zRi wr x e i (zRo wr x e nd i) (k + 1)).1)), .int (((zRi wr x e i (zRo wr x e nd i) (k + 1)).2.1)), .int (if ((zRi wr x e i (zRo wr x e nd i) k).1) = 0 then nI (i + k) else ((zRi wr x e i (zRo wr x e nd i) k).2.2))])), (Sa, .inl (g.2.1.1, 20, .inl (zf wr)))] := Eq.mp (congrArg (fun z => va_D A [(S, .inr (2, [.ref Sa, .int (nI nd), .int (nI ((zRi wr x e i (zRo wr x e nd i) (k + 1)).1)), .int (z), .int (if ((zRi wr x e i (zRo wr x e nd i) k).1) = 0 then nI (i + k) else ((zRi wr x e i (zRo wr x e nd i) k).2.2))])), (Sa, .inl (g.2.1.1, 20, .inl (zf wr)))]) eq_28) hD
                    have eq_29 : (if ((zRi wr x e i (zRo wr x e nd i) k).1) = 0 then nI (i + k) else ((zRi wr x e i (zRo wr x e nd i) k).2.2)) = (zRi wr x e i (zRo wr x e nd i) (k + 1)).2.2 := by first | (rw [zRi, zRs_p ⟨by rw [zSm]; omega, by rw [zSm]; omega⟩]) | (rw [zRi, zRs_n (fun q => by have q1 := q.1; have q2 := q.2; rw [zSm] at q1 q2; omega)])
                    have hP : va_P g.1 vwCl [(S, .inr (2, [.ref Sa, .int (nI nd), .int (nI ((zRi wr x e i (zRo wr x e nd i) (k + 1)).1)), .int ((zRi wr x e i (zRo wr x e nd i) (k + 1)).2.1), .int (((zRi wr x e i (zRo wr x e nd i) (k + 1)).2.2))])), (Sa, .inl (g.2.1.1, 20, .inl (zf wr)))] _ := Eq.mp (congrArg (fun z => va_P g.1 vwCl [(S, .inr (2, [.ref Sa, .int (nI nd), .int (nI ((zRi wr x e i (zRo wr x e nd i) (k + 1)).1)), .int ((zRi wr x e i (zRo wr x e nd i) (k + 1)).2.1), .int (z)])), (Sa, .inl (g.2.1.1, 20, .inl (zf wr)))] _) eq_29) hP
                    have hD : va_D A [(S, .inr (2, [.ref Sa, .int (nI nd), .int (nI ((zRi wr x e i (zRo wr x e nd i) (k + 1)).1)), .int ((zRi wr x e i (zRo wr x e nd i) (k + 1)).2.1), .int (((zRi wr x e i (zRo wr x e nd i) (k + 1)).2.2))])), (Sa, .inl (g.2.1.1, 20, .inl (zf wr)))] := Eq.mp (congrArg (fun z => va_D A [(S, .inr (2, [.ref Sa, .int (nI nd), .int (nI ((zRi wr x e i (zRo wr x e nd i) (k + 1)).1)), .int ((zRi wr x e i (zRo wr x e nd i) (k + 1)).2.1), .int (z)])), (Sa, .inl (g.2.1.1, 20, .inl (zf wr)))]) eq_29) hD
                    have eq_30 : nI ((zSm (fun q => wr (i + q)) k) + (wr (i + k))) = nI (zSm (fun q => wr (i + q)) (k + 1)) := by rw [zSm]
                    have hl : lv_has ls 6 [(5, .int (nI ((i + k) + 1))), (4, .int (nI (zSm (fun q => wr (i + q)) (k + 1)))), (0, .ref S), (1, .int (nI x - nI e)), (2, .int (nI x + nI e)), (3, .int (nI i))] := Eq.mp (congrArg (fun z => lv_has ls 6 [(5, .int (nI ((i + k) + 1))), (4, .int (z)), (0, .ref S), (1, .int (nI x - nI e)), (2, .int (nI x + nI e)), (3, .int (nI i))]) eq_30) hl
                    have eq_31 : nI ((i + k) + 1) = nI (i + (k + 1)) := by rw [Nat.add_assoc]
                    have hl : lv_has ls 6 [(5, .int (nI (i + (k + 1)))), (4, .int (nI (zSm (fun q => wr (i + q)) (k + 1)))), (0, .ref S), (1, .int (nI x - nI e)), (2, .int (nI x + nI e)), (3, .int (nI i))] := Eq.mp (congrArg (fun z => lv_has ls 6 [(5, .int (z)), (4, .int (nI (zSm (fun q => wr (i + q)) (k + 1)))), (0, .ref S), (1, .int (nI x - nI e)), (2, .int (nI x + nI e)), (3, .int (nI i))]) eq_31) hl
                    exact ih33 (k + 1) _ _ _ (show i + (k + 1) ≤ nd from by omega) (by omega) hP hD hS (lv_sub hl [2, 3, 4, 5, 1, 0] rfl)
        have eq_32 : nI (zRo wr x e nd i).1 = nI ((zRi wr x e i (zRo wr x e nd i) 0).1) := by first | rfl | (congr 1; omega) | (congr 1; simp; done)
        have hP : va_P g.1 vwCl [(S, .inr (2, [.ref Sa, .int (nI nd), .int ((nI ((zRi wr x e i (zRo wr x e nd i) 0).1))), .int ((zRo wr x e nd i).2.1), .int ((zRo wr x e nd i).2.2)])), (Sa, .inl (g.2.1.1, 20, .inl (zf wr)))] _ := Eq.mp (congrArg (fun z => va_P g.1 vwCl [(S, .inr (2, [.ref Sa, .int (nI nd), .int (z), .int ((zRo wr x e nd i).2.1), .int ((zRo wr x e nd i).2.2)])), (Sa, .inl (g.2.1.1, 20, .inl (zf wr)))] _) eq_32) hP
        have hD : va_D A [(S, .inr (2, [.ref Sa, .int (nI nd), .int ((nI ((zRi wr x e i (zRo wr x e nd i) 0).1))), .int ((zRo wr x e nd i).2.1), .int ((zRo wr x e nd i).2.2)])), (Sa, .inl (g.2.1.1, 20, .inl (zf wr)))] := Eq.mp (congrArg (fun z => va_D A [(S, .inr (2, [.ref Sa, .int (nI nd), .int (z), .int ((zRo wr x e nd i).2.1), .int ((zRo wr x e nd i).2.2)])), (Sa, .inl (g.2.1.1, 20, .inl (zf wr)))]) eq_32) hD
        have eq_33 : (zRo wr x e nd i).2.1 = (zRi wr x e i (zRo wr x e nd i) 0).2.1 := by first | rfl | (congr 1; omega) | (congr 1; simp; done)
        have hP : va_P g.1 vwCl [(S, .inr (2, [.ref Sa, .int (nI nd), .int (nI ((zRi wr x e i (zRo wr x e nd i) 0).1)), .int (((zRi wr x e i (zRo wr x e nd i) 0).2.1)), .int ((zRo wr x e nd i).2.2)])), (Sa, .inl (g.2.1.1, 20, .inl (zf wr)))] _ := Eq.mp (congrArg (fun z => va_P g.1 vwCl [(S, .inr (2, [.ref Sa, .int (nI nd), .int (nI ((zRi wr x e i (zRo wr x e nd i) 0).1)), .int (z), .int ((zRo wr x e nd i).2.2)])), (Sa, .inl (g.2.1.1, 20, .inl (zf wr)))] _) eq_33) hP
        have hD : va_D A [(S, .inr (2, [.ref Sa, .int (nI nd), .int (nI ((zRi wr x e i (zRo wr x e nd i) 0).1)), .int (((zRi wr x e i (zRo wr x e nd i) 0).2.1)), .int ((zRo wr x e nd i).2.2)])), (Sa, .inl (g.2.1.1, 20, .inl (zf wr)))] := Eq.mp (congrArg (fun z => va_D A [(S, .inr (2, [.ref Sa, .int (nI nd), .int (nI ((zRi wr x e i (zRo wr x e nd i) 0).1)), .int (z), .int ((zRo wr x e nd i).2.2)])), (Sa, .inl (g.2.1.1, 20, .inl (zf wr)))]) eq_33) hD
        have eq_34 : (zRo wr x e nd i).2.2 = (zRi wr x e i (zRo wr x e nd i) 0).2.2 := by first | rfl | (congr 1; omega) | (congr 1; simp; done)
        have hP : va_P g.1 vwCl [(S, .inr (2, [.ref Sa, .int (nI nd), .int (nI ((zRi wr x e i (zRo wr x e nd i) 0).1)), .int ((zRi wr x e i (zRo wr x e nd i) 0).2.1), .int (((zRi wr x e i (zRo wr x e nd i) 0).2.2))])), (Sa, .inl (g.2.1.1, 20, .inl (zf wr)))] _ := Eq.mp (congrArg (fun z => va_P g.1 vwCl [(S, .inr (2, [.ref Sa, .int (nI nd), .int (nI ((zRi wr x e i (zRo wr x e nd i) 0).1)), .int ((zRi wr x e i (zRo wr x e nd i) 0).2.1), .int (z)])), (Sa, .inl (g.2.1.1, 20, .inl (zf wr)))] _) eq_34) hP
        have hD : va_D A [(S, .inr (2, [.ref Sa, .int (nI nd), .int (nI ((zRi wr x e i (zRo wr x e nd i) 0).1)), .int ((zRi wr x e i (zRo wr x e nd i) 0).2.1), .int (((zRi wr x e i (zRo wr x e nd i) 0).2.2))])), (Sa, .inl (g.2.1.1, 20, .inl (zf wr)))] := Eq.mp (congrArg (fun z => va_D A [(S, .inr (2, [.ref Sa, .int (nI nd), .int (nI ((zRi wr x e i (zRo wr x e nd i) 0).1)), .int ((zRi wr x e i (zRo wr x e nd i) 0).2.1), .int (z)])), (Sa, .inl (g.2.1.1, 20, .inl (zf wr)))]) eq_34) hD
        have eq_35 : nI i = nI (i + 0) := by first | rfl | (congr 1; omega) | (congr 1; simp; done)
        have hl : lv_has ls 6 [(5, .int (nI (i + 0))), (4, .int 0), (0, .ref S), (1, .int (nI x - nI e)), (2, .int (nI x + nI e)), (3, .int (nI i))] := Eq.mp (congrArg (fun z => lv_has ls 6 [(5, .int (z)), (4, .int 0), (0, .ref S), (1, .int (nI x - nI e)), (2, .int (nI x + nI e)), (3, .int (nI i))]) eq_35) hl
        exact hcut33 ((nd - (i + 0)) + 1) 0 _ _ _ (show i + 0 ≤ nd from by omega) (by omega) hP hD hS (lv_sub hl [2, 3, 4, 5, 1, 0] rfl)
  have hP : va_P g.1 vwCl [(S, .inr (2, [.ref Sa, .int (nI nd), .int (nI ((zRo wr x e nd 0).1)), .int (-9), .int (-9)])), (Sa, .inl (g.2.1.1, 20, .inl (zf wr)))] _ := hP
  have hD : va_D A [(S, .inr (2, [.ref Sa, .int (nI nd), .int (nI ((zRo wr x e nd 0).1)), .int (-9), .int (-9)])), (Sa, .inl (g.2.1.1, 20, .inl (zf wr)))] := hD
  have hP : va_P g.1 vwCl [(S, .inr (2, [.ref Sa, .int (nI nd), .int (nI ((zRo wr x e nd 0).1)), .int ((zRo wr x e nd 0).2.1), .int (-9)])), (Sa, .inl (g.2.1.1, 20, .inl (zf wr)))] _ := hP
  have hD : va_D A [(S, .inr (2, [.ref Sa, .int (nI nd), .int (nI ((zRo wr x e nd 0).1)), .int ((zRo wr x e nd 0).2.1), .int (-9)])), (Sa, .inl (g.2.1.1, 20, .inl (zf wr)))] := hD
  have hP : va_P g.1 vwCl [(S, .inr (2, [.ref Sa, .int (nI nd), .int (nI ((zRo wr x e nd 0).1)), .int ((zRo wr x e nd 0).2.1), .int ((zRo wr x e nd 0).2.2)])), (Sa, .inl (g.2.1.1, 20, .inl (zf wr)))] _ := hP
  have hD : va_D A [(S, .inr (2, [.ref Sa, .int (nI nd), .int (nI ((zRo wr x e nd 0).1)), .int ((zRo wr x e nd 0).2.1), .int ((zRo wr x e nd 0).2.2)])), (Sa, .inl (g.2.1.1, 20, .inl (zf wr)))] := hD
  exact hcut19 ((nd - 0) + 1) 0 _ _ _ (show 0 ≤ nd from by omega) (by omega) hP hD hS (lv_sub hl [1, 2, 3, 0] rfl)
