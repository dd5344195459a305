set_option maxHeartbeats 4000000 in
set_option maxRecDepth 100000 in
theorem c_X5_in (l : Launch) (g : zG) (x : Int32) (a b : Nat) (hab : a < 2147483648 ∧ b < 2147483648) : zI l yX5_in wsX5_in 0 0 g [.int x, .int (nI a), .int (nI b)] [] (fun (r : Int32) (u : Unit) => r = if (a : Int) ≤ x.toInt ∧ x.toInt ≤ (b : Int) then 1 else 0) (fun (u : Unit) => []) := by
  refine zz_bodyI (cc := cX5_in) (nL := 3) (own := RX5) (ty := .boolean) (by decide) rfl rfl (Nat.le_of_ble_eq_true rfl) ?_
  intro pP eE s mM below meth cC A Q ls F hA hK hE hP hD hl hret
  have hS : va_S A s.heap s.heap [] := va_S.rf
  obtain ⟨hx, hb, hml, hown, hts⟩ := id F
  have hl : lv_has ls 3 [(0, .int x), (1, .int (nI a)), (2, .int (nI b))] := hl
  have hlox := zi_lo x
  have hhix := zi_hi x
  refine lv_iload_n hx hb dX5_in_0 rfl (lv_at hl 0 rfl) ?_
  refine lv_iload_n hx hb dX5_in_1 rfl (lv_at hl 1 rfl) ?_
  refine zz_icmp_lt (tgt := 14) hx hb dX5_in_2 (by decide) (zi_self x) (zi_n a) (by omega) (by omega) (fun c_1 => ?_) (fun c_1 => ?_)
  · refine lv_iconst (v := 0) hx hb dX5_in_14 (by decide) ?_
    exact hret 15 _ _ _ 0 () dX5_in_15 rfl hP hD hS (show 0 = if (a : Int) ≤ x.toInt ∧ x.toInt ≤ (b : Int) then 1 else 0 from by first | (exfalso; omega) | (rw [if_pos (by omega)]) | (rw [if_neg (by omega)]))
  · refine lv_iload_n hx hb dX5_in_5 rfl (lv_at hl 0 rfl) ?_
    refine lv_iload_n hx hb dX5_in_6 rfl (lv_at hl 2 rfl) ?_
    refine zz_icmp_gt (tgt := 14) hx hb dX5_in_7 (by decide) (zi_self x) (zi_n b) (by omega) (by omega) (fun c_2 => ?_) (fun c_2 => ?_)
    · refine lv_iconst (v := 0) hx hb dX5_in_14 (by decide) ?_
      exact hret 15 _ _ _ 0 () dX5_in_15 rfl hP hD hS (show 0 = if (a : Int) ≤ x.toInt ∧ x.toInt ≤ (b : Int) then 1 else 0 from by first | (exfalso; omega) | (rw [if_pos (by omega)]) | (rw [if_neg (by omega)]))
    · refine lv_iconst (v := 1) hx hb dX5_in_10 (by decide) ?_
      refine lv_goto (tgt := 15) hx hb dX5_in_11 (by decide) ?_
      exact hret 15 _ _ _ 1 () dX5_in_15 rfl hP hD hS (show 1 = if (a : Int) ≤ x.toInt ∧ x.toInt ≤ (b : Int) then 1 else 0 from by first | (exfalso; omega) | (rw [if_pos (by omega)]) | (rw [if_neg (by omega)]))

set_option maxHeartbeats 4000000 in
set_option maxRecDepth 100000 in
theorem c_X5_in_p (l : Launch) (g : zG) (x : Int32) (n : Nat) (hab : n < 2147483648) : zI l yX5_in wsX5_in 0 0 g [.int x, .int (nI 0), .int (nI n - 1)] [] (fun (r : Int32) (u : Unit) => r = if 0 ≤ x.toInt ∧ x.toInt < (n : Int) then 1 else 0) (fun (u : Unit) => []) := by
  refine zz_bodyI (cc := cX5_in) (nL := 3) (own := RX5) (ty := .boolean) (by decide) rfl rfl (Nat.le_of_ble_eq_true rfl) ?_
  intro pP eE s mM below meth cC A Q ls F hA hK hE hP hD hl hret
  have hS : va_S A s.heap s.heap [] := va_S.rf
  obtain ⟨hx, hb, hml, hown, hts⟩ := id F
  have hl : lv_has ls 3 [(0, .int x), (1, .int (nI 0)), (2, .int (nI n - 1))] := hl
  have hlox := zi_lo x
  have hhix := zi_hi x
  refine lv_iload_n hx hb dX5_in_0 rfl (lv_at hl 0 rfl) ?_
  refine lv_iload_n hx hb dX5_in_1 rfl (lv_at hl 1 rfl) ?_
  refine zz_icmp_lt (tgt := 14) hx hb dX5_in_2 (by decide) (zi_self x) (zi_n 0) (by omega) (by omega) (fun c_1 => ?_) (fun c_1 => ?_)
  · refine lv_iconst (v := 0) hx hb dX5_in_14 (by decide) ?_
    exact hret 15 _ _ _ 0 () dX5_in_15 rfl hP hD hS (show 0 = if 0 ≤ x.toInt ∧ x.toInt < (n : Int) then 1 else 0 from by first | (exfalso; omega) | (rw [if_pos (by omega)]) | (rw [if_neg (by omega)]))
  · refine lv_iload_n hx hb dX5_in_5 rfl (lv_at hl 0 rfl) ?_
    refine lv_iload_n hx hb dX5_in_6 rfl (lv_at hl 2 rfl) ?_
    refine zz_icmp_gt (tgt := 14) hx hb dX5_in_7 (by decide) (zi_self x) (zi_sub (zi_n n) (zi_c 1 rfl)) (by omega) (by omega) (fun c_2 => ?_) (fun c_2 => ?_)
    · refine lv_iconst (v := 0) hx hb dX5_in_14 (by decide) ?_
      exact hret 15 _ _ _ 0 () dX5_in_15 rfl hP hD hS (show 0 = if 0 ≤ x.toInt ∧ x.toInt < (n : Int) then 1 else 0 from by first | (exfalso; omega) | (rw [if_pos (by omega)]) | (rw [if_neg (by omega)]))
    · refine lv_iconst (v := 1) hx hb dX5_in_10 (by decide) ?_
      refine lv_goto (tgt := 15) hx hb dX5_in_11 (by decide) ?_
      exact hret 15 _ _ _ 1 () dX5_in_15 rfl hP hD hS (show 1 = if 0 ≤ x.toInt ∧ x.toInt < (n : Int) then 1 else 0 from by first | (exfalso; omega) | (rw [if_pos (by omega)]) | (rw [if_neg (by omega)]))

set_option maxHeartbeats 4000000 in
set_option maxRecDepth 100000 in
theorem c_X5_clear (l : Launch) (g : zG) (M Mt Mc Mp Mw My Mm Mh Mk Mo Ms Mi Mb Me Md : Nat) (mt : Int64) (ty xa xs xo xv xh dy : Nat) (xf : Int32) : zI l yX5_clear wsX5_clear 0 0 g [.ref M] [(M, .inr (5, [.long mt, .ref Mt, .int (nI ty), .ref Mc, .ref Mp, .ref Mw, .ref My, .ref Mm, .ref Mh, .ref Mk, .ref Mo, .int (nI xa), .int (nI xs), .int (nI xo), .int (nI xv), .int xf, .int (nI xh), .ref Ms, .ref Mi, .ref Mb, .ref Me, .int (nI dy), .ref Md]))] (fun (r : Int32) (u : Unit) => r = nI ty) (fun (u : Unit) => [(M, .inr (5, [.long mt, .ref Mt, .int (nI 0), .ref Mc, .ref Mp, .ref Mw, .ref My, .ref Mm, .ref Mh, .ref Mk, .ref Mo, .int (nI xa), .int (nI xs), .int (nI xo), .int (nI xv), .int xf, .int (nI xh), .ref Ms, .ref Mi, .ref Mb, .ref Me, .int (nI dy), .ref Md]))]) := by
  refine zz_bodyI (cc := cX5_clear) (nL := 2) (own := RX5) (ty := .int) (by decide) rfl rfl (Nat.le_of_ble_eq_true rfl) ?_
  intro pP eE s mM below meth cC A Q ls F hA hK hE hP hD hl hret
  have hS : va_S A s.heap s.heap [] := va_S.rf
  obtain ⟨hx, hb, hml, hown, hts⟩ := id F
  have hiX5 : ∀ w ∈ u_ws RX5 TX5 23, w ∈ wsX5_clear := by decide +kernel
  have hf0 := hts (.fieldLink RX5 58 "StepClockModel" "typed" "I") (by decide +kernel)
  have hl : lv_has ls 2 [(0, .ref M)] := hl
  refine lv_aload_n hx hb dX5_clear_0 rfl (lv_at hl 0 rfl) ?_
  refine va_get (D := g.1) (ci := 5) (v := .int (nI ty)) (C := RX5) (T := TX5) (N := 23) hx hb hts hiX5 hown hK.1 hP 0 rfl rfl 2 (by decide) hf0 (fun _ h9 => h9) rfl dX5_clear_1 ?_
  refine lv_istore_n (lv' := [(1, .int (nI ty)), (0, .ref M)]) hx hb dX5_clear_4 rfl hl (by decide) rfl (fun ls hl => ?_)
  refine lv_aload_n hx hb dX5_clear_5 rfl (lv_at hl 1 rfl) ?_
  refine lv_iconst (v := 0) hx hb dX5_clear_6 (by decide) ?_
  refine va_put (D := g.1) (ci := 5) (v := .int 0) (ty := .int) (C := RX5) (T := TX5) (N := 23) hx hb hts hiX5 tyX5 tyX5_ok nmX5 hown hK.1 hP hD hS 0 rfl rfl 2 (by decide) hf0 (fun _ h9 => h9) rfl (by decide +kernel) rfl rfl (Nat.le_of_ble_eq_true rfl) dX5_clear_7 (fun H locs hP hD hS => ?_)
  have hP : va_P g.1 vwCl [(M, .inr (5, [.long mt, .ref Mt, .int 0, .ref Mc, .ref Mp, .ref Mw, .ref My, .ref Mm, .ref Mh, .ref Mk, .ref Mo, .int (nI xa), .int (nI xs), .int (nI xo), .int (nI xv), .int xf, .int (nI xh), .ref Ms, .ref Mi, .ref Mb, .ref Me, .int (nI dy), .ref Md]))] _ := hP
  have hD : va_D A [(M, .inr (5, [.long mt, .ref Mt, .int 0, .ref Mc, .ref Mp, .ref Mw, .ref My, .ref Mm, .ref Mh, .ref Mk, .ref Mo, .int (nI xa), .int (nI xs), .int (nI xo), .int (nI xv), .int xf, .int (nI xh), .ref Ms, .ref Mi, .ref Mb, .ref Me, .int (nI dy), .ref Md]))] := hD
  refine lv_iload_n hx hb dX5_clear_10 rfl (lv_at hl 0 rfl) ?_
  have hP : va_P g.1 vwCl [(M, .inr (5, [.long mt, .ref Mt, .int (nI 0), .ref Mc, .ref Mp, .ref Mw, .ref My, .ref Mm, .ref Mh, .ref Mk, .ref Mo, .int (nI xa), .int (nI xs), .int (nI xo), .int (nI xv), .int xf, .int (nI xh), .ref Ms, .ref Mi, .ref Mb, .ref Me, .int (nI dy), .ref Md]))] _ := hP
  have hD : va_D A [(M, .inr (5, [.long mt, .ref Mt, .int (nI 0), .ref Mc, .ref Mp, .ref Mw, .ref My, .ref Mm, .ref Mh, .ref Mk, .ref Mo, .int (nI xa), .int (nI xs), .int (nI xo), .int (nI xv), .int xf, .int (nI xh), .ref Ms, .ref Mi, .ref Mb, .ref Me, .int (nI dy), .ref Md]))] := hD
  exact hret 11 _ _ _ (nI ty) () dX5_clear_11 rfl hP hD hS (show (nI ty) = nI ty from by rfl)

set_option maxHeartbeats 4000000 in
set_option maxRecDepth 100000 in
theorem c_X5_isPerson (l : Launch) (g : zG) (M Mt Mc Mp Mw My Mm Mh Mk Mo Ms Mi Mb Me Md : Nat) (mt : Int64) (ty xa xs xo xv xh dy : Nat) (xf : Int32) (pe : Nat → Nat) (x : Int32) (hpe : pe 0 ≤ 6) : zI l yX5_isPerson wsX5_isPerson 1 22 g [.ref M, .int x] [(M, .inr (5, [.long mt, .ref Mt, .int (nI ty), .ref Mc, .ref Mp, .ref Mw, .ref My, .ref Mm, .ref Mh, .ref Mk, .ref Mo, .int (nI xa), .int (nI xs), .int (nI xo), .int (nI xv), .int xf, .int (nI xh), .ref Ms, .ref Mi, .ref Mb, .ref Me, .int (nI dy), .ref Md])), (Mp, .inl (g.2.1.1, 2, .inl (zf pe)))] (fun (r : Int32) (u : Unit) => r = if 0 ≤ x.toInt ∧ x.toInt < (pe 0 : Int) then 1 else 0) (fun (u : Unit) => [(M, .inr (5, [.long mt, .ref Mt, .int (nI ty), .ref Mc, .ref Mp, .ref Mw, .ref My, .ref Mm, .ref Mh, .ref Mk, .ref Mo, .int (nI xa), .int (nI xs), .int (nI xo), .int (nI xv), .int xf, .int (nI xh), .ref Ms, .ref Mi, .ref Mb, .ref Me, .int (nI dy), .ref Md])), (Mp, .inl (g.2.1.1, 2, .inl (zf pe)))]) := by
  refine zz_bodyI (cc := cX5_isPerson) (nL := 2) (own := RX5) (ty := .boolean) (by decide) rfl rfl (Nat.le_of_ble_eq_true rfl) ?_
  intro pP eE s mM below meth cC A Q ls F hA hK hE hP hD hl hret
  have hS : va_S A s.heap s.heap [] := va_S.rf
  obtain ⟨hx, hb, hml, hown, hts⟩ := id F
  have hiX5 : ∀ w ∈ u_ws RX5 TX5 23, w ∈ wsX5_isPerson := by decide +kernel
  have hf0 := hts (.fieldLink RX5 17 "StepClockModel" "people" "[I") (by decide +kernel)
  have hl : lv_has ls 2 [(0, .ref M), (1, .int x)] := hl
  refine lv_iload_n hx hb dX5_isPerson_0 rfl (lv_at hl 1 rfl) ?_
  refine lv_iconst (v := 0) hx hb dX5_isPerson_1 (by decide) ?_
  refine lv_aload_n hx hb dX5_isPerson_2 rfl (lv_at hl 0 rfl) ?_
  refine va_get (D := g.1) (ci := 5) (v := .ref Mp) (C := RX5) (T := TX5) (N := 23) hx hb hts hiX5 hown hK.1 hP 0 rfl rfl 4 (by decide) hf0 (fun _ h9 => h9) rfl dX5_isPerson_3 ?_
  refine lv_iconst (v := 0) hx hb dX5_isPerson_6 (by decide) ?_
  refine zz_iald hx hb hK.1 hP 1 0 rfl rfl 0 (zi_eq (zi_c 0 rfl) (zi_n 0) (by omega)) (by omega) (by decide) dX5_isPerson_7 ?_
  refine lv_iconst (v := 1) hx hb dX5_isPerson_8 (by decide) ?_
  refine lv_isub hx hb dX5_isPerson_9 ?_
  refine zz_callSI (wr := [(M, .inr (5, [.long mt, .ref Mt, .int (nI ty), .ref Mc, .ref Mp, .ref Mw, .ref My, .ref Mm, .ref Mh, .ref Mk, .ref Mo, .int (nI xa), .int (nI xs), .int (nI xo), .int (nI xv), .int xf, .int (nI xh), .ref Ms, .ref Mi, .ref Mb, .ref Me, .int (nI dy), .ref Md])), (Mp, .inl (g.2.1.1, 2, .inl (zf pe)))]) (wc := []) (As := [.int x, .int (nI 0), .int ((nI (pe 0)) - 1)]) (rest := []) F hK hE hA hP hD hS (c_X5_in_p l g (x := x) (n := (pe 0)) (hab := by first | assumption | omega)) (va_cwS 3 hts gX5_isPerson_X5_in rfl rfl rfl (by decide +kernel) ⟨Nat.le_of_ble_eq_true rfl, Nat.le_of_ble_eq_true rfl⟩) [] [0, 1] rfl rfl (by decide) (by decide) (by decide) rfl rfl hl.1 (Nat.le_of_ble_eq_true rfl) dX5_isPerson_10 ⟨Nat.le_of_ble_eq_true rfl, Nat.le_of_ble_eq_true rfl⟩ (fun r_1 u_1 H locs hw hP hD hS => ?_)
  have hP : va_P g.1 vwCl [(M, .inr (5, [.long mt, .ref Mt, .int (nI ty), .ref Mc, .ref Mp, .ref Mw, .ref My, .ref Mm, .ref Mh, .ref Mk, .ref Mo, .int (nI xa), .int (nI xs), .int (nI xo), .int (nI xv), .int xf, .int (nI xh), .ref Ms, .ref Mi, .ref Mb, .ref Me, .int (nI dy), .ref Md])), (Mp, .inl (g.2.1.1, 2, .inl (zf pe)))] _ := hP
  have hD : va_D A [(M, .inr (5, [.long mt, .ref Mt, .int (nI ty), .ref Mc, .ref Mp, .ref Mw, .ref My, .ref Mm, .ref Mh, .ref Mk, .ref Mo, .int (nI xa), .int (nI xs), .int (nI xo), .int (nI xv), .int xf, .int (nI xh), .ref Ms, .ref Mi, .ref Mb, .ref Me, .int (nI dy), .ref Md])), (Mp, .inl (g.2.1.1, 2, .inl (zf pe)))] := hD
  have hr_1 := hw
  have hr_1 : r_1 = if 0 ≤ x.toInt ∧ x.toInt < ((pe 0) : Int) then 1 else 0 := hr_1
  by_cases b_2 : 0 ≤ x.toInt ∧ x.toInt < ((pe 0) : Int)
  · rw [if_pos b_2] at hr_1
    subst hr_1
    exact hret 13 _ _ _ 1 () dX5_isPerson_13 rfl hP hD hS (show 1 = if 0 ≤ x.toInt ∧ x.toInt < (pe 0 : Int) then 1 else 0 from by first | (exfalso; omega) | (rw [if_pos (by omega)]) | (rw [if_neg (by omega)]))
  · rw [if_neg b_2] at hr_1
    subst hr_1
    exact hret 13 _ _ _ 0 () dX5_isPerson_13 rfl hP hD hS (show 0 = if 0 ≤ x.toInt ∧ x.toInt < (pe 0 : Int) then 1 else 0 from by first | (exfalso; omega) | (rw [if_pos (by omega)]) | (rw [if_neg (by omega)]))

set_option maxHeartbeats 4000000 in
set_option maxRecDepth 100000 in
theorem c_X5_hourOf (l : Launch) (g : zG) (M Mt Mc Mp Mw My Mm Mh Mk Mo Ms Mi Mb Me Md : Nat) (mt : Int64) (ty xa xs xo xv xh dy : Nat) (xf : Int32) (ck : Nat → Nat) (sd : Nat → Nat) (q : Nat) (hq : q ≤ 81) (hck : 0 < ck 0 ∧ ck 0 < 2147483648) (hsd : sd (q + 1) < 2147483648) : zI l yX5_hourOf wsX5_hourOf 0 0 g [.ref M, .int (nI q)] [(M, .inr (5, [.long mt, .ref Mt, .int (nI ty), .ref Mc, .ref Mp, .ref Mw, .ref My, .ref Mm, .ref Mh, .ref Mk, .ref Mo, .int (nI xa), .int (nI xs), .int (nI xo), .int (nI xv), .int xf, .int (nI xh), .ref Ms, .ref Mi, .ref Mb, .ref Me, .int (nI dy), .ref Md])), (Mc, .inl (g.2.1.1, 2, .inl (zf ck))), (Ms, .inl (g.2.1.1, 108, .inl (zf sd)))] (fun (r : Int32) (u : Unit) => r = nI (sd (q + 1) / ck 0)) (fun (u : Unit) => [(M, .inr (5, [.long mt, .ref Mt, .int (nI ty), .ref Mc, .ref Mp, .ref Mw, .ref My, .ref Mm, .ref Mh, .ref Mk, .ref Mo, .int (nI xa), .int (nI xs), .int (nI xo), .int (nI xv), .int xf, .int (nI xh), .ref Ms, .ref Mi, .ref Mb, .ref Me, .int (nI dy), .ref Md])), (Mc, .inl (g.2.1.1, 2, .inl (zf ck))), (Ms, .inl (g.2.1.1, 108, .inl (zf sd)))]) := by
  refine zz_bodyI (cc := cX5_hourOf) (nL := 2) (own := RX5) (ty := .int) (by decide) rfl rfl (Nat.le_of_ble_eq_true rfl) ?_
  intro pP eE s mM below meth cC A Q ls F hA hK hE hP hD hl hret
  have hS : va_S A s.heap s.heap [] := va_S.rf
  obtain ⟨hx, hb, hml, hown, hts⟩ := id F
  have hiX5 : ∀ w ∈ u_ws RX5 TX5 23, w ∈ wsX5_hourOf := by decide +kernel
  have hf0 := hts (.fieldLink RX5 38 "StepClockModel" "stand" "[I") (by decide +kernel)
  have hf1 := hts (.fieldLink RX5 13 "StepClockModel" "clocks" "[I") (by decide +kernel)
  have hl : lv_has ls 2 [(0, .ref M), (1, .int (nI q))] := hl
  refine lv_aload_n hx hb dX5_hourOf_0 rfl (lv_at hl 0 rfl) ?_
  refine va_get (D := g.1) (ci := 5) (v := .ref Ms) (C := RX5) (T := TX5) (N := 23) hx hb hts hiX5 hown hK.1 hP 0 rfl rfl 17 (by decide) hf0 (fun _ h9 => h9) rfl dX5_hourOf_1 ?_
  refine lv_iload_n hx hb dX5_hourOf_4 rfl (lv_at hl 1 rfl) ?_
  refine lv_iconst (v := 1) hx hb dX5_hourOf_5 (by decide) ?_
  refine lv_iadd hx hb dX5_hourOf_6 ?_
  refine zz_iald hx hb hK.1 hP 2 0 rfl rfl (q + 1) (zi_eq (zi_add (zi_n q) (zi_c 1 rfl)) (zi_n (q + 1)) (by omega)) (by omega) (by decide) dX5_hourOf_7 ?_
  refine lv_aload_n hx hb dX5_hourOf_8 rfl (lv_at hl 0 rfl) ?_
  refine va_get (D := g.1) (ci := 5) (v := .ref Mc) (C := RX5) (T := TX5) (N := 23) hx hb hts hiX5 hown hK.1 hP 0 rfl rfl 3 (by decide) hf1 (fun _ h9 => h9) rfl dX5_hourOf_9 ?_
  refine lv_iconst (v := 0) hx hb dX5_hourOf_12 (by decide) ?_
  refine zz_iald hx hb hK.1 hP 1 0 rfl rfl 0 (zi_eq (zi_c 0 rfl) (zi_n 0) (by omega)) (by omega) (by decide) dX5_hourOf_13 ?_
  refine lv_idiv hx hb dX5_hourOf_14 (nI_ne0 (by omega) (by omega)) ?_
  exact hret 15 _ _ _ ((nI (sd (q + 1))) / (nI (ck 0))) () dX5_hourOf_15 rfl hP hD hS (show ((nI (sd (q + 1))) / (nI (ck 0))) = nI (sd (q + 1) / ck 0) from by exact pk_div (by omega) (by omega) (by omega))

set_option maxHeartbeats 4000000 in
set_option maxRecDepth 100000 in
theorem c_X5_begin (l : Launch) (g : zG) (M Mt Mc Mp Mw My Mm Mh Mk Mo Ms Mi Mb Me Md : Nat) (mt : Int64) (ty xa xs xo xv xh dy : Nat) (xf : Int32) (sd : Nat → Nat) (q : Nat) (si : Nat) (hq : q ≤ 81) : zV l yX5_begin wsX5_begin 0 0 0 0 g [.ref M, .int (nI q), .int (nI si)] [(M, .inr (5, [.long mt, .ref Mt, .int (nI ty), .ref Mc, .ref Mp, .ref Mw, .ref My, .ref Mm, .ref Mh, .ref Mk, .ref Mo, .int (nI xa), .int (nI xs), .int (nI xo), .int (nI xv), .int xf, .int (nI xh), .ref Ms, .ref Mi, .ref Mb, .ref Me, .int (nI dy), .ref Md])), (Ms, .inl (g.2.1.1, 108, .inl (zf sd)))] (fun (u : Unit) => True) (fun (u : Unit) => [(M, .inr (5, [.long mt, .ref Mt, .int (nI ty), .ref Mc, .ref Mp, .ref Mw, .ref My, .ref Mm, .ref Mh, .ref Mk, .ref Mo, .int (nI xa), .int (nI xs), .int (nI xo), .int (nI xv), .int xf, .int (nI xh), .ref Ms, .ref Mi, .ref Mb, .ref Me, .int (nI dy), .ref Md])), (Ms, .inl (g.2.1.1, 108, .inl (zf (zu (zBeg sd q 27) (q + 2) si))))]) := by
  refine zz_bodyV (cc := cX5_begin) (nL := 4) (own := RX5) (by decide) rfl rfl (Nat.le_of_ble_eq_true rfl) ?_
  intro pP eE s mM below meth cC A Q ls F hin hA hK hE hP hD hl hret
  have hS : va_S A s.heap s.heap [] := va_S.rf
  obtain ⟨hx, hb, hml, hown, hts⟩ := id F
  have hiX5 : ∀ w ∈ u_ws RX5 TX5 23, w ∈ wsX5_begin := by decide +kernel
  have hf0 := hts (.fieldLink RX5 38 "StepClockModel" "stand" "[I") (by decide +kernel)
  have hl : lv_has ls 4 [(0, .ref M), (1, .int (nI q)), (2, .int (nI si))] := hl
  refine lv_iconst (v := 0) hx hb dX5_begin_0 (by decide) ?_
  refine lv_istore_n (lv' := [(3, .int 0), (0, .ref M), (1, .int (nI q)), (2, .int (nI si))]) hx hb dX5_begin_1 rfl hl (by decide) rfl (fun ls hl => ?_)
  have hcut2 : ∀ (fu : Nat) (i : Nat) (H : Heap) (locs : List Loc) (ls : Array Slot), (i ≤ 27) → (27 - i) < fu → va_P g.1 vwCl [(M, .inr (5, [.long mt, .ref Mt, .int (nI ty), .ref Mc, .ref Mp, .ref Mw, .ref My, .ref Mm, .ref Mh, .ref Mk, .ref Mo, .int (nI xa), .int (nI xs), .int (nI xo), .int (nI xv), .int xf, .int (nI xh), .ref Ms, .ref Mi, .ref Mb, .ref Me, .int (nI dy), .ref Md])), (Ms, .inl (g.2.1.1, 108, .inl (zf (zBeg sd q i))))] H → va_D A [(M, .inr (5, [.long mt, .ref Mt, .int (nI ty), .ref Mc, .ref Mp, .ref Mw, .ref My, .ref Mm, .ref Mh, .ref Mk, .ref Mo, .int (nI xa), .int (nI xs), .int (nI xo), .int (nI xv), .int xf, .int (nI xh), .ref Ms, .ref Mi, .ref Mb, .ref Me, .int (nI dy), .ref Md])), (Ms, .inl (g.2.1.1, 108, .inl (zf (zBeg sd q i))))] → va_S A s.heap H locs → lv_has ls 4 [(0, .ref M), (1, .int (nI q)), (2, .int (nI si)), (3, .int (nI i))] → W pP l eE { frames := 0, cells := 0, slots := 0, locals := 0 } s mM ([.ref M, .int (nI q), .int (nI si)] : List Value).toArray below meth cC H locs 0 0 Q (F0 mM 2 ls []) := by
    intro fu
    induction fu with
    | zero =>
      intro i H locs ls hi hm
      exact absurd hm (Nat.not_lt_zero _)
    | succ fu ih2 =>
      intro i H locs ls hi hm hP hD hS hl
      refine lv_iload_n hx hb dX5_begin_2 rfl (lv_at hl 3 rfl) ?_
      refine lv_bipush (v := 27) hx hb dX5_begin_3 (by decide) ?_
      refine zz_icmp_ge (tgt := 23) hx hb dX5_begin_5 (by decide) (zi_n i) (zi_c 27 rfl) (by omega) (by omega) (fun c_1 => ?_) (fun c_1 => ?_)
      · refine lv_aload_n hx hb dX5_begin_23 rfl (lv_at hl 0 rfl) ?_
        refine va_get (D := g.1) (ci := 5) (v := .ref Ms) (C := RX5) (T := TX5) (N := 23) hx hb hts hiX5 hown hK.1 hP 0 rfl rfl 17 (by decide) hf0 (fun _ h9 => h9) rfl dX5_begin_24 ?_
        refine lv_iload_n hx hb dX5_begin_27 rfl (lv_at hl 1 rfl) ?_
        refine lv_iconst (v := 2) hx hb dX5_begin_28 (by decide) ?_
        refine lv_iadd hx hb dX5_begin_29 ?_
        refine lv_iload_n hx hb dX5_begin_30 rfl (lv_at hl 2 rfl) ?_
        refine zz_iast hx hb hK.1 hP hD hS 1 0 rfl rfl (q + 2) (zi_eq (zi_add (zi_n q) (zi_c 2 rfl)) (zi_n (q + 2)) (by omega)) (by omega) (by decide) dX5_begin_31 (fun H locs hP hD hS => ?_)
        have hP : va_P g.1 vwCl [(M, .inr (5, [.long mt, .ref Mt, .int (nI ty), .ref Mc, .ref Mp, .ref Mw, .ref My, .ref Mm, .ref Mh, .ref Mk, .ref Mo, .int (nI xa), .int (nI xs), .int (nI xo), .int (nI xv), .int xf, .int (nI xh), .ref Ms, .ref Mi, .ref Mb, .ref Me, .int (nI dy), .ref Md])), (Ms, .inl (g.2.1.1, 108, .inl (upd (zf (zBeg sd q i)) (q + 2) (nI si))))] _ := hP
        have hD : va_D A [(M, .inr (5, [.long mt, .ref Mt, .int (nI ty), .ref Mc, .ref Mp, .ref Mw, .ref My, .ref Mm, .ref Mh, .ref Mk, .ref Mo, .int (nI xa), .int (nI xs), .int (nI xo), .int (nI xv), .int xf, .int (nI xh), .ref Ms, .ref Mi, .ref Mb, .ref Me, .int (nI dy), .ref Md])), (Ms, .inl (g.2.1.1, 108, .inl (upd (zf (zBeg sd q i)) (q + 2) (nI si))))] := hD
        rw [zf_upd] at hP hD
        have eq_2 : (zu (zBeg sd q i) (q + 2) si) = (zu (zBeg sd q 27) (q + 2) si) := by (rw [show i = 27 by omega])
        have hP : va_P g.1 vwCl [(M, .inr (5, [.long mt, .ref Mt, .int (nI ty), .ref Mc, .ref Mp, .ref Mw, .ref My, .ref Mm, .ref Mh, .ref Mk, .ref Mo, .int (nI xa), .int (nI xs), .int (nI xo), .int (nI xv), .int xf, .int (nI xh), .ref Ms, .ref Mi, .ref Mb, .ref Me, .int (nI dy), .ref Md])), (Ms, .inl (g.2.1.1, 108, .inl (zf (zu (zBeg sd q 27) (q + 2) si))))] _ := Eq.mp (congrArg (fun z => va_P g.1 vwCl [(M, .inr (5, [.long mt, .ref Mt, .int (nI ty), .ref Mc, .ref Mp, .ref Mw, .ref My, .ref Mm, .ref Mh, .ref Mk, .ref Mo, .int (nI xa), .int (nI xs), .int (nI xo), .int (nI xv), .int xf, .int (nI xh), .ref Ms, .ref Mi, .ref Mb, .ref Me, .int (nI dy), .ref Md])), (Ms, .inl (g.2.1.1, 108, .inl (zf z)))] _) eq_2) hP
        have hD : va_D A [(M, .inr (5, [.long mt, .ref Mt, .int (nI ty), .ref Mc, .ref Mp, .ref Mw, .ref My, .ref Mm, .ref Mh, .ref Mk, .ref Mo, .int (nI xa), .int (nI xs), .int (nI xo), .int (nI xv), .int xf, .int (nI xh), .ref Ms, .ref Mi, .ref Mb, .ref Me, .int (nI dy), .ref Md])), (Ms, .inl (g.2.1.1, 108, .inl (zf (zu (zBeg sd q 27) (q + 2) si))))] := Eq.mp (congrArg (fun z => va_D A [(M, .inr (5, [.long mt, .ref Mt, .int (nI ty), .ref Mc, .ref Mp, .ref Mw, .ref My, .ref Mm, .ref Mh, .ref Mk, .ref Mo, .int (nI xa), .int (nI xs), .int (nI xo), .int (nI xv), .int xf, .int (nI xh), .ref Ms, .ref Mi, .ref Mb, .ref Me, .int (nI dy), .ref Md])), (Ms, .inl (g.2.1.1, 108, .inl (zf z)))]) eq_2) hD
        exact hret 32 _ _ _ () dX5_begin_32 hP hD hS (show True from by trivial)
      · refine lv_aload_n hx hb dX5_begin_8 rfl (lv_at hl 0 rfl) ?_
        refine va_get (D := g.1) (ci := 5) (v := .ref Ms) (C := RX5) (T := TX5) (N := 23) hx hb hts hiX5 hown hK.1 hP 0 rfl rfl 17 (by decide) hf0 (fun _ h9 => h9) rfl dX5_begin_9 ?_
        refine lv_iload_n hx hb dX5_begin_12 rfl (lv_at hl 1 rfl) ?_
        refine lv_iload_n hx hb dX5_begin_13 rfl (lv_at hl 3 rfl) ?_
        refine lv_iadd hx hb dX5_begin_14 ?_
        refine lv_iconst (v := 0) hx hb dX5_begin_15 (by decide) ?_
        refine zz_iast hx hb hK.1 hP hD hS 1 0 rfl rfl (q + i) (zi_eq (zi_add (zi_n q) (zi_n i)) (zi_n (q + i)) (by omega)) (by omega) (by decide) dX5_begin_16 (fun H locs hP hD hS => ?_)
        have hP : va_P g.1 vwCl [(M, .inr (5, [.long mt, .ref Mt, .int (nI ty), .ref Mc, .ref Mp, .ref Mw, .ref My, .ref Mm, .ref Mh, .ref Mk, .ref Mo, .int (nI xa), .int (nI xs), .int (nI xo), .int (nI xv), .int xf, .int (nI xh), .ref Ms, .ref Mi, .ref Mb, .ref Me, .int (nI dy), .ref Md])), (Ms, .inl (g.2.1.1, 108, .inl (upd (zf (zBeg sd q i)) (q + i) (nI 0))))] _ := hP
        have hD : va_D A [(M, .inr (5, [.long mt, .ref Mt, .int (nI ty), .ref Mc, .ref Mp, .ref Mw, .ref My, .ref Mm, .ref Mh, .ref Mk, .ref Mo, .int (nI xa), .int (nI xs), .int (nI xo), .int (nI xv), .int xf, .int (nI xh), .ref Ms, .ref Mi, .ref Mb, .ref Me, .int (nI dy), .ref Md])), (Ms, .inl (g.2.1.1, 108, .inl (upd (zf (zBeg sd q i)) (q + i) (nI 0))))] := hD
        rw [zf_upd] at hP hD
        refine lv_iinc (v := nI (i + 1)) (lv' := [(3, .int (nI (i + 1))), (0, .ref M), (1, .int (nI q)), (2, .int (nI si))]) hx hb dX5_begin_17 hl (k := 3) rfl (zi_eq (zi_add (zi_n i) (zi_c 1 rfl)) (zi_n (i + 1)) (by omega)) (by decide) rfl (fun ls hl => ?_)
        refine lv_goto (tgt := 2) hx hb dX5_begin_20 (by decide) ?_
        have eq_3 : (zu (zBeg sd q i) (q + i) 0) = (zBeg sd q (i + 1)) := by exact zBeg_s sd q i
        have hP : va_P g.1 vwCl [(M, .inr (5, [.long mt, .ref Mt, .int (nI ty), .ref Mc, .ref Mp, .ref Mw, .ref My, .ref Mm, .ref Mh, .ref Mk, .ref Mo, .int (nI xa), .int (nI xs), .int (nI xo), .int (nI xv), .int xf, .int (nI xh), .ref Ms, .ref Mi, .ref Mb, .ref Me, .int (nI dy), .ref Md])), (Ms, .inl (g.2.1.1, 108, .inl (zf (zBeg sd q (i + 1)))))] _ := Eq.mp (congrArg (fun z => va_P g.1 vwCl [(M, .inr (5, [.long mt, .ref Mt, .int (nI ty), .ref Mc, .ref Mp, .ref Mw, .ref My, .ref Mm, .ref Mh, .ref Mk, .ref Mo, .int (nI xa), .int (nI xs), .int (nI xo), .int (nI xv), .int xf, .int (nI xh), .ref Ms, .ref Mi, .ref Mb, .ref Me, .int (nI dy), .ref Md])), (Ms, .inl (g.2.1.1, 108, .inl (zf z)))] _) eq_3) hP
        have hD : va_D A [(M, .inr (5, [.long mt, .ref Mt, .int (nI ty), .ref Mc, .ref Mp, .ref Mw, .ref My, .ref Mm, .ref Mh, .ref Mk, .ref Mo, .int (nI xa), .int (nI xs), .int (nI xo), .int (nI xv), .int xf, .int (nI xh), .ref Ms, .ref Mi, .ref Mb, .ref Me, .int (nI dy), .ref Md])), (Ms, .inl (g.2.1.1, 108, .inl (zf (zBeg sd q (i + 1)))))] := Eq.mp (congrArg (fun z => va_D A [(M, .inr (5, [.long mt, .ref Mt, .int (nI ty), .ref Mc, .ref Mp, .ref Mw, .ref My, .ref Mm, .ref Mh, .ref Mk, .ref Mo, .int (nI xa), .int (nI xs), .int (nI xo), .int (nI xv), .int xf, .int (nI xh), .ref Ms, .ref Mi, .ref Mb, .ref Me, .int (nI dy), .ref Md])), (Ms, .inl (g.2.1.1, 108, .inl (zf z)))]) eq_3) hD
        exact ih2 (i + 1) _ _ _ (show (i + 1) ≤ 27 from by omega) (by omega) hP hD hS (lv_sub hl [1, 2, 3, 0] rfl)
  have eq_4 : sd = (zBeg sd q 0) := by exact (zBeg_0 sd q).symm
  have hP : va_P g.1 vwCl [(M, .inr (5, [.long mt, .ref Mt, .int (nI ty), .ref Mc, .ref Mp, .ref Mw, .ref My, .ref Mm, .ref Mh, .ref Mk, .ref Mo, .int (nI xa), .int (nI xs), .int (nI xo), .int (nI xv), .int xf, .int (nI xh), .ref Ms, .ref Mi, .ref Mb, .ref Me, .int (nI dy), .ref Md])), (Ms, .inl (g.2.1.1, 108, .inl (zf (zBeg sd q 0))))] _ := Eq.mp (congrArg (fun z => va_P g.1 vwCl [(M, .inr (5, [.long mt, .ref Mt, .int (nI ty), .ref Mc, .ref Mp, .ref Mw, .ref My, .ref Mm, .ref Mh, .ref Mk, .ref Mo, .int (nI xa), .int (nI xs), .int (nI xo), .int (nI xv), .int xf, .int (nI xh), .ref Ms, .ref Mi, .ref Mb, .ref Me, .int (nI dy), .ref Md])), (Ms, .inl (g.2.1.1, 108, .inl (zf z)))] _) eq_4) hP
  have hD : va_D A [(M, .inr (5, [.long mt, .ref Mt, .int (nI ty), .ref Mc, .ref Mp, .ref Mw, .ref My, .ref Mm, .ref Mh, .ref Mk, .ref Mo, .int (nI xa), .int (nI xs), .int (nI xo), .int (nI xv), .int xf, .int (nI xh), .ref Ms, .ref Mi, .ref Mb, .ref Me, .int (nI dy), .ref Md])), (Ms, .inl (g.2.1.1, 108, .inl (zf (zBeg sd q 0))))] := Eq.mp (congrArg (fun z => va_D A [(M, .inr (5, [.long mt, .ref Mt, .int (nI ty), .ref Mc, .ref Mp, .ref Mw, .ref My, .ref Mm, .ref Mh, .ref Mk, .ref Mo, .int (nI xa), .int (nI xs), .int (nI xo), .int (nI xv), .int xf, .int (nI xh), .ref Ms, .ref Mi, .ref Mb, .ref Me, .int (nI dy), .ref Md])), (Ms, .inl (g.2.1.1, 108, .inl (zf z)))]) eq_4) hD
  exact hcut2 ((27 - 0) + 1) 0 _ _ _ (show 0 ≤ 27 from by omega) (by omega) hP hD hS (lv_sub hl [1, 2, 3, 0] rfl)
