set_option maxHeartbeats 4000000 in
set_option maxRecDepth 100000 in
theorem c_X5_isSitting (l : Launch) (g : zG) (M Mt Mc Mp Mw My Mm Mh Mk Mo Ms Mi Mb Me Md : Nat) (mt : Int64) (ty xa xs xo xv xh dy : Nat) (xf : Int32) (sd : Nat → Nat) (q : Nat) (p : Nat) (hq : q ≤ 81) (hp6 : p < 6) (hsd : sd (q + 2) < 2147483648) : zI l yX5_isSitting wsX5_isSitting 0 0 g [.ref M, .int (nI q), .int (nI p)] [(M, .inr (5, [.long mt, .ref Mt, .int (nI ty), .ref Mc, .ref Mp, .ref Mw, .ref My, .ref Mm, .ref Mh, .ref Mk, .ref Mo, .int (nI xa), .int (nI xs), .int (nI xo), .int (nI xv), .int xf, .int (nI xh), .ref Ms, .ref Mi, .ref Mb, .ref Me, .int (nI dy), .ref Md])), (Ms, .inl (g.2.1.1, 108, .inl (zf sd)))] (fun (r : Int32) (u : Unit) => r = if zbit (sd (q + 2)) p = 1 then 1 else 0) (fun (u : Unit) => [(M, .inr (5, [.long mt, .ref Mt, .int (nI ty), .ref Mc, .ref Mp, .ref Mw, .ref My, .ref Mm, .ref Mh, .ref Mk, .ref Mo, .int (nI xa), .int (nI xs), .int (nI xo), .int (nI xv), .int xf, .int (nI xh), .ref Ms, .ref Mi, .ref Mb, .ref Me, .int (nI dy), .ref Md])), (Ms, .inl (g.2.1.1, 108, .inl (zf sd)))]) := by
  refine zz_bodyI (cc := cX5_isSitting) (nL := 3) (own := RX5) (ty := .boolean) (by decide) rfl rfl (Nat.le_of_ble_eq_true rfl) ?_
  intro pP eE s mM below meth cC A Q ls F hA hK hE hP hD hl hret
  have hS : va_S A s.heap s.heap [] := va_S.rf
  obtain ⟨hx, hb, hml, hown, hts⟩ := id F
  have hiX5 : ∀ w ∈ u_ws RX5 TX5 23, w ∈ wsX5_isSitting := by decide +kernel
  have hf0 := hts (.fieldLink RX5 38 "StepClockModel" "stand" "[I") (by decide +kernel)
  have hl : lv_has ls 3 [(0, .ref M), (1, .int (nI q)), (2, .int (nI p))] := hl
  refine lv_aload_n hx hb dX5_isSitting_0 rfl (lv_at hl 0 rfl) ?_
  refine va_get (D := g.1) (ci := 5) (v := .ref Ms) (C := RX5) (T := TX5) (N := 23) hx hb hts hiX5 hown hK.1 hP 0 rfl rfl 17 (by decide) hf0 (fun _ h9 => h9) rfl dX5_isSitting_1 ?_
  refine lv_iload_n hx hb dX5_isSitting_4 rfl (lv_at hl 1 rfl) ?_
  refine lv_iconst (v := 2) hx hb dX5_isSitting_5 (by decide) ?_
  refine lv_iadd hx hb dX5_isSitting_6 ?_
  refine zz_iald hx hb hK.1 hP 1 0 rfl rfl (q + 2) (zi_eq (zi_add (zi_n q) (zi_c 2 rfl)) (zi_n (q + 2)) (by omega)) (by omega) (by decide) dX5_isSitting_7 ?_
  refine lv_iload_n hx hb dX5_isSitting_8 rfl (lv_at hl 2 rfl) ?_
  refine lv_ishr hx hb dX5_isSitting_9 ?_
  refine lv_iconst (v := 1) hx hb dX5_isSitting_10 (by decide) ?_
  refine lv_iand hx hb dX5_isSitting_11 ?_
  have hbl := zbit_lt (sd (q + 2)) p
  refine zz_topi (y := nI (zbit (sd (q + 2)) p)) (zi_bit (by omega) (by omega)) ?_
  refine lv_iconst (v := 1) hx hb dX5_isSitting_12 (by decide) ?_
  refine zz_icmp_ne (tgt := 20) hx hb dX5_isSitting_13 (by decide) (zi_n (zbit (sd (q + 2)) p)) (zi_c 1 rfl) (by omega) (by omega) (fun c_1 => ?_) (fun c_1 => ?_)
  · refine lv_iconst (v := 0) hx hb dX5_isSitting_20 (by decide) ?_
    exact hret 21 _ _ _ 0 () dX5_isSitting_21 rfl hP hD hS (show 0 = if zbit (sd (q + 2)) p = 1 then 1 else 0 from by first | (exfalso; omega) | (rw [if_pos (by omega)]) | (rw [if_neg (by omega)]))
  · refine lv_iconst (v := 1) hx hb dX5_isSitting_16 (by decide) ?_
    refine lv_goto (tgt := 21) hx hb dX5_isSitting_17 (by decide) ?_
    exact hret 21 _ _ _ 1 () dX5_isSitting_21 rfl hP hD hS (show 1 = if zbit (sd (q + 2)) p = 1 then 1 else 0 from by first | (exfalso; omega) | (rw [if_pos (by omega)]) | (rw [if_neg (by omega)]))

set_option maxHeartbeats 4000000 in
set_option maxRecDepth 100000 in
theorem c_X5_march (l : Launch) (g : zG) (M Mt Mc Mp Mw My Mm Mh Mk Mo Ms Mi Mb Me Md : Nat) (mt : Int64) (ty xa xs xo xv xh dy : Nat) (xf : Int32) (mr : Nat → Nat) (mh : Nat → Nat) (x w : Int32) (hmr : mr 0 ≤ 4) : zI l yX5_march wsX5_march 1 22 g [.ref M, .int x, .int w] [(M, .inr (5, [.long mt, .ref Mt, .int (nI ty), .ref Mc, .ref Mp, .ref Mw, .ref My, .ref Mm, .ref Mh, .ref Mk, .ref Mo, .int (nI xa), .int (nI xs), .int (nI xo), .int (nI xv), .int xf, .int (nI xh), .ref Ms, .ref Mi, .ref Mb, .ref Me, .int (nI dy), .ref Md])), (Mm, .inl (g.2.1.1, 2, .inl (zf mr))), (Mh, .inl (g.2.1.1, 24, .inl (zf mh)))] (fun (r : Int32) (u : Unit) => r = (if (0 ≤ x.toInt ∧ x.toInt < (mr 0 : Int)) ∧ 0 ≤ w.toInt ∧ w.toInt ≤ 2 then nI (mh (3 * x.toInt.toNat + w.toInt.toNat)) else -1)) (fun (u : Unit) => [(M, .inr (5, [.long mt, .ref Mt, .int (nI ty), .ref Mc, .ref Mp, .ref Mw, .ref My, .ref Mm, .ref Mh, .ref Mk, .ref Mo, .int (nI xa), .int (nI xs), .int (nI xo), .int (nI xv), .int xf, .int (nI xh), .ref Ms, .ref Mi, .ref Mb, .ref Me, .int (nI dy), .ref Md])), (Mm, .inl (g.2.1.1, 2, .inl (zf mr))), (Mh, .inl (g.2.1.1, 24, .inl (zf mh)))]) := by
  refine zz_bodyI (cc := cX5_march) (nL := 3) (own := RX5) (ty := .int) (by decide) rfl rfl (Nat.le_of_ble_eq_true rfl) ?_
  intro pP eE s mM below meth cC A Q ls F hA hK hE hP hD hl hret
  have hS : va_S A s.heap s.heap [] := va_S.rf
  obtain ⟨hx, hb, hml, hown, hts⟩ := id F
  have hiX5 : ∀ w ∈ u_ws RX5 TX5 23, w ∈ wsX5_march := by decide +kernel
  have hf0 := hts (.fieldLink RX5 26 "StepClockModel" "marches" "[I") (by decide +kernel)
  have hf1 := hts (.fieldLink RX5 29 "StepClockModel" "march" "[I") (by decide +kernel)
  have hl : lv_has ls 3 [(0, .ref M), (1, .int x), (2, .int w)] := hl
  have hlox := zi_lo x
  have hhix := zi_hi x
  have hlow := zi_lo w
  have hhiw := zi_hi w
  refine lv_iload_n hx hb dX5_march_0 rfl (lv_at hl 1 rfl) ?_
  refine lv_iconst (v := 0) hx hb dX5_march_1 (by decide) ?_
  refine lv_aload_n hx hb dX5_march_2 rfl (lv_at hl 0 rfl) ?_
  refine va_get (D := g.1) (ci := 5) (v := .ref Mm) (C := RX5) (T := TX5) (N := 23) hx hb hts hiX5 hown hK.1 hP 0 rfl rfl 7 (by decide) hf0 (fun _ h9 => h9) rfl dX5_march_3 ?_
  refine lv_iconst (v := 0) hx hb dX5_march_6 (by decide) ?_
  refine zz_iald hx hb hK.1 hP 1 0 rfl rfl 0 (zi_eq (zi_c 0 rfl) (zi_n 0) (by omega)) (by omega) (by decide) dX5_march_7 ?_
  refine lv_iconst (v := 1) hx hb dX5_march_8 (by decide) ?_
  refine lv_isub hx hb dX5_march_9 ?_
  refine zz_callSI (wr := [(M, .inr (5, [.long mt, .ref Mt, .int (nI ty), .ref Mc, .ref Mp, .ref Mw, .ref My, .ref Mm, .ref Mh, .ref Mk, .ref Mo, .int (nI xa), .int (nI xs), .int (nI xo), .int (nI xv), .int xf, .int (nI xh), .ref Ms, .ref Mi, .ref Mb, .ref Me, .int (nI dy), .ref Md])), (Mm, .inl (g.2.1.1, 2, .inl (zf mr))), (Mh, .inl (g.2.1.1, 24, .inl (zf mh)))]) (wc := []) (As := [.int x, .int (nI 0), .int ((nI (mr 0)) - 1)]) (rest := []) F hK hE hA hP hD hS (c_X5_in_p l g (x := x) (n := (mr 0)) (hab := by first | assumption | omega)) (va_cwS 3 hts gX5_march_X5_in rfl rfl rfl (by decide +kernel) ⟨Nat.le_of_ble_eq_true rfl, Nat.le_of_ble_eq_true rfl⟩) [] [0, 1, 2] rfl rfl (by decide) (by decide) (by decide) rfl rfl hl.1 (Nat.le_of_ble_eq_true rfl) dX5_march_10 ⟨Nat.le_of_ble_eq_true rfl, Nat.le_of_ble_eq_true rfl⟩ (fun r_1 u_1 H locs hw hP hD hS => ?_)
  have hP : va_P g.1 vwCl [(M, .inr (5, [.long mt, .ref Mt, .int (nI ty), .ref Mc, .ref Mp, .ref Mw, .ref My, .ref Mm, .ref Mh, .ref Mk, .ref Mo, .int (nI xa), .int (nI xs), .int (nI xo), .int (nI xv), .int xf, .int (nI xh), .ref Ms, .ref Mi, .ref Mb, .ref Me, .int (nI dy), .ref Md])), (Mm, .inl (g.2.1.1, 2, .inl (zf mr))), (Mh, .inl (g.2.1.1, 24, .inl (zf mh)))] _ := hP
  have hD : va_D A [(M, .inr (5, [.long mt, .ref Mt, .int (nI ty), .ref Mc, .ref Mp, .ref Mw, .ref My, .ref Mm, .ref Mh, .ref Mk, .ref Mo, .int (nI xa), .int (nI xs), .int (nI xo), .int (nI xv), .int xf, .int (nI xh), .ref Ms, .ref Mi, .ref Mb, .ref Me, .int (nI dy), .ref Md])), (Mm, .inl (g.2.1.1, 2, .inl (zf mr))), (Mh, .inl (g.2.1.1, 24, .inl (zf mh)))] := hD
  have hr_1 := hw
  have hr_1 : r_1 = if 0 ≤ x.toInt ∧ x.toInt < ((mr 0) : Int) then 1 else 0 := hr_1
  by_cases b_2 : 0 ≤ x.toInt ∧ x.toInt < ((mr 0) : Int)
  · rw [if_pos b_2] at hr_1
    subst hr_1
    refine zz_if_eq (tgt := 38) hx hb dX5_march_13 (by decide) (zi_c 1 rfl) (by omega) (fun c_3 => (by exfalso; omega)) (fun c_3 => ?_)
    refine lv_iload_n hx hb dX5_march_16 rfl (lv_at hl 2 rfl) ?_
    refine lv_iconst (v := 0) hx hb dX5_march_17 (by decide) ?_
    refine lv_iconst (v := 2) hx hb dX5_march_18 (by decide) ?_
    refine zz_callSI (wr := [(M, .inr (5, [.long mt, .ref Mt, .int (nI ty), .ref Mc, .ref Mp, .ref Mw, .ref My, .ref Mm, .ref Mh, .ref Mk, .ref Mo, .int (nI xa), .int (nI xs), .int (nI xo), .int (nI xv), .int xf, .int (nI xh), .ref Ms, .ref Mi, .ref Mb, .ref Me, .int (nI dy), .ref Md])), (Mm, .inl (g.2.1.1, 2, .inl (zf mr))), (Mh, .inl (g.2.1.1, 24, .inl (zf mh)))]) (wc := []) (As := [.int w, .int (nI 0), .int (nI 2)]) (rest := []) F hK hE hA hP hD hS (c_X5_in l g (x := w) (a := 0) (b := 2) (hab := by first | assumption | omega)) (va_cwS 3 hts gX5_march_X5_in rfl rfl rfl (by decide +kernel) ⟨Nat.le_of_ble_eq_true rfl, Nat.le_of_ble_eq_true rfl⟩) [] [0, 1, 2] rfl rfl (by decide) (by decide) (by decide) rfl rfl hl.1 (Nat.le_of_ble_eq_true rfl) dX5_march_19 ⟨Nat.le_of_ble_eq_true rfl, Nat.le_of_ble_eq_true rfl⟩ (fun r_4 u_4 H locs hw hP hD hS => ?_)
    have hP : va_P g.1 vwCl [(M, .inr (5, [.long mt, .ref Mt, .int (nI ty), .ref Mc, .ref Mp, .ref Mw, .ref My, .ref Mm, .ref Mh, .ref Mk, .ref Mo, .int (nI xa), .int (nI xs), .int (nI xo), .int (nI xv), .int xf, .int (nI xh), .ref Ms, .ref Mi, .ref Mb, .ref Me, .int (nI dy), .ref Md])), (Mm, .inl (g.2.1.1, 2, .inl (zf mr))), (Mh, .inl (g.2.1.1, 24, .inl (zf mh)))] _ := hP
    have hD : va_D A [(M, .inr (5, [.long mt, .ref Mt, .int (nI ty), .ref Mc, .ref Mp, .ref Mw, .ref My, .ref Mm, .ref Mh, .ref Mk, .ref Mo, .int (nI xa), .int (nI xs), .int (nI xo), .int (nI xv), .int xf, .int (nI xh), .ref Ms, .ref Mi, .ref Mb, .ref Me, .int (nI dy), .ref Md])), (Mm, .inl (g.2.1.1, 2, .inl (zf mr))), (Mh, .inl (g.2.1.1, 24, .inl (zf mh)))] := hD
    have hr_4 := hw
    have hr_4 : r_4 = if (0 : Int) ≤ w.toInt ∧ w.toInt ≤ (2 : Int) then 1 else 0 := hr_4
    by_cases b_5 : (0 : Int) ≤ w.toInt ∧ w.toInt ≤ (2 : Int)
    · rw [if_pos b_5] at hr_4
      subst hr_4
      refine zz_if_eq (tgt := 38) hx hb dX5_march_22 (by decide) (zi_c 1 rfl) (by omega) (fun c_6 => (by exfalso; omega)) (fun c_6 => ?_)
      refine lv_aload_n hx hb dX5_march_25 rfl (lv_at hl 0 rfl) ?_
      refine va_get (D := g.1) (ci := 5) (v := .ref Mh) (C := RX5) (T := TX5) (N := 23) hx hb hts hiX5 hown hK.1 hP 0 rfl rfl 8 (by decide) hf1 (fun _ h9 => h9) rfl dX5_march_26 ?_
      refine lv_iconst (v := 3) hx hb dX5_march_29 (by decide) ?_
      refine lv_iload_n hx hb dX5_march_30 rfl (lv_at hl 1 rfl) ?_
      refine lv_imul hx hb dX5_march_31 ?_
      refine lv_iload_n hx hb dX5_march_32 rfl (lv_at hl 2 rfl) ?_
      refine lv_iadd hx hb dX5_march_33 ?_
      refine zz_iald hx hb hK.1 hP 2 0 rfl rfl ((3 * (x.toInt).toNat) + (w.toInt).toNat) (zi_eq (zi_add (zi_mul (zi_c 3 rfl) (zi_self x)) (zi_self w)) (zi_n ((3 * (x.toInt).toNat) + (w.toInt).toNat)) (by omega)) (by omega) (by decide) dX5_march_34 ?_
      refine lv_goto (tgt := 39) hx hb dX5_march_35 (by decide) ?_
      exact hret 39 _ _ _ (nI (mh ((3 * (x.toInt).toNat) + (w.toInt).toNat))) () dX5_march_39 rfl hP hD hS (show (nI (mh ((3 * (x.toInt).toNat) + (w.toInt).toNat))) = (if (0 ≤ x.toInt ∧ x.toInt < (mr 0 : Int)) ∧ 0 ≤ w.toInt ∧ w.toInt ≤ 2 then nI (mh (3 * x.toInt.toNat + w.toInt.toNat)) else -1) from by first | (rw [if_pos (by omega)]; done) | (rw [if_neg (by omega)]; done))
    · rw [if_neg b_5] at hr_4
      subst hr_4
      refine zz_if_eq (tgt := 38) hx hb dX5_march_22 (by decide) (zi_c 0 rfl) (by omega) (fun c_7 => ?_) (fun c_7 => (by exfalso; omega))
      refine lv_iconst (v := (-1)) hx hb dX5_march_38 (by decide) ?_
      exact hret 39 _ _ _ (-1) () dX5_march_39 rfl hP hD hS (show (-1) = (if (0 ≤ x.toInt ∧ x.toInt < (mr 0 : Int)) ∧ 0 ≤ w.toInt ∧ w.toInt ≤ 2 then nI (mh (3 * x.toInt.toNat + w.toInt.toNat)) else -1) from by first | (rw [if_pos (by omega)]; done) | (rw [if_neg (by omega)]; done))
  · rw [if_neg b_2] at hr_1
    subst hr_1
    refine zz_if_eq (tgt := 38) hx hb dX5_march_13 (by decide) (zi_c 0 rfl) (by omega) (fun c_8 => ?_) (fun c_8 => (by exfalso; omega))
    refine lv_iconst (v := (-1)) hx hb dX5_march_38 (by decide) ?_
    exact hret 39 _ _ _ (-1) () dX5_march_39 rfl hP hD hS (show (-1) = (if (0 ≤ x.toInt ∧ x.toInt < (mr 0 : Int)) ∧ 0 ≤ w.toInt ∧ w.toInt ≤ 2 then nI (mh (3 * x.toInt.toNat + w.toInt.toNat)) else -1) from by first | (rw [if_pos (by omega)]; done) | (rw [if_neg (by omega)]; done))

set_option maxHeartbeats 4000000 in
set_option maxRecDepth 100000 in
theorem c_X5_work (l : Launch) (g : zG) (M Mt Mc Mp Mw My Mm Mh Mk Mo Ms Mi Mb Me Md : Nat) (mt : Int64) (ty xa xs xo xv xh dy : Nat) (xf : Int32) (wo : Nat → Nat) (wk : Nat → Nat) (x w : Int32) (hmr : wo 0 ≤ 6) : zI l yX5_work wsX5_work 1 22 g [.ref M, .int x, .int w] [(M, .inr (5, [.long mt, .ref Mt, .int (nI ty), .ref Mc, .ref Mp, .ref Mw, .ref My, .ref Mm, .ref Mh, .ref Mk, .ref Mo, .int (nI xa), .int (nI xs), .int (nI xo), .int (nI xv), .int xf, .int (nI xh), .ref Ms, .ref Mi, .ref Mb, .ref Me, .int (nI dy), .ref Md])), (Mk, .inl (g.2.1.1, 2, .inl (zf wo))), (Mo, .inl (g.2.1.1, 36, .inl (zf wk)))] (fun (r : Int32) (u : Unit) => r = (if (0 ≤ x.toInt ∧ x.toInt < (wo 0 : Int)) ∧ 0 ≤ w.toInt ∧ w.toInt ≤ 2 then nI (wk (3 * x.toInt.toNat + w.toInt.toNat)) else -1)) (fun (u : Unit) => [(M, .inr (5, [.long mt, .ref Mt, .int (nI ty), .ref Mc, .ref Mp, .ref Mw, .ref My, .ref Mm, .ref Mh, .ref Mk, .ref Mo, .int (nI xa), .int (nI xs), .int (nI xo), .int (nI xv), .int xf, .int (nI xh), .ref Ms, .ref Mi, .ref Mb, .ref Me, .int (nI dy), .ref Md])), (Mk, .inl (g.2.1.1, 2, .inl (zf wo))), (Mo, .inl (g.2.1.1, 36, .inl (zf wk)))]) := by
  refine zz_bodyI (cc := cX5_work) (nL := 3) (own := RX5) (ty := .int) (by decide) rfl rfl (Nat.le_of_ble_eq_true rfl) ?_
  intro pP eE s mM below meth cC A Q ls F hA hK hE hP hD hl hret
  have hS : va_S A s.heap s.heap [] := va_S.rf
  obtain ⟨hx, hb, hml, hown, hts⟩ := id F
  have hiX5 : ∀ w ∈ u_ws RX5 TX5 23, w ∈ wsX5_work := by decide +kernel
  have hf0 := hts (.fieldLink RX5 32 "StepClockModel" "works" "[I") (by decide +kernel)
  have hf1 := hts (.fieldLink RX5 35 "StepClockModel" "work" "[I") (by decide +kernel)
  have hl : lv_has ls 3 [(0, .ref M), (1, .int x), (2, .int w)] := hl
  have hlox := zi_lo x
  have hhix := zi_hi x
  have hlow := zi_lo w
  have hhiw := zi_hi w
  refine lv_iload_n hx hb dX5_work_0 rfl (lv_at hl 1 rfl) ?_
  refine lv_iconst (v := 0) hx hb dX5_work_1 (by decide) ?_
  refine lv_aload_n hx hb dX5_work_2 rfl (lv_at hl 0 rfl) ?_
  refine va_get (D := g.1) (ci := 5) (v := .ref Mk) (C := RX5) (T := TX5) (N := 23) hx hb hts hiX5 hown hK.1 hP 0 rfl rfl 9 (by decide) hf0 (fun _ h9 => h9) rfl dX5_work_3 ?_
  refine lv_iconst (v := 0) hx hb dX5_work_6 (by decide) ?_
  refine zz_iald hx hb hK.1 hP 1 0 rfl rfl 0 (zi_eq (zi_c 0 rfl) (zi_n 0) (by omega)) (by omega) (by decide) dX5_work_7 ?_
  refine lv_iconst (v := 1) hx hb dX5_work_8 (by decide) ?_
  refine lv_isub hx hb dX5_work_9 ?_
  refine zz_callSI (wr := [(M, .inr (5, [.long mt, .ref Mt, .int (nI ty), .ref Mc, .ref Mp, .ref Mw, .ref My, .ref Mm, .ref Mh, .ref Mk, .ref Mo, .int (nI xa), .int (nI xs), .int (nI xo), .int (nI xv), .int xf, .int (nI xh), .ref Ms, .ref Mi, .ref Mb, .ref Me, .int (nI dy), .ref Md])), (Mk, .inl (g.2.1.1, 2, .inl (zf wo))), (Mo, .inl (g.2.1.1, 36, .inl (zf wk)))]) (wc := []) (As := [.int x, .int (nI 0), .int ((nI (wo 0)) - 1)]) (rest := []) F hK hE hA hP hD hS (c_X5_in_p l g (x := x) (n := (wo 0)) (hab := by first | assumption | omega)) (va_cwS 3 hts gX5_work_X5_in rfl rfl rfl (by decide +kernel) ⟨Nat.le_of_ble_eq_true rfl, Nat.le_of_ble_eq_true rfl⟩) [] [0, 1, 2] rfl rfl (by decide) (by decide) (by decide) rfl rfl hl.1 (Nat.le_of_ble_eq_true rfl) dX5_work_10 ⟨Nat.le_of_ble_eq_true rfl, Nat.le_of_ble_eq_true rfl⟩ (fun r_1 u_1 H locs hw hP hD hS => ?_)
  have hP : va_P g.1 vwCl [(M, .inr (5, [.long mt, .ref Mt, .int (nI ty), .ref Mc, .ref Mp, .ref Mw, .ref My, .ref Mm, .ref Mh, .ref Mk, .ref Mo, .int (nI xa), .int (nI xs), .int (nI xo), .int (nI xv), .int xf, .int (nI xh), .ref Ms, .ref Mi, .ref Mb, .ref Me, .int (nI dy), .ref Md])), (Mk, .inl (g.2.1.1, 2, .inl (zf wo))), (Mo, .inl (g.2.1.1, 36, .inl (zf wk)))] _ := hP
  have hD : va_D A [(M, .inr (5, [.long mt, .ref Mt, .int (nI ty), .ref Mc, .ref Mp, .ref Mw, .ref My, .ref Mm, .ref Mh, .ref Mk, .ref Mo, .int (nI xa), .int (nI xs), .int (nI xo), .int (nI xv), .int xf, .int (nI xh), .ref Ms, .ref Mi, .ref Mb, .ref Me, .int (nI dy), .ref Md])), (Mk, .inl (g.2.1.1, 2, .inl (zf wo))), (Mo, .inl (g.2.1.1, 36, .inl (zf wk)))] := hD
  have hr_1 := hw
  have hr_1 : r_1 = if 0 ≤ x.toInt ∧ x.toInt < ((wo 0) : Int) then 1 else 0 := hr_1
  by_cases b_2 : 0 ≤ x.toInt ∧ x.toInt < ((wo 0) : Int)
  · rw [if_pos b_2] at hr_1
    subst hr_1
    refine zz_if_eq (tgt := 38) hx hb dX5_work_13 (by decide) (zi_c 1 rfl) (by omega) (fun c_3 => (by exfalso; omega)) (fun c_3 => ?_)
    refine lv_iload_n hx hb dX5_work_16 rfl (lv_at hl 2 rfl) ?_
    refine lv_iconst (v := 0) hx hb dX5_work_17 (by decide) ?_
    refine lv_iconst (v := 2) hx hb dX5_work_18 (by decide) ?_
    refine zz_callSI (wr := [(M, .inr (5, [.long mt, .ref Mt, .int (nI ty), .ref Mc, .ref Mp, .ref Mw, .ref My, .ref Mm, .ref Mh, .ref Mk, .ref Mo, .int (nI xa), .int (nI xs), .int (nI xo), .int (nI xv), .int xf, .int (nI xh), .ref Ms, .ref Mi, .ref Mb, .ref Me, .int (nI dy), .ref Md])), (Mk, .inl (g.2.1.1, 2, .inl (zf wo))), (Mo, .inl (g.2.1.1, 36, .inl (zf wk)))]) (wc := []) (As := [.int w, .int (nI 0), .int (nI 2)]) (rest := []) F hK hE hA hP hD hS (c_X5_in l g (x := w) (a := 0) (b := 2) (hab := by first | assumption | omega)) (va_cwS 3 hts gX5_work_X5_in rfl rfl rfl (by decide +kernel) ⟨Nat.le_of_ble_eq_true rfl, Nat.le_of_ble_eq_true rfl⟩) [] [0, 1, 2] rfl rfl (by decide) (by decide) (by decide) rfl rfl hl.1 (Nat.le_of_ble_eq_true rfl) dX5_work_19 ⟨Nat.le_of_ble_eq_true rfl, Nat.le_of_ble_eq_true rfl⟩ (fun r_4 u_4 H locs hw hP hD hS => ?_)
    have hP : va_P g.1 vwCl [(M, .inr (5, [.long mt, .ref Mt, .int (nI ty), .ref Mc, .ref Mp, .ref Mw, .ref My, .ref Mm, .ref Mh, .ref Mk, .ref Mo, .int (nI xa), .int (nI xs), .int (nI xo), .int (nI xv), .int xf, .int (nI xh), .ref Ms, .ref Mi, .ref Mb, .ref Me, .int (nI dy), .ref Md])), (Mk, .inl (g.2.1.1, 2, .inl (zf wo))), (Mo, .inl (g.2.1.1, 36, .inl (zf wk)))] _ := hP
    have hD : va_D A [(M, .inr (5, [.long mt, .ref Mt, .int (nI ty), .ref Mc, .ref Mp, .ref Mw, .ref My, .ref Mm, .ref Mh, .ref Mk, .ref Mo, .int (nI xa), .int (nI xs), .int (nI xo), .int (nI xv), .int xf, .int (nI xh), .ref Ms, .ref Mi, .ref Mb, .ref Me, .int (nI dy), .ref Md])), (Mk, .inl (g.2.1.1, 2, .inl (zf wo))), (Mo, .inl (g.2.1.1, 36, .inl (zf wk)))] := hD
    have hr_4 := hw
    have hr_4 : r_4 = if (0 : Int) ≤ w.toInt ∧ w.toInt ≤ (2 : Int) then 1 else 0 := hr_4
    by_cases b_5 : (0 : Int) ≤ w.toInt ∧ w.toInt ≤ (2 : Int)
    · rw [if_pos b_5] at hr_4
      subst hr_4
      refine zz_if_eq (tgt := 38) hx hb dX5_work_22 (by decide) (zi_c 1 rfl) (by omega) (fun c_6 => (by exfalso; omega)) (fun c_6 => ?_)
      refine lv_aload_n hx hb dX5_work_25 rfl (lv_at hl 0 rfl) ?_
      refine va_get (D := g.1) (ci := 5) (v := .ref Mo) (C := RX5) (T := TX5) (N := 23) hx hb hts hiX5 hown hK.1 hP 0 rfl rfl 10 (by decide) hf1 (fun _ h9 => h9) rfl dX5_work_26 ?_
      refine lv_iconst (v := 3) hx hb dX5_work_29 (by decide) ?_
      refine lv_iload_n hx hb dX5_work_30 rfl (lv_at hl 1 rfl) ?_
      refine lv_imul hx hb dX5_work_31 ?_
      refine lv_iload_n hx hb dX5_work_32 rfl (lv_at hl 2 rfl) ?_
      refine lv_iadd hx hb dX5_work_33 ?_
      refine zz_iald hx hb hK.1 hP 2 0 rfl rfl ((3 * (x.toInt).toNat) + (w.toInt).toNat) (zi_eq (zi_add (zi_mul (zi_c 3 rfl) (zi_self x)) (zi_self w)) (zi_n ((3 * (x.toInt).toNat) + (w.toInt).toNat)) (by omega)) (by omega) (by decide) dX5_work_34 ?_
      refine lv_goto (tgt := 39) hx hb dX5_work_35 (by decide) ?_
      exact hret 39 _ _ _ (nI (wk ((3 * (x.toInt).toNat) + (w.toInt).toNat))) () dX5_work_39 rfl hP hD hS (show (nI (wk ((3 * (x.toInt).toNat) + (w.toInt).toNat))) = (if (0 ≤ x.toInt ∧ x.toInt < (wo 0 : Int)) ∧ 0 ≤ w.toInt ∧ w.toInt ≤ 2 then nI (wk (3 * x.toInt.toNat + w.toInt.toNat)) else -1) from by first | (rw [if_pos (by omega)]; done) | (rw [if_neg (by omega)]; done))
    · rw [if_neg b_5] at hr_4
      subst hr_4
      refine zz_if_eq (tgt := 38) hx hb dX5_work_22 (by decide) (zi_c 0 rfl) (by omega) (fun c_7 => ?_) (fun c_7 => (by exfalso; omega))
      refine lv_iconst (v := (-1)) hx hb dX5_work_38 (by decide) ?_
      exact hret 39 _ _ _ (-1) () dX5_work_39 rfl hP hD hS (show (-1) = (if (0 ≤ x.toInt ∧ x.toInt < (wo 0 : Int)) ∧ 0 ≤ w.toInt ∧ w.toInt ≤ 2 then nI (wk (3 * x.toInt.toNat + w.toInt.toNat)) else -1) from by first | (rw [if_pos (by omega)]; done) | (rw [if_neg (by omega)]; done))
  · rw [if_neg b_2] at hr_1
    subst hr_1
    refine zz_if_eq (tgt := 38) hx hb dX5_work_13 (by decide) (zi_c 0 rfl) (by omega) (fun c_8 => ?_) (fun c_8 => (by exfalso; omega))
    refine lv_iconst (v := (-1)) hx hb dX5_work_38 (by decide) ?_
    exact hret 39 _ _ _ (-1) () dX5_work_39 rfl hP hD hS (show (-1) = (if (0 ≤ x.toInt ∧ x.toInt < (wo 0 : Int)) ∧ 0 ≤ w.toInt ∧ w.toInt ≤ 2 then nI (wk (3 * x.toInt.toNat + w.toInt.toNat)) else -1) from by first | (rw [if_pos (by omega)]; done) | (rw [if_neg (by omega)]; done))
