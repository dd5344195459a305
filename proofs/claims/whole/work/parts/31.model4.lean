set_option maxHeartbeats 4000000 in
set_option maxRecDepth 100000 in
theorem c_X5_way (l : Launch) (g : zG) (M Mt Mc Mp Mw My Mm Mh Mk Mo Ms Mi Mb Me Md : Nat) (mt : Int64) (ty xa xs xo xv xh dy : Nat) (xf : Int32) (pe : Nat → Nat) (wy : Nat → Nat) (wa : Nat → Nat) (x y w : Int32) (hpe : pe 0 ≤ 6) (hwy : ∀ k, wy k ≤ 4) : zI l yX5_way wsX5_way 2 43 g [.ref M, .int x, .int y, .int w] [(M, .inr (5, [.long mt, .ref Mt, .int (nI ty), .ref Mc, .ref Mp, .ref Mw, .ref My, .ref Mm, .ref Mh, .ref Mk, .ref Mo, .int (nI xa), .int (nI xs), .int (nI xo), .int (nI xv), .int xf, .int (nI xh), .ref Ms, .ref Mi, .ref Mb, .ref Me, .int (nI dy), .ref Md])), (Mp, .inl (g.2.1.1, 2, .inl (zf pe))), (Mw, .inl (g.2.1.1, 12, .inl (zf wy))), (My, .inl (g.2.1.1, 192, .inl (zf wa)))] (fun (r : Int32) (u : Unit) => r = (if (0 ≤ x.toInt ∧ x.toInt < (pe 0 : Int)) ∧ (0 ≤ y.toInt ∧ y.toInt < (wy x.toInt.toNat : Int)) ∧ 0 ≤ w.toInt ∧ w.toInt ≤ 3 then nI (wa (16 * x.toInt.toNat + 4 * y.toInt.toNat + w.toInt.toNat)) else -1)) (fun (u : Unit) => [(M, .inr (5, [.long mt, .ref Mt, .int (nI ty), .ref Mc, .ref Mp, .ref Mw, .ref My, .ref Mm, .ref Mh, .ref Mk, .ref Mo, .int (nI xa), .int (nI xs), .int (nI xo), .int (nI xv), .int xf, .int (nI xh), .ref Ms, .ref Mi, .ref Mb, .ref Me, .int (nI dy), .ref Md])), (Mp, .inl (g.2.1.1, 2, .inl (zf pe))), (Mw, .inl (g.2.1.1, 12, .inl (zf wy))), (My, .inl (g.2.1.1, 192, .inl (zf wa)))]) := by
  refine zz_bodyI (cc := cX5_way) (nL := 4) (own := RX5) (ty := .int) (by decide) rfl rfl (Nat.le_of_ble_eq_true rfl) ?_
  intro pP eE s mM below meth cC A Q ls F hA hK hE hP hD hl hret
  have hS : va_S A s.heap s.heap [] := va_S.rf
  obtain ⟨hx, hb, hml, hown, hts⟩ := id F
  have hiX5 : ∀ w ∈ u_ws RX5 TX5 23, w ∈ wsX5_way := by decide +kernel
  have hf0 := hts (.fieldLink RX5 20 "StepClockModel" "ways" "[I") (by decide +kernel)
  have hf1 := hts (.fieldLink RX5 23 "StepClockModel" "way" "[I") (by decide +kernel)
  have hl : lv_has ls 4 [(0, .ref M), (1, .int x), (2, .int y), (3, .int w)] := hl
  have hlox := zi_lo x
  have hhix := zi_hi x
  have hloy := zi_lo y
  have hhiy := zi_hi y
  have hlow := zi_lo w
  have hhiw := zi_hi w
  refine lv_aload_n hx hb dX5_way_0 rfl (lv_at hl 0 rfl) ?_
  refine lv_iload_n hx hb dX5_way_1 rfl (lv_at hl 1 rfl) ?_
  refine zz_callI (wr := [(Mw, .inl (g.2.1.1, 12, .inl (zf wy))), (My, .inl (g.2.1.1, 192, .inl (zf wa)))]) (wc := [(M, .inr (5, [.long mt, .ref Mt, .int (nI ty), .ref Mc, .ref Mp, .ref Mw, .ref My, .ref Mm, .ref Mh, .ref Mk, .ref Mo, .int (nI xa), .int (nI xs), .int (nI xo), .int (nI xv), .int xf, .int (nI xh), .ref Ms, .ref Mi, .ref Mb, .ref Me, .int (nI dy), .ref Md])), (Mp, .inl (g.2.1.1, 2, .inl (zf pe)))]) (As := [.int x]) (rest := []) F hK hE hA hP hD hS (c_X5_isPerson l g (M := M) (Mt := Mt) (Mc := Mc) (Mp := Mp) (Mw := Mw) (My := My) (Mm := Mm) (Mh := Mh) (Mk := Mk) (Mo := Mo) (Ms := Ms) (Mi := Mi) (Mb := Mb) (Me := Me) (Md := Md) (mt := mt) (ty := ty) (xa := xa) (xs := xs) (xo := xo) (xv := xv) (xh := xh) (dy := dy) (xf := xf) (pe := pe) (x := x) (hpe := by first | assumption | omega)) (cwV 1 hts gX5_way_X5_isPerson rfl rfl rfl (by decide +kernel) ⟨Nat.le_of_ble_eq_true rfl, Nat.le_of_ble_eq_true rfl⟩) [0, 1] [2, 3] rfl rfl (by decide) (by decide) (by decide) 5 0 rfl rfl rfl rfl rfl hl.1 (Nat.le_of_ble_eq_true rfl) dX5_way_2 ⟨Nat.le_of_ble_eq_true rfl, Nat.le_of_ble_eq_true rfl⟩ (fun r_1 u_1 H locs hw hP hD hS => ?_)
  have hP : va_P g.1 vwCl [(Mw, .inl (g.2.1.1, 12, .inl (zf wy))), (My, .inl (g.2.1.1, 192, .inl (zf wa))), (M, .inr (5, [.long mt, .ref Mt, .int (nI ty), .ref Mc, .ref Mp, .ref Mw, .ref My, .ref Mm, .ref Mh, .ref Mk, .ref Mo, .int (nI xa), .int (nI xs), .int (nI xo), .int (nI xv), .int xf, .int (nI xh), .ref Ms, .ref Mi, .ref Mb, .ref Me, .int (nI dy), .ref Md])), (Mp, .inl (g.2.1.1, 2, .inl (zf pe)))] _ := hP
  have hD : va_D A [(Mw, .inl (g.2.1.1, 12, .inl (zf wy))), (My, .inl (g.2.1.1, 192, .inl (zf wa))), (M, .inr (5, [.long mt, .ref Mt, .int (nI ty), .ref Mc, .ref Mp, .ref Mw, .ref My, .ref Mm, .ref Mh, .ref Mk, .ref Mo, .int (nI xa), .int (nI xs), .int (nI xo), .int (nI xv), .int xf, .int (nI xh), .ref Ms, .ref Mi, .ref Mb, .ref Me, .int (nI dy), .ref Md])), (Mp, .inl (g.2.1.1, 2, .inl (zf pe)))] := hD
  have hr_1 := hw
  have hr_1 : r_1 = if 0 ≤ x.toInt ∧ x.toInt < (pe 0 : Int) then 1 else 0 := hr_1
  by_cases b_2 : 0 ≤ x.toInt ∧ x.toInt < (pe 0 : Int)
  · rw [if_pos b_2] at hr_1
    subst hr_1
    refine zz_if_eq (tgt := 51) hx hb dX5_way_5 (by decide) (zi_c 1 rfl) (by omega) (fun c_3 => (by exfalso; omega)) (fun c_3 => ?_)
    refine lv_iload_n hx hb dX5_way_8 rfl (lv_at hl 2 rfl) ?_
    refine lv_iconst (v := 0) hx hb dX5_way_9 (by decide) ?_
    refine lv_aload_n hx hb dX5_way_10 rfl (lv_at hl 0 rfl) ?_
    refine va_get (D := g.1) (ci := 5) (v := .ref Mw) (C := RX5) (T := TX5) (N := 23) hx hb hts hiX5 hown hK.1 hP 2 rfl rfl 5 (by decide) hf0 (fun _ h9 => h9) rfl dX5_way_11 ?_
    refine lv_iload_n hx hb dX5_way_14 rfl (lv_at hl 1 rfl) ?_
    refine zz_iald hx hb hK.1 hP 0 0 rfl rfl ((x.toInt).toNat) (zi_eq (zi_self x) (zi_n ((x.toInt).toNat)) (by omega)) (by omega) (by decide) dX5_way_15 ?_
    have hq_4 := hwy ((x.toInt).toNat)
    refine lv_iconst (v := 1) hx hb dX5_way_16 (by decide) ?_
    refine lv_isub hx hb dX5_way_17 ?_
    refine zz_callSI (wr := [(Mw, .inl (g.2.1.1, 12, .inl (zf wy))), (My, .inl (g.2.1.1, 192, .inl (zf wa))), (M, .inr (5, [.long mt, .ref Mt, .int (nI ty), .ref Mc, .ref Mp, .ref Mw, .ref My, .ref Mm, .ref Mh, .ref Mk, .ref Mo, .int (nI xa), .int (nI xs), .int (nI xo), .int (nI xv), .int xf, .int (nI xh), .ref Ms, .ref Mi, .ref Mb, .ref Me, .int (nI dy), .ref Md])), (Mp, .inl (g.2.1.1, 2, .inl (zf pe)))]) (wc := []) (As := [.int y, .int (nI 0), .int ((nI (wy ((x.toInt).toNat))) - 1)]) (rest := []) F hK hE hA hP hD hS (c_X5_in_p l g (x := y) (n := (wy ((x.toInt).toNat))) (hab := by first | assumption | omega)) (va_cwS 3 hts gX5_way_X5_in rfl rfl rfl (by decide +kernel) ⟨Nat.le_of_ble_eq_true rfl, Nat.le_of_ble_eq_true rfl⟩) [] [0, 1, 2, 3] rfl rfl (by decide) (by decide) (by decide) rfl rfl hl.1 (Nat.le_of_ble_eq_true rfl) dX5_way_18 ⟨Nat.le_of_ble_eq_true rfl, Nat.le_of_ble_eq_true rfl⟩ (fun r_5 u_5 H locs hw hP hD hS => ?_)
    have hP : va_P g.1 vwCl [(Mw, .inl (g.2.1.1, 12, .inl (zf wy))), (My, .inl (g.2.1.1, 192, .inl (zf wa))), (M, .inr (5, [.long mt, .ref Mt, .int (nI ty), .ref Mc, .ref Mp, .ref Mw, .ref My, .ref Mm, .ref Mh, .ref Mk, .ref Mo, .int (nI xa), .int (nI xs), .int (nI xo), .int (nI xv), .int xf, .int (nI xh), .ref Ms, .ref Mi, .ref Mb, .ref Me, .int (nI dy), .ref Md])), (Mp, .inl (g.2.1.1, 2, .inl (zf pe)))] _ := hP
    have hD : va_D A [(Mw, .inl (g.2.1.1, 12, .inl (zf wy))), (My, .inl (g.2.1.1, 192, .inl (zf wa))), (M, .inr (5, [.long mt, .ref Mt, .int (nI ty), .ref Mc, .ref Mp, .ref Mw, .ref My, .ref Mm, .ref Mh, .ref Mk, .ref Mo, .int (nI xa), .int (nI xs), .int (nI xo), .int (nI xv), .int xf, .int (nI xh), .ref Ms, .ref Mi, .ref Mb, .ref Me, .int (nI dy), .ref Md])), (Mp, .inl (g.2.1.1, 2, .inl (zf pe)))] := hD
    have hr_5 := hw
    have hr_5 : r_5 = if 0 ≤ y.toInt ∧ y.toInt < ((wy ((x.toInt).toNat)) : Int) then 1 else 0 := hr_5
    by_cases b_6 : 0 ≤ y.toInt ∧ y.toInt < ((wy ((x.toInt).toNat)) : Int)
    · rw [if_pos b_6] at hr_5
      subst hr_5
      refine zz_if_eq (tgt := 51) hx hb dX5_way_21 (by decide) (zi_c 1 rfl) (by omega) (fun c_7 => (by exfalso; omega)) (fun c_7 => ?_)
      refine lv_iload_n hx hb dX5_way_24 rfl (lv_at hl 3 rfl) ?_
      refine lv_iconst (v := 0) hx hb dX5_way_25 (by decide) ?_
      refine lv_iconst (v := 3) hx hb dX5_way_26 (by decide) ?_
      refine zz_callSI (wr := [(Mw, .inl (g.2.1.1, 12, .inl (zf wy))), (My, .inl (g.2.1.1, 192, .inl (zf wa))), (M, .inr (5, [.long mt, .ref Mt, .int (nI ty), .ref Mc, .ref Mp, .ref Mw, .ref My, .ref Mm, .ref Mh, .ref Mk, .ref Mo, .int (nI xa), .int (nI xs), .int (nI xo), .int (nI xv), .int xf, .int (nI xh), .ref Ms, .ref Mi, .ref Mb, .ref Me, .int (nI dy), .ref Md])), (Mp, .inl (g.2.1.1, 2, .inl (zf pe)))]) (wc := []) (As := [.int w, .int (nI 0), .int (nI 3)]) (rest := []) F hK hE hA hP hD hS (c_X5_in l g (x := w) (a := 0) (b := 3) (hab := by first | assumption | omega)) (va_cwS 3 hts gX5_way_X5_in rfl rfl rfl (by decide +kernel) ⟨Nat.le_of_ble_eq_true rfl, Nat.le_of_ble_eq_true rfl⟩) [] [0, 1, 2, 3] rfl rfl (by decide) (by decide) (by decide) rfl rfl hl.1 (Nat.le_of_ble_eq_true rfl) dX5_way_27 ⟨Nat.le_of_ble_eq_true rfl, Nat.le_of_ble_eq_true rfl⟩ (fun r_8 u_8 H locs hw hP hD hS => ?_)
      have hP : va_P g.1 vwCl [(Mw, .inl (g.2.1.1, 12, .inl (zf wy))), (My, .inl (g.2.1.1, 192, .inl (zf wa))), (M, .inr (5, [.long mt, .ref Mt, .int (nI ty), .ref Mc, .ref Mp, .ref Mw, .ref My, .ref Mm, .ref Mh, .ref Mk, .ref Mo, .int (nI xa), .int (nI xs), .int (nI xo), .int (nI xv), .int xf, .int (nI xh), .ref Ms, .ref Mi, .ref Mb, .ref Me, .int (nI dy), .ref Md])), (Mp, .inl (g.2.1.1, 2, .inl (zf pe)))] _ := hP
      have hD : va_D A [(Mw, .inl (g.2.1.1, 12, .inl (zf wy))), (My, .inl (g.2.1.1, 192, .inl (zf wa))), (M, .inr (5, [.long mt, .ref Mt, .int (nI ty), .ref Mc, .ref Mp, .ref Mw, .ref My, .ref Mm, .ref Mh, .ref Mk, .ref Mo, .int (nI xa), .int (nI xs), .int (nI xo), .int (nI xv), .int xf, .int (nI xh), .ref Ms, .ref Mi, .ref Mb, .ref Me, .int (nI dy), .ref Md])), (Mp, .inl (g.2.1.1, 2, .inl (zf pe)))] := hD
      have hr_8 := hw
      have hr_8 : r_8 = if (0 : Int) ≤ w.toInt ∧ w.toInt ≤ (3 : Int) then 1 else 0 := hr_8
      by_cases b_9 : (0 : Int) ≤ w.toInt ∧ w.toInt ≤ (3 : Int)
      · rw [if_pos b_9] at hr_8
        subst hr_8
        refine zz_if_eq (tgt := 51) hx hb dX5_way_30 (by decide) (zi_c 1 rfl) (by omega) (fun c_10 => (by exfalso; omega)) (fun c_10 => ?_)
        refine lv_aload_n hx hb dX5_way_33 rfl (lv_at hl 0 rfl) ?_
        refine va_get (D := g.1) (ci := 5) (v := .ref My) (C := RX5) (T := TX5) (N := 23) hx hb hts hiX5 hown hK.1 hP 2 rfl rfl 6 (by decide) hf1 (fun _ h9 => h9) rfl dX5_way_34 ?_
        refine lv_bipush (v := 16) hx hb dX5_way_37 (by decide) ?_
        refine lv_iload_n hx hb dX5_way_39 rfl (lv_at hl 1 rfl) ?_
        refine lv_imul hx hb dX5_way_40 ?_
        refine lv_iconst (v := 4) hx hb dX5_way_41 (by decide) ?_
        refine lv_iload_n hx hb dX5_way_42 rfl (lv_at hl 2 rfl) ?_
        refine lv_imul hx hb dX5_way_43 ?_
        refine lv_iadd hx hb dX5_way_44 ?_
        refine lv_iload_n hx hb dX5_way_45 rfl (lv_at hl 3 rfl) ?_
        refine lv_iadd hx hb dX5_way_46 ?_
        refine zz_iald hx hb hK.1 hP 1 0 rfl rfl (((16 * (x.toInt).toNat) + (4 * (y.toInt).toNat)) + (w.toInt).toNat) (zi_eq (zi_add (zi_add (zi_mul (zi_c 16 rfl) (zi_self x)) (zi_mul (zi_c 4 rfl) (zi_self y))) (zi_self w)) (zi_n (((16 * (x.toInt).toNat) + (4 * (y.toInt).toNat)) + (w.toInt).toNat)) (by omega)) (by omega) (by decide) dX5_way_47 ?_
        refine lv_goto (tgt := 52) hx hb dX5_way_48 (by decide) ?_
        have hP := hP.sub (ws' := [(M, .inr (5, [.long mt, .ref Mt, .int (nI ty), .ref Mc, .ref Mp, .ref Mw, .ref My, .ref Mm, .ref Mh, .ref Mk, .ref Mo, .int (nI xa), .int (nI xs), .int (nI xo), .int (nI xv), .int xf, .int (nI xh), .ref Ms, .ref Mi, .ref Mb, .ref Me, .int (nI dy), .ref Md])), (Mp, .inl (g.2.1.1, 2, .inl (zf pe))), (Mw, .inl (g.2.1.1, 12, .inl (zf wy))), (My, .inl (g.2.1.1, 192, .inl (zf wa)))]) [2, 3, 0, 1] rfl
        have hD := hD.sub (ws' := [(M, .inr (5, [.long mt, .ref Mt, .int (nI ty), .ref Mc, .ref Mp, .ref Mw, .ref My, .ref Mm, .ref Mh, .ref Mk, .ref Mo, .int (nI xa), .int (nI xs), .int (nI xo), .int (nI xv), .int xf, .int (nI xh), .ref Ms, .ref Mi, .ref Mb, .ref Me, .int (nI dy), .ref Md])), (Mp, .inl (g.2.1.1, 2, .inl (zf pe))), (Mw, .inl (g.2.1.1, 12, .inl (zf wy))), (My, .inl (g.2.1.1, 192, .inl (zf wa)))]) [2, 3, 0, 1] (by decide) rfl
        exact hret 52 _ _ _ (nI (wa (((16 * (x.toInt).toNat) + (4 * (y.toInt).toNat)) + (w.toInt).toNat))) () dX5_way_52 rfl hP hD hS (show (nI (wa (((16 * (x.toInt).toNat) + (4 * (y.toInt).toNat)) + (w.toInt).toNat))) = (if (0 ≤ x.toInt ∧ x.toInt < (pe 0 : Int)) ∧ (0 ≤ y.toInt ∧ y.toInt < (wy x.toInt.toNat : Int)) ∧ 0 ≤ w.toInt ∧ w.toInt ≤ 3 then nI (wa (16 * x.toInt.toNat + 4 * y.toInt.toNat + w.toInt.toNat)) else -1) from by first | (rw [if_pos (by omega)]; done) | (rw [if_neg (by omega)]; done))
      · rw [if_neg b_9] at hr_8
        subst hr_8
        refine zz_if_eq (tgt := 51) hx hb dX5_way_30 (by decide) (zi_c 0 rfl) (by omega) (fun c_11 => ?_) (fun c_11 => (by exfalso; omega))
        refine lv_iconst (v := (-1)) hx hb dX5_way_51 (by decide) ?_
        have hP := hP.sub (ws' := [(M, .inr (5, [.long mt, .ref Mt, .int (nI ty), .ref Mc, .ref Mp, .ref Mw, .ref My, .ref Mm, .ref Mh, .ref Mk, .ref Mo, .int (nI xa), .int (nI xs), .int (nI xo), .int (nI xv), .int xf, .int (nI xh), .ref Ms, .ref Mi, .ref Mb, .ref Me, .int (nI dy), .ref Md])), (Mp, .inl (g.2.1.1, 2, .inl (zf pe))), (Mw, .inl (g.2.1.1, 12, .inl (zf wy))), (My, .inl (g.2.1.1, 192, .inl (zf wa)))]) [2, 3, 0, 1] rfl
        have hD := hD.sub (ws' := [(M, .inr (5, [.long mt, .ref Mt, .int (nI ty), .ref Mc, .ref Mp, .ref Mw, .ref My, .ref Mm, .ref Mh, .ref Mk, .ref Mo, .int (nI xa), .int (nI xs), .int (nI xo), .int (nI xv), .int xf, .int (nI xh), .ref Ms, .ref Mi, .ref Mb, .ref Me, .int (nI dy), .ref Md])), (Mp, .inl (g.2.1.1, 2, .inl (zf pe))), (Mw, .inl (g.2.1.1, 12, .inl (zf wy))), (My, .inl (g.2.1.1, 192, .inl (zf wa)))]) [2, 3, 0, 1] (by decide) rfl
        exact hret 52 _ _ _ (-1) () dX5_way_52 rfl hP hD hS (show (-1) = (if (0 ≤ x.toInt ∧ x.toInt < (pe 0 : Int)) ∧ (0 ≤ y.toInt ∧ y.toInt < (wy x.toInt.toNat : Int)) ∧ 0 ≤ w.toInt ∧ w.toInt ≤ 3 then nI (wa (16 * x.toInt.toNat + 4 * y.toInt.toNat + w.toInt.toNat)) else -1) from by first | (rw [if_pos (by omega)]; done) | (rw [if_neg (by omega)]; done))
    · rw [if_neg b_6] at hr_5
      subst hr_5
      refine zz_if_eq (tgt := 51) hx hb dX5_way_21 (by decide) (zi_c 0 rfl) (by omega) (fun c_12 => ?_) (fun c_12 => (by exfalso; omega))
      refine lv_iconst (v := (-1)) hx hb dX5_way_51 (by decide) ?_
      have hP := hP.sub (ws' := [(M, .inr (5, [.long mt, .ref Mt, .int (nI ty), .ref Mc, .ref Mp, .ref Mw, .ref My, .ref Mm, .ref Mh, .ref Mk, .ref Mo, .int (nI xa), .int (nI xs), .int (nI xo), .int (nI xv), .int xf, .int (nI xh), .ref Ms, .ref Mi, .ref Mb, .ref Me, .int (nI dy), .ref Md])), (Mp, .inl (g.2.1.1, 2, .inl (zf pe))), (Mw, .inl (g.2.1.1, 12, .inl (zf wy))), (My, .inl (g.2.1.1, 192, .inl (zf wa)))]) [2, 3, 0, 1] rfl
      have hD := hD.sub (ws' := [(M, .inr (5, [.long mt, .ref Mt, .int (nI ty), .ref Mc, .ref Mp, .ref Mw, .ref My, .ref Mm, .ref Mh, .ref Mk, .ref Mo, .int (nI xa), .int (nI xs), .int (nI xo), .int (nI xv), .int xf, .int (nI xh), .ref Ms, .ref Mi, .ref Mb, .ref Me, .int (nI dy), .ref Md])), (Mp, .inl (g.2.1.1, 2, .inl (zf pe))), (Mw, .inl (g.2.1.1, 12, .inl (zf wy))), (My, .inl (g.2.1.1, 192, .inl (zf wa)))]) [2, 3, 0, 1] (by decide) rfl
      exact hret 52 _ _ _ (-1) () dX5_way_52 rfl hP hD hS (show (-1) = (if (0 ≤ x.toInt ∧ x.toInt < (pe 0 : Int)) ∧ (0 ≤ y.toInt ∧ y.toInt < (wy x.toInt.toNat : Int)) ∧ 0 ≤ w.toInt ∧ w.toInt ≤ 3 then nI (wa (16 * x.toInt.toNat + 4 * y.toInt.toNat + w.toInt.toNat)) else -1) from by first | (rw [if_pos (by omega)]; done) | (rw [if_neg (by omega)]; done))
  · rw [if_neg b_2] at hr_1
    subst hr_1
    refine zz_if_eq (tgt := 51) hx hb dX5_way_5 (by decide) (zi_c 0 rfl) (by omega) (fun c_13 => ?_) (fun c_13 => (by exfalso; omega))
    refine lv_iconst (v := (-1)) hx hb dX5_way_51 (by decide) ?_
    have hP := hP.sub (ws' := [(M, .inr (5, [.long mt, .ref Mt, .int (nI ty), .ref Mc, .ref Mp, .ref Mw, .ref My, .ref Mm, .ref Mh, .ref Mk, .ref Mo, .int (nI xa), .int (nI xs), .int (nI xo), .int (nI xv), .int xf, .int (nI xh), .ref Ms, .ref Mi, .ref Mb, .ref Me, .int (nI dy), .ref Md])), (Mp, .inl (g.2.1.1, 2, .inl (zf pe))), (Mw, .inl (g.2.1.1, 12, .inl (zf wy))), (My, .inl (g.2.1.1, 192, .inl (zf wa)))]) [2, 3, 0, 1] rfl
    have hD := hD.sub (ws' := [(M, .inr (5, [.long mt, .ref Mt, .int (nI ty), .ref Mc, .ref Mp, .ref Mw, .ref My, .ref Mm, .ref Mh, .ref Mk, .ref Mo, .int (nI xa), .int (nI xs), .int (nI xo), .int (nI xv), .int xf, .int (nI xh), .ref Ms, .ref Mi, .ref Mb, .ref Me, .int (nI dy), .ref Md])), (Mp, .inl (g.2.1.1, 2, .inl (zf pe))), (Mw, .inl (g.2.1.1, 12, .inl (zf wy))), (My, .inl (g.2.1.1, 192, .inl (zf wa)))]) [2, 3, 0, 1] (by decide) rfl
    exact hret 52 _ _ _ (-1) () dX5_way_52 rfl hP hD hS (show (-1) = (if (0 ≤ x.toInt ∧ x.toInt < (pe 0 : Int)) ∧ (0 ≤ y.toInt ∧ y.toInt < (wy x.toInt.toNat : Int)) ∧ 0 ≤ w.toInt ∧ w.toInt ≤ 3 then nI (wa (16 * x.toInt.toNat + 4 * y.toInt.toNat + w.toInt.toNat)) else -1) from by first | (rw [if_pos (by omega)]; done) | (rw [if_neg (by omega)]; done))

set_option maxHeartbeats 4000000 in
set_option maxRecDepth 100000 in
theorem c_X5_those (l : Launch) (g : zG) (M Mt Mc Mp Mw My Mm Mh Mk Mo Ms Mi Mb Me Md : Nat) (mt : Int64) (ty xa xs xo xv xh dy : Nat) (xf : Int32) (pe : Nat → Nat) (x : Int32) (hpe : pe 0 ≤ 6) : zI l yX5_those wsX5_those 0 0 g [.ref M, .int x] [(M, .inr (5, [.long mt, .ref Mt, .int (nI ty), .ref Mc, .ref Mp, .ref Mw, .ref My, .ref Mm, .ref Mh, .ref Mk, .ref Mo, .int (nI xa), .int (nI xs), .int (nI xo), .int (nI xv), .int xf, .int (nI xh), .ref Ms, .ref Mi, .ref Mb, .ref Me, .int (nI dy), .ref Md])), (Mp, .inl (g.2.1.1, 2, .inl (zf pe)))] (fun (r : Int32) (u : Unit) => r = nI (zMask (pe 0) x)) (fun (u : Unit) => [(M, .inr (5, [.long mt, .ref Mt, .int (nI ty), .ref Mc, .ref Mp, .ref Mw, .ref My, .ref Mm, .ref Mh, .ref Mk, .ref Mo, .int (nI xa), .int (nI xs), .int (nI xo), .int (nI xv), .int xf, .int (nI xh), .ref Ms, .ref Mi, .ref Mb, .ref Me, .int (nI dy), .ref Md])), (Mp, .inl (g.2.1.1, 2, .inl (zf pe)))]) := by
  refine zz_bodyI (cc := cX5_those) (nL := 2) (own := RX5) (ty := .int) (by decide) rfl rfl (Nat.le_of_ble_eq_true rfl) ?_
  intro pP eE s mM below meth cC A Q ls F hA hK hE hP hD hl hret
  have hS : va_S A s.heap s.heap [] := va_S.rf
  obtain ⟨hx, hb, hml, hown, hts⟩ := id F
  have hiX5 : ∀ w ∈ u_ws RX5 TX5 23, w ∈ wsX5_those := by decide +kernel
  have hf0 := hts (.fieldLink RX5 17 "StepClockModel" "people" "[I") (by decide +kernel)
  have hl : lv_has ls 2 [(0, .ref M), (1, .int x)] := hl
  refine lv_iload_n hx hb dX5_those_0 rfl (lv_at hl 1 rfl) ?_
  refine lv_iconst (v := 1) hx hb dX5_those_1 (by decide) ?_
  refine lv_aload_n hx hb dX5_those_2 rfl (lv_at hl 0 rfl) ?_
  refine va_get (D := g.1) (ci := 5) (v := .ref Mp) (C := RX5) (T := TX5) (N := 23) hx hb hts hiX5 hown hK.1 hP 0 rfl rfl 4 (by decide) hf0 (fun _ h9 => h9) rfl dX5_those_3 ?_
  refine lv_iconst (v := 0) hx hb dX5_those_6 (by decide) ?_
  refine zz_iald hx hb hK.1 hP 1 0 rfl rfl 0 (zi_eq (zi_c 0 rfl) (zi_n 0) (by omega)) (by omega) (by decide) dX5_those_7 ?_
  refine lv_ishl hx hb dX5_those_8 ?_
  refine zz_topi (y := nI (2 ^ (pe 0))) (zi_shl (by omega)) ?_
  have hz6 := zp6 (np := pe 0) (by omega)
  refine lv_iconst (v := 1) hx hb dX5_those_9 (by decide) ?_
  refine lv_isub hx hb dX5_those_10 ?_
  refine zz_topi (y := nI (2 ^ (pe 0) - 1)) (zi_eq (zi_sub (zi_n _) (zi_c 1 rfl)) (zi_n _) (by omega)) ?_
  refine lv_iand hx hb dX5_those_11 ?_
  have hmk := zMask_lt hpe x
  refine zz_topi (y := nI (zMask (pe 0) x)) (zi_mask (by omega) x) ?_
  exact hret 12 _ _ _ (nI (zMask (pe 0) x)) () dX5_those_12 rfl hP hD hS (show (nI (zMask (pe 0) x)) = nI (zMask (pe 0) x) from by rfl)
