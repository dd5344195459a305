set_option maxHeartbeats 4000000 in
set_option maxRecDepth 100000 in
theorem c_X5_type_b (l : Launch) (g : zG) (M Mt Mc Mp Mw My Mm Mh Mk Mo Ms Mi Mb Me Md : Nat) (mt : Int64) (ty xa xs xo xv xh dy : Nat) (xf : Int32) (v : Int64) (x : Int32) (hx9 : ¬ (1 ≤ x.toInt ∧ x.toInt ≤ 8)) : zI l yX5_type wsX5_type 1 22 g [.ref M, .long v, .int x] [(M, .inr (5, [.long mt, .ref Mt, .int (nI ty), .ref Mc, .ref Mp, .ref Mw, .ref My, .ref Mm, .ref Mh, .ref Mk, .ref Mo, .int (nI xa), .int (nI xs), .int (nI xo), .int (nI xv), .int xf, .int (nI xh), .ref Ms, .ref Mi, .ref Mb, .ref Me, .int (nI dy), .ref Md]))] (fun (r : Int32) (u : Unit) => r = -1) (fun (u : Unit) => [(M, .inr (5, [.long mt, .ref Mt, .int (nI ty), .ref Mc, .ref Mp, .ref Mw, .ref My, .ref Mm, .ref Mh, .ref Mk, .ref Mo, .int (nI xa), .int (nI xs), .int (nI xo), .int (nI xv), .int xf, .int (nI xh), .ref Ms, .ref Mi, .ref Mb, .ref Me, .int (nI dy), .ref Md]))]) := by
  refine zz_bodyI (cc := cX5_type) (nL := 5) (own := RX5) (ty := .int) (by decide) rfl rfl (Nat.le_of_ble_eq_true rfl) ?_
  intro pP eE s mM below meth cC A Q ls F hA hK hE hP hD hl hret
  have hS : va_S A s.heap s.heap [] := va_S.rf
  obtain ⟨hx, hb, hml, hown, hts⟩ := id F
  have hl : lv_has ls 5 [(0, .ref M), (1, .long v), (3, .int x)] := hl
  have hlox := zi_lo x
  have hhix := zi_hi x
  refine lv_iload_n hx hb dX5_type_0 rfl (lv_at hl 2 rfl) ?_
  refine lv_iconst (v := 1) hx hb dX5_type_1 (by decide) ?_
  refine lv_bipush (v := 8) hx hb dX5_type_2 (by decide) ?_
  refine zz_callSI (wr := [(M, .inr (5, [.long mt, .ref Mt, .int (nI ty), .ref Mc, .ref Mp, .ref Mw, .ref My, .ref Mm, .ref Mh, .ref Mk, .ref Mo, .int (nI xa), .int (nI xs), .int (nI xo), .int (nI xv), .int xf, .int (nI xh), .ref Ms, .ref Mi, .ref Mb, .ref Me, .int (nI dy), .ref Md]))]) (wc := []) (As := [.int x, .int (nI 1), .int (nI 8)]) (rest := []) F hK hE hA hP hD hS (c_X5_in l g (x := x) (a := 1) (b := 8) (hab := by first | assumption | omega)) (va_cwS 3 hts gX5_type_X5_in rfl rfl rfl (by decide +kernel) ⟨Nat.le_of_ble_eq_true rfl, Nat.le_of_ble_eq_true rfl⟩) [] [0] rfl rfl (by decide) (by decide) (by decide) rfl rfl hl.1 (Nat.le_of_ble_eq_true rfl) dX5_type_4 ⟨Nat.le_of_ble_eq_true rfl, Nat.le_of_ble_eq_true rfl⟩ (fun r_1 u_1 H locs hw hP hD hS => ?_)
  have hP : va_P g.1 vwCl [(M, .inr (5, [.long mt, .ref Mt, .int (nI ty), .ref Mc, .ref Mp, .ref Mw, .ref My, .ref Mm, .ref Mh, .ref Mk, .ref Mo, .int (nI xa), .int (nI xs), .int (nI xo), .int (nI xv), .int xf, .int (nI xh), .ref Ms, .ref Mi, .ref Mb, .ref Me, .int (nI dy), .ref Md]))] _ := hP
  have hD : va_D A [(M, .inr (5, [.long mt, .ref Mt, .int (nI ty), .ref Mc, .ref Mp, .ref Mw, .ref My, .ref Mm, .ref Mh, .ref Mk, .ref Mo, .int (nI xa), .int (nI xs), .int (nI xo), .int (nI xv), .int xf, .int (nI xh), .ref Ms, .ref Mi, .ref Mb, .ref Me, .int (nI dy), .ref Md]))] := hD
  have hr_1 := hw
  have hr_1 : r_1 = if (1 : Int) ≤ x.toInt ∧ x.toInt ≤ (8 : Int) then 1 else 0 := hr_1
  rw [if_neg (show ¬ ((1 : Int) ≤ x.toInt ∧ x.toInt ≤ (8 : Int)) from by omega)] at hr_1
  subst hr_1
  refine zz_if_ne (tgt := 12) hx hb dX5_type_7 (by decide) (zi_c 0 rfl) (by omega) (fun c_3 => (by exfalso; omega)) (fun c_3 => ?_)
  refine lv_iconst (v := (-1)) hx hb dX5_type_10 (by decide) ?_
  exact hret 11 _ _ _ (-1) () dX5_type_11 rfl hP hD hS (show (-1) = -1 from by rfl)

set_option maxHeartbeats 4000000 in
set_option maxRecDepth 100000 in
theorem c_X5_type_f (l : Launch) (g : zG) (M Mt Mc Mp Mw My Mm Mh Mk Mo Ms Mi Mb Me Md : Nat) (mt : Int64) (ty xa xs xo xv xh dy : Nat) (xf : Int32) (v : Int64) (n : Nat) (hn9 : 1 ≤ n ∧ n ≤ 8) (hty : ty ≤ 400) (hf9 : 400 < ty + n) : zI l yX5_type wsX5_type 1 22 g [.ref M, .long v, .int (nI n)] [(M, .inr (5, [.long mt, .ref Mt, .int (nI ty), .ref Mc, .ref Mp, .ref Mw, .ref My, .ref Mm, .ref Mh, .ref Mk, .ref Mo, .int (nI xa), .int (nI xs), .int (nI xo), .int (nI xv), .int xf, .int (nI xh), .ref Ms, .ref Mi, .ref Mb, .ref Me, .int (nI dy), .ref Md]))] (fun (r : Int32) (u : Unit) => r = -3) (fun (u : Unit) => [(M, .inr (5, [.long mt, .ref Mt, .int (nI ty), .ref Mc, .ref Mp, .ref Mw, .ref My, .ref Mm, .ref Mh, .ref Mk, .ref Mo, .int (nI xa), .int (nI xs), .int (nI xo), .int (nI xv), .int xf, .int (nI xh), .ref Ms, .ref Mi, .ref Mb, .ref Me, .int (nI dy), .ref Md]))]) := by
  refine zz_bodyI (cc := cX5_type) (nL := 5) (own := RX5) (ty := .int) (by decide) rfl rfl (Nat.le_of_ble_eq_true rfl) ?_
  intro pP eE s mM below meth cC A Q ls F hA hK hE hP hD hl hret
  have hS : va_S A s.heap s.heap [] := va_S.rf
  obtain ⟨hx, hb, hml, hown, hts⟩ := id F
  have hiX5 : ∀ w ∈ u_ws RX5 TX5 23, w ∈ wsX5_type := by decide +kernel
  have hf0 := hts (.fieldLink RX5 58 "StepClockModel" "typed" "I") (by decide +kernel)
  have hl : lv_has ls 5 [(0, .ref M), (1, .long v), (3, .int (nI n))] := hl
  have hqt : (nI n).toInt = (n : Int) := by rw [zi_n n, zi_t (by omega) (by omega)]
  refine lv_iload_n hx hb dX5_type_0 rfl (lv_at hl 2 rfl) ?_
  refine lv_iconst (v := 1) hx hb dX5_type_1 (by decide) ?_
  refine lv_bipush (v := 8) hx hb dX5_type_2 (by decide) ?_
  refine zz_callSI (wr := [(M, .inr (5, [.long mt, .ref Mt, .int (nI ty), .ref Mc, .ref Mp, .ref Mw, .ref My, .ref Mm, .ref Mh, .ref Mk, .ref Mo, .int (nI xa), .int (nI xs), .int (nI xo), .int (nI xv), .int xf, .int (nI xh), .ref Ms, .ref Mi, .ref Mb, .ref Me, .int (nI dy), .ref Md]))]) (wc := []) (As := [.int (nI n), .int (nI 1), .int (nI 8)]) (rest := []) F hK hE hA hP hD hS (c_X5_in l g (x := nI n) (a := 1) (b := 8) (hab := by first | assumption | omega)) (va_cwS 3 hts gX5_type_X5_in rfl rfl rfl (by decide +kernel) ⟨Nat.le_of_ble_eq_true rfl, Nat.le_of_ble_eq_true rfl⟩) [] [0] rfl rfl (by decide) (by decide) (by decide) rfl rfl hl.1 (Nat.le_of_ble_eq_true rfl) dX5_type_4 ⟨Nat.le_of_ble_eq_true rfl, Nat.le_of_ble_eq_true rfl⟩ (fun r_1 u_1 H locs hw hP hD hS => ?_)
  have hP : va_P g.1 vwCl [(M, .inr (5, [.long mt, .ref Mt, .int (nI ty), .ref Mc, .ref Mp, .ref Mw, .ref My, .ref Mm, .ref Mh, .ref Mk, .ref Mo, .int (nI xa), .int (nI xs), .int (nI xo), .int (nI xv), .int xf, .int (nI xh), .ref Ms, .ref Mi, .ref Mb, .ref Me, .int (nI dy), .ref Md]))] _ := hP
  have hD : va_D A [(M, .inr (5, [.long mt, .ref Mt, .int (nI ty), .ref Mc, .ref Mp, .ref Mw, .ref My, .ref Mm, .ref Mh, .ref Mk, .ref Mo, .int (nI xa), .int (nI xs), .int (nI xo), .int (nI xv), .int xf, .int (nI xh), .ref Ms, .ref Mi, .ref Mb, .ref Me, .int (nI dy), .ref Md]))] := hD
  have hr_1 := hw
  have hr_1 : r_1 = if (1 : Int) ≤ (nI n).toInt ∧ (nI n).toInt ≤ (8 : Int) then 1 else 0 := hr_1
  rw [if_pos (show (1 : Int) ≤ (nI n).toInt ∧ (nI n).toInt ≤ (8 : Int) from by omega)] at hr_1
  subst hr_1
  refine zz_if_ne (tgt := 12) hx hb dX5_type_7 (by decide) (zi_c 1 rfl) (by omega) (fun c_3 => ?_) (fun c_3 => (by exfalso; omega))
  refine lv_aload_n hx hb dX5_type_12 rfl (lv_at hl 0 rfl) ?_
  refine va_get (D := g.1) (ci := 5) (v := .int (nI ty)) (C := RX5) (T := TX5) (N := 23) hx hb hts hiX5 hown hK.1 hP 0 rfl rfl 2 (by decide) hf0 (fun _ h9 => h9) rfl dX5_type_13 ?_
  refine lv_iload_n hx hb dX5_type_16 rfl (lv_at hl 2 rfl) ?_
  refine lv_iadd hx hb dX5_type_17 ?_
  refine lv_sipush (v := 400) hx hb dX5_type_18 (by decide) ?_
  refine zz_icmp_le (tgt := 27) hx hb dX5_type_21 (by decide) (zi_add (zi_n ty) (zi_n n)) (zi_c 400 rfl) (by omega) (by omega) (fun c_4 => (by exfalso; omega)) (fun c_4 => ?_)
  refine lv_bipush (v := (-3)) hx hb dX5_type_24 (by decide) ?_
  exact hret 26 _ _ _ (-3) () dX5_type_26 rfl hP hD hS (show (-3) = -3 from by rfl)

set_option maxHeartbeats 4000000 in
set_option maxRecDepth 100000 in
theorem c_X5_type (l : Launch) (g : zG) (M Mt Mc Mp Mw My Mm Mh Mk Mo Ms Mi Mb Me Md : Nat) (mt : Int64) (ty xa xs xo xv xh dy : Nat) (xf : Int32) (fb : Nat → Int32) (v : Int64) (tb : Nat → Nat) (n : Nat) (hn9 : 1 ≤ n ∧ n ≤ 8) (hty : ty + n ≤ 400) (hfb : ∀ k, k < ty → fb k &&& 255 = nI (tb k)) : zI l yX5_type wsX5_type 1 22 g [.ref M, .long v, .int (nI n)] [(M, .inr (5, [.long mt, .ref Mt, .int (nI ty), .ref Mc, .ref Mp, .ref Mw, .ref My, .ref Mm, .ref Mh, .ref Mk, .ref Mo, .int (nI xa), .int (nI xs), .int (nI xo), .int (nI xv), .int xf, .int (nI xh), .ref Ms, .ref Mi, .ref Mb, .ref Me, .int (nI dy), .ref Md])), (Mt, .inl (g.2.1.2.1, 400, .inl fb))] (fun (r : Int32) (u : Nat → Int32) => r = nI (ty + n) ∧ (∀ k, k < ty + n → u k &&& 255 = nI (zTyp tb ty n v 0 k))) (fun (u : Nat → Int32) => [(M, .inr (5, [.long mt, .ref Mt, .int (nI (ty + n)), .ref Mc, .ref Mp, .ref Mw, .ref My, .ref Mm, .ref Mh, .ref Mk, .ref Mo, .int (nI xa), .int (nI xs), .int (nI xo), .int (nI xv), .int xf, .int (nI xh), .ref Ms, .ref Mi, .ref Mb, .ref Me, .int (nI dy), .ref Md])), (Mt, .inl (g.2.1.2.1, 400, .inl u))]) := by
  refine zz_bodyI (cc := cX5_type) (nL := 5) (own := RX5) (ty := .int) (by decide) rfl rfl (Nat.le_of_ble_eq_true rfl) ?_
  intro pP eE s mM below meth cC A Q ls F hA hK hE hP hD hl hret
  have hS : va_S A s.heap s.heap [] := va_S.rf
  obtain ⟨hx, hb, hml, hown, hts⟩ := id F
  have hiX5 : ∀ w ∈ u_ws RX5 TX5 23, w ∈ wsX5_type := by decide +kernel
  have hf0 := hts (.fieldLink RX5 58 "StepClockModel" "typed" "I") (by decide +kernel)
  have hf1 := hts (.fieldLink RX5 7 "StepClockModel" "text" "[B") (by decide +kernel)
  have hf2 := hts (.constantLong RX5 62 (255)) (by decide +kernel)
  have hl : lv_has ls 5 [(0, .ref M), (1, .long v), (3, .int (nI n))] := hl
  have hqt : (nI n).toInt = (n : Int) := by rw [zi_n n, zi_t (by omega) (by omega)]
  refine lv_iload_n hx hb dX5_type_0 rfl (lv_at hl 2 rfl) ?_
  refine lv_iconst (v := 1) hx hb dX5_type_1 (by decide) ?_
  refine lv_bipush (v := 8) hx hb dX5_type_2 (by decide) ?_
  refine zz_callSI (wr := [(M, .inr (5, [.long mt, .ref Mt, .int (nI ty), .ref Mc, .ref Mp, .ref Mw, .ref My, .ref Mm, .ref Mh, .ref Mk, .ref Mo, .int (nI xa), .int (nI xs), .int (nI xo), .int (nI xv), .int xf, .int (nI xh), .ref Ms, .ref Mi, .ref Mb, .ref Me, .int (nI dy), .ref Md])), (Mt, .inl (g.2.1.2.1, 400, .inl fb))]) (wc := []) (As := [.int (nI n), .int (nI 1), .int (nI 8)]) (rest := []) F hK hE hA hP hD hS (c_X5_in l g (x := nI n) (a := 1) (b := 8) (hab := by first | assumption | omega)) (va_cwS 3 hts gX5_type_X5_in rfl rfl rfl (by decide +kernel) ⟨Nat.le_of_ble_eq_true rfl, Nat.le_of_ble_eq_true rfl⟩) [] [0, 1] rfl rfl (by decide) (by decide) (by decide) rfl rfl hl.1 (Nat.le_of_ble_eq_true rfl) dX5_type_4 ⟨Nat.le_of_ble_eq_true rfl, Nat.le_of_ble_eq_true rfl⟩ (fun r_1 u_1 H locs hw hP hD hS => ?_)
  have hP : va_P g.1 vwCl [(M, .inr (5, [.long mt, .ref Mt, .int (nI ty), .ref Mc, .ref Mp, .ref Mw, .ref My, .ref Mm, .ref Mh, .ref Mk, .ref Mo, .int (nI xa), .int (nI xs), .int (nI xo), .int (nI xv), .int xf, .int (nI xh), .ref Ms, .ref Mi, .ref Mb, .ref Me, .int (nI dy), .ref Md])), (Mt, .inl (g.2.1.2.1, 400, .inl fb))] _ := hP
  have hD : va_D A [(M, .inr (5, [.long mt, .ref Mt, .int (nI ty), .ref Mc, .ref Mp, .ref Mw, .ref My, .ref Mm, .ref Mh, .ref Mk, .ref Mo, .int (nI xa), .int (nI xs), .int (nI xo), .int (nI xv), .int xf, .int (nI xh), .ref Ms, .ref Mi, .ref Mb, .ref Me, .int (nI dy), .ref Md])), (Mt, .inl (g.2.1.2.1, 400, .inl fb))] := hD
  have hr_1 := hw
  have hr_1 : r_1 = if (1 : Int) ≤ (nI n).toInt ∧ (nI n).toInt ≤ (8 : Int) then 1 else 0 := hr_1
  rw [if_pos (show (1 : Int) ≤ (nI n).toInt ∧ (nI n).toInt ≤ (8 : Int) from by omega)] at hr_1
  subst hr_1
  refine zz_if_ne (tgt := 12) hx hb dX5_type_7 (by decide) (zi_c 1 rfl) (by omega) (fun c_3 => ?_) (fun c_3 => (by exfalso; omega))
  refine lv_aload_n hx hb dX5_type_12 rfl (lv_at hl 0 rfl) ?_
  refine va_get (D := g.1) (ci := 5) (v := .int (nI ty)) (C := RX5) (T := TX5) (N := 23) hx hb hts hiX5 hown hK.1 hP 0 rfl rfl 2 (by decide) hf0 (fun _ h9 => h9) rfl dX5_type_13 ?_
  refine lv_iload_n hx hb dX5_type_16 rfl (lv_at hl 2 rfl) ?_
  refine lv_iadd hx hb dX5_type_17 ?_
  refine lv_sipush (v := 400) hx hb dX5_type_18 (by decide) ?_
  refine zz_icmp_le (tgt := 27) hx hb dX5_type_21 (by decide) (zi_add (zi_n ty) (zi_n n)) (zi_c 400 rfl) (by omega) (by omega) (fun c_4 => ?_) (fun c_4 => (by exfalso; omega))
  refine lv_iload_n hx hb dX5_type_27 rfl (lv_at hl 2 rfl) ?_
  refine lv_iconst (v := 1) hx hb dX5_type_28 (by decide) ?_
  refine lv_isub hx hb dX5_type_29 ?_
  refine zz_topi (y := nI (n - 1)) (zi_eq (zi_sub (zi_n n) (zi_c 1 rfl)) (zi_n (n - 1)) (by omega)) ?_
  refine lv_istore (lv' := [(4, .int (nI (n - 1))), (0, .ref M), (1, .long v), (3, .int (nI n))]) hx hb dX5_type_30 hl (by decide) rfl (fun ls hl => ?_)
  have hcut32 : ∀ (fu : Nat) (j : Nat) (fb1 : Nat → Int32) (H : Heap) (locs : List Loc) (ls : Array Slot), (j ≤ n) → (∀ k, k < ty + (n - j) → fb1 k &&& 255 = nI (zTyp tb ty n v j k)) → j < fu → va_P g.1 vwCl [(M, .inr (5, [.long mt, .ref Mt, .int (nI (ty + (n - j))), .ref Mc, .ref Mp, .ref Mw, .ref My, .ref Mm, .ref Mh, .ref Mk, .ref Mo, .int (nI xa), .int (nI xs), .int (nI xo), .int (nI xv), .int xf, .int (nI xh), .ref Ms, .ref Mi, .ref Mb, .ref Me, .int (nI dy), .ref Md])), (Mt, .inl (g.2.1.2.1, 400, .inl fb1))] H → va_D A [(M, .inr (5, [.long mt, .ref Mt, .int (nI (ty + (n - j))), .ref Mc, .ref Mp, .ref Mw, .ref My, .ref Mm, .ref Mh, .ref Mk, .ref Mo, .int (nI xa), .int (nI xs), .int (nI xo), .int (nI xv), .int xf, .int (nI xh), .ref Ms, .ref Mi, .ref Mb, .ref Me, .int (nI dy), .ref Md])), (Mt, .inl (g.2.1.2.1, 400, .inl fb1))] → va_S A s.heap H locs → lv_has ls 5 [(0, .ref M), (1, .long v), (3, .int (nI n)), (4, .int (nI j - 1))] → W pP l eE { frames := 1, cells := 0, slots := 0, locals := 22 } s mM ([.ref M, .long v, .int (nI n)] : List Value).toArray below meth cC H locs 0 0 Q (F0 mM 32 ls []) := by
    intro fu
    induction fu with
    | zero =>
      intro j fb1 H locs ls hj hF hm
      exact absurd hm (Nat.not_lt_zero _)
    | succ fu ih32 =>
      intro j fb1 H locs ls hj hF hm hP hD hS hl
      refine lv_iload hx hb dX5_type_32 (lv_at hl 3 rfl) ?_
      refine zz_if_lt (tgt := 75) hx hb dX5_type_34 (by decide) (zi_sub (zi_n j) (zi_c 1 rfl)) (by omega) (fun c_5 => ?_) (fun c_5 => ?_)
      · refine lv_aload_n hx hb dX5_type_75 rfl (lv_at hl 0 rfl) ?_
        refine va_get (D := g.1) (ci := 5) (v := .int (nI (ty + (n - j)))) (C := RX5) (T := TX5) (N := 23) hx hb hts hiX5 hown hK.1 hP 0 rfl rfl 2 (by decide) hf0 (fun _ h9 => h9) rfl dX5_type_76 ?_
        have eq_6 : nI (ty + (n - j)) = nI (ty + n) := by (rw [show j = 0 by omega, Nat.sub_zero]; done)
        have hP : va_P g.1 vwCl [(M, .inr (5, [.long mt, .ref Mt, .int ((nI (ty + n))), .ref Mc, .ref Mp, .ref Mw, .ref My, .ref Mm, .ref Mh, .ref Mk, .ref Mo, .int (nI xa), .int (nI xs), .int (nI xo), .int (nI xv), .int xf, .int (nI xh), .ref Ms, .ref Mi, .ref Mb, .ref Me, .int (nI dy), .ref Md])), (Mt, .inl (g.2.1.2.1, 400, .inl fb1))] _ := Eq.mp (congrArg (fun z => va_P g.1 vwCl [(M, .inr (5, [.long mt, .ref Mt, .int (z), .ref Mc, .ref Mp, .ref Mw, .ref My, .ref Mm, .ref Mh, .ref Mk, .ref Mo, .int (nI xa), .int (nI xs), .int (nI xo), .int (nI xv), .int xf, .int (nI xh), .ref Ms, .ref Mi, .ref Mb, .ref Me, .int (nI dy), .ref Md])), (Mt, .inl (g.2.1.2.1, 400, .inl fb1))] _) eq_6) hP
        have hD : va_D A [(M, .inr (5, [.long mt, .ref Mt, .int ((nI (ty + n))), .ref Mc, .ref Mp, .ref Mw, .ref My, .ref Mm, .ref Mh, .ref Mk, .ref Mo, .int (nI xa), .int (nI xs), .int (nI xo), .int (nI xv), .int xf, .int (nI xh), .ref Ms, .ref Mi, .ref Mb, .ref Me, .int (nI dy), .ref Md])), (Mt, .inl (g.2.1.2.1, 400, .inl fb1))] := Eq.mp (congrArg (fun z => va_D A [(M, .inr (5, [.long mt, .ref Mt, .int (z), .ref Mc, .ref Mp, .ref Mw, .ref My, .ref Mm, .ref Mh, .ref Mk, .ref Mo, .int (nI xa), .int (nI xs), .int (nI xo), .int (nI xv), .int xf, .int (nI xh), .ref Ms, .ref Mi, .ref Mb, .ref Me, .int (nI dy), .ref Md])), (Mt, .inl (g.2.1.2.1, 400, .inl fb1))]) eq_6) hD
        exact hret 79 _ _ _ (nI (ty + (n - j))) fb1 dX5_type_79 rfl hP hD hS (show (nI (ty + (n - j))) = nI (ty + n) ∧ (∀ k, k < ty + n → fb1 k &&& 255 = nI (zTyp tb ty n v 0 k)) from by (have ej : j = 0 := (by omega); subst ej; exact ⟨rfl, hF⟩))
      · refine lv_aload_n hx hb dX5_type_37 rfl (lv_at hl 0 rfl) ?_
        refine va_get (D := g.1) (ci := 5) (v := .ref Mt) (C := RX5) (T := TX5) (N := 23) hx hb hts hiX5 hown hK.1 hP 0 rfl rfl 1 (by decide) hf1 (fun _ h9 => h9) rfl dX5_type_38 ?_
        refine lv_aload_n hx hb dX5_type_41 rfl (lv_at hl 0 rfl) ?_
        refine va_get (D := g.1) (ci := 5) (v := .int (nI (ty + (n - j)))) (C := RX5) (T := TX5) (N := 23) hx hb hts hiX5 hown hK.1 hP 0 rfl rfl 2 (by decide) hf0 (fun _ h9 => h9) rfl dX5_type_42 ?_
        refine lv_lload_n hx hb dX5_type_45 rfl (lv_at hl 1 rfl) ?_
        refine lv_bipush (v := 8) hx hb dX5_type_46 (by decide) ?_
        refine lv_iload hx hb dX5_type_48 (lv_at hl 3 rfl) ?_
        refine lv_imul hx hb dX5_type_50 ?_
        refine lv_lshr (v := v >>> ((8 * (nI j - 1)).toInt64 &&& 63)) hx hb dX5_type_51 rfl ?_
        refine lv_ldc2 (v := 255) hx hb hown hf2 dX5_type_52 ?_
        refine lv_land hx hb dX5_type_55 ?_
        refine lv_l2i (v := ((v >>> ((8 * (nI j - 1)).toInt64 &&& 63)) &&& 255).toInt32) hx hb dX5_type_56 rfl ?_
        refine lv_i2b (v := (((v >>> ((8 * (nI j - 1)).toInt64 &&& 63)) &&& 255).toInt32).toInt8.toInt32) hx hb dX5_type_57 rfl ?_
        refine zz_bast hx hb hK.1 hP hD hS 1 1 rfl rfl (ty + (n - j)) rfl (by omega) (by decide) dX5_type_58 (fun H locs hP hD hS => ?_)
        have hP : va_P g.1 vwCl [(M, .inr (5, [.long mt, .ref Mt, .int (nI (ty + (n - j))), .ref Mc, .ref Mp, .ref Mw, .ref My, .ref Mm, .ref Mh, .ref Mk, .ref Mo, .int (nI xa), .int (nI xs), .int (nI xo), .int (nI xv), .int xf, .int (nI xh), .ref Ms, .ref Mi, .ref Mb, .ref Me, .int (nI dy), .ref Md])), (Mt, .inl (g.2.1.2.1, 400, .inl (upd fb1 (ty + (n - j)) (vp_nar .byte ((((v >>> ((8 * (nI j - 1)).toInt64 &&& 63)) &&& 255).toInt32).toInt8.toInt32)))))] _ := hP
        have hD : va_D A [(M, .inr (5, [.long mt, .ref Mt, .int (nI (ty + (n - j))), .ref Mc, .ref Mp, .ref Mw, .ref My, .ref Mm, .ref Mh, .ref Mk, .ref Mo, .int (nI xa), .int (nI xs), .int (nI xo), .int (nI xv), .int xf, .int (nI xh), .ref Ms, .ref Mi, .ref Mb, .ref Me, .int (nI dy), .ref Md])), (Mt, .inl (g.2.1.2.1, 400, .inl (upd fb1 (ty + (n - j)) (vp_nar .byte ((((v >>> ((8 * (nI j - 1)).toInt64 &&& 63)) &&& 255).toInt32).toInt8.toInt32)))))] := hD
        refine lv_aload_n hx hb dX5_type_59 rfl (lv_at hl 0 rfl) ?_
        refine lv_dup hx hb dX5_type_60 rfl ?_
        refine va_get (D := g.1) (ci := 5) (v := .int (nI (ty + (n - j)))) (C := RX5) (T := TX5) (N := 23) hx hb hts hiX5 hown hK.1 hP 0 rfl rfl 2 (by decide) hf0 (fun _ h9 => h9) rfl dX5_type_61 ?_
        refine lv_iconst (v := 1) hx hb dX5_type_64 (by decide) ?_
        refine lv_iadd hx hb dX5_type_65 ?_
        refine zz_topi (y := nI ((ty + (n - j)) + 1)) (zi_eq (zi_add (zi_n (ty + (n - j))) (zi_c 1 rfl)) (zi_n ((ty + (n - j)) + 1)) (by omega)) ?_
        refine va_put (D := g.1) (ci := 5) (v := .int (nI ((ty + (n - j)) + 1))) (ty := .int) (C := RX5) (T := TX5) (N := 23) hx hb hts hiX5 tyX5 tyX5_ok nmX5 hown hK.1 hP hD hS 0 rfl rfl 2 (by decide) hf0 (fun _ h9 => h9) rfl (by decide +kernel) rfl rfl (Nat.le_of_ble_eq_true rfl) dX5_type_66 (fun H locs hP hD hS => ?_)
        have hP : va_P g.1 vwCl [(M, .inr (5, [.long mt, .ref Mt, .int (nI ((ty + (n - j)) + 1)), .ref Mc, .ref Mp, .ref Mw, .ref My, .ref Mm, .ref Mh, .ref Mk, .ref Mo, .int (nI xa), .int (nI xs), .int (nI xo), .int (nI xv), .int xf, .int (nI xh), .ref Ms, .ref Mi, .ref Mb, .ref Me, .int (nI dy), .ref Md])), (Mt, .inl (g.2.1.2.1, 400, .inl (upd fb1 (ty + (n - j)) (vp_nar .byte ((((v >>> ((8 * (nI j - 1)).toInt64 &&& 63)) &&& 255).toInt32).toInt8.toInt32)))))] _ := hP
        have hD : va_D A [(M, .inr (5, [.long mt, .ref Mt, .int (nI ((ty + (n - j)) + 1)), .ref Mc, .ref Mp, .ref Mw, .ref My, .ref Mm, .ref Mh, .ref Mk, .ref Mo, .int (nI xa), .int (nI xs), .int (nI xo), .int (nI xv), .int xf, .int (nI xh), .ref Ms, .ref Mi, .ref Mb, .ref Me, .int (nI dy), .ref Md])), (Mt, .inl (g.2.1.2.1, 400, .inl (upd fb1 (ty + (n - j)) (vp_nar .byte ((((v >>> ((8 * (nI j - 1)).toInt64 &&& 63)) &&& 255).toInt32).toInt8.toInt32)))))] := hD
        refine lv_iinc (v := (nI j - 1) + (-1)) (lv' := [(4, .int ((nI j - 1) + (-1))), (0, .ref M), (1, .long v), (3, .int (nI n))]) hx hb dX5_type_69 hl (k := 3) rfl rfl (by decide) rfl (fun ls hl => ?_)
        refine lv_goto (tgt := 32) hx hb dX5_type_72 (by decide) ?_
        have eq_7 : nI ((ty + (n - j)) + 1) = nI (ty + (n - (j - 1))) := by (congr 1; omega)
        have hP : va_P g.1 vwCl [(M, .inr (5, [.long mt, .ref Mt, .int ((nI (ty + (n - (j - 1))))), .ref Mc, .ref Mp, .ref Mw, .ref My, .ref Mm, .ref Mh, .ref Mk, .ref Mo, .int (nI xa), .int (nI xs), .int (nI xo), .int (nI xv), .int xf, .int (nI xh), .ref Ms, .ref Mi, .ref Mb, .ref Me, .int (nI dy), .ref Md])), (Mt, .inl (g.2.1.2.1, 400, .inl (upd fb1 (ty + (n - j)) (vp_nar .byte ((((v >>> ((8 * (nI j - 1)).toInt64 &&& 63)) &&& 255).toInt32).toInt8.toInt32)))))] _ := Eq.mp (congrArg (fun z => va_P g.1 vwCl [(M, .inr (5, [.long mt, .ref Mt, .int (z), .ref Mc, .ref Mp, .ref Mw, .ref My, .ref Mm, .ref Mh, .ref Mk, .ref Mo, .int (nI xa), .int (nI xs), .int (nI xo), .int (nI xv), .int xf, .int (nI xh), .ref Ms, .ref Mi, .ref Mb, .ref Me, .int (nI dy), .ref Md])), (Mt, .inl (g.2.1.2.1, 400, .inl (upd fb1 (ty + (n - j)) (vp_nar .byte ((((v >>> ((8 * (nI j - 1)).toInt64 &&& 63)) &&& 255).toInt32).toInt8.toInt32)))))] _) eq_7) hP
        have hD : va_D A [(M, .inr (5, [.long mt, .ref Mt, .int ((nI (ty + (n - (j - 1))))), .ref Mc, .ref Mp, .ref Mw, .ref My, .ref Mm, .ref Mh, .ref Mk, .ref Mo, .int (nI xa), .int (nI xs), .int (nI xo), .int (nI xv), .int xf, .int (nI xh), .ref Ms, .ref Mi, .ref Mb, .ref Me, .int (nI dy), .ref Md])), (Mt, .inl (g.2.1.2.1, 400, .inl (upd fb1 (ty + (n - j)) (vp_nar .byte ((((v >>> ((8 * (nI j - 1)).toInt64 &&& 63)) &&& 255).toInt32).toInt8.toInt32)))))] := Eq.mp (congrArg (fun z => va_D A [(M, .inr (5, [.long mt, .ref Mt, .int (z), .ref Mc, .ref Mp, .ref Mw, .ref My, .ref Mm, .ref Mh, .ref Mk, .ref Mo, .int (nI xa), .int (nI xs), .int (nI xo), .int (nI xv), .int xf, .int (nI xh), .ref Ms, .ref Mi, .ref Mb, .ref Me, .int (nI dy), .ref Md])), (Mt, .inl (g.2.1.2.1, 400, .inl (upd fb1 (ty + (n - j)) (vp_nar .byte ((((v >>> ((8 * (nI j - 1)).toInt64 &&& 63)) &&& 255).toInt32).toInt8.toInt32)))))]) eq_7) hD
        have eq_8 : (upd fb1 (ty + (n - j)) (vp_nar .byte ((((v >>> ((8 * (nI j - 1)).toInt64 &&& 63)) &&& 255).toInt32).toInt8.toInt32))) = (upd fb1 (ty + (n - j)) (vp_nar .byte ((((v >>> ((8 * (nI j - 1)).toInt64 &&& 63)) &&& 255).toInt32).toInt8.toInt32))) := by first | rfl | (congr 1; omega) | (congr 1; simp; done)
        have hP : va_P g.1 vwCl [(M, .inr (5, [.long mt, .ref Mt, .int (nI (ty + (n - (j - 1)))), .ref Mc, .ref Mp, .ref Mw, .ref My, .ref Mm, .ref Mh, .ref Mk, .ref Mo, .int (nI xa), .int (nI xs), .int (nI xo), .int (nI xv), .int xf, .int (nI xh), .ref Ms, .ref Mi, .ref Mb, .ref Me, .int (nI dy), .ref Md])), (Mt, .inl (g.2.1.2.1, 400, .inl ((upd fb1 (ty + (n - j)) (vp_nar .byte ((((v >>> ((8 * (nI j - 1)).toInt64 &&& 63)) &&& 255).toInt32).toInt8.toInt32))))))] _ := Eq.mp (congrArg (fun z => va_P g.1 vwCl [(M, .inr (5, [.long mt, .ref Mt, .int (nI (ty + (n - (j - 1)))), .ref Mc, .ref Mp, .ref Mw, .ref My, .ref Mm, .ref Mh, .ref Mk, .ref Mo, .int (nI xa), .int (nI xs), .int (nI xo), .int (nI xv), .int xf, .int (nI xh), .ref Ms, .ref Mi, .ref Mb, .ref Me, .int (nI dy), .ref Md])), (Mt, .inl (g.2.1.2.1, 400, .inl (z)))] _) eq_8) hP
        have hD : va_D A [(M, .inr (5, [.long mt, .ref Mt, .int (nI (ty + (n - (j - 1)))), .ref Mc, .ref Mp, .ref Mw, .ref My, .ref Mm, .ref Mh, .ref Mk, .ref Mo, .int (nI xa), .int (nI xs), .int (nI xo), .int (nI xv), .int xf, .int (nI xh), .ref Ms, .ref Mi, .ref Mb, .ref Me, .int (nI dy), .ref Md])), (Mt, .inl (g.2.1.2.1, 400, .inl ((upd fb1 (ty + (n - j)) (vp_nar .byte ((((v >>> ((8 * (nI j - 1)).toInt64 &&& 63)) &&& 255).toInt32).toInt8.toInt32))))))] := Eq.mp (congrArg (fun z => va_D A [(M, .inr (5, [.long mt, .ref Mt, .int (nI (ty + (n - (j - 1)))), .ref Mc, .ref Mp, .ref Mw, .ref My, .ref Mm, .ref Mh, .ref Mk, .ref Mo, .int (nI xa), .int (nI xs), .int (nI xo), .int (nI xv), .int xf, .int (nI xh), .ref Ms, .ref Mi, .ref Mb, .ref Me, .int (nI dy), .ref Md])), (Mt, .inl (g.2.1.2.1, 400, .inl (z)))]) eq_8) hD
        have eq_9 : (nI j - 1) + (-1) = nI (j - 1) - 1 := by exact zi_eq (zi_add (zi_sub (zi_n j) (zi_c 1 rfl)) (zi_c (-1) rfl)) (zi_sub (zi_n (j - 1)) (zi_c 1 rfl)) (by omega)
        have hl : lv_has ls 5 [(4, .int (nI (j - 1) - 1)), (0, .ref M), (1, .long v), (3, .int (nI n))] := Eq.mp (congrArg (fun z => lv_has ls 5 [(4, .int (z)), (0, .ref M), (1, .long v), (3, .int (nI n))]) eq_9) hl
        exact ih32 (j - 1) (upd fb1 (ty + (n - j)) (vp_nar .byte ((((v >>> ((8 * (nI j - 1)).toInt64 &&& 63)) &&& 255).toInt32).toInt8.toInt32))) _ _ _ (show (j - 1) ≤ n from by omega) (show ∀ k, k < ty + (n - (j - 1)) → (upd fb1 (ty + (n - j)) (vp_nar .byte ((((v >>> ((8 * (nI j - 1)).toInt64 &&& 63)) &&& 255).toInt32).toInt8.toInt32))) k &&& 255 = nI (zTyp tb ty n v (j - 1) k) from by exact zFbT (by omega) hj (by omega) hF) (by omega) hP hD hS (lv_sub hl [1, 2, 3, 0] rfl)
  have eq_10 : nI ty = nI (ty + (n - n)) := by (rw [Nat.sub_self, Nat.add_zero]; done)
  have hP : va_P g.1 vwCl [(M, .inr (5, [.long mt, .ref Mt, .int ((nI (ty + (n - n)))), .ref Mc, .ref Mp, .ref Mw, .ref My, .ref Mm, .ref Mh, .ref Mk, .ref Mo, .int (nI xa), .int (nI xs), .int (nI xo), .int (nI xv), .int xf, .int (nI xh), .ref Ms, .ref Mi, .ref Mb, .ref Me, .int (nI dy), .ref Md])), (Mt, .inl (g.2.1.2.1, 400, .inl fb))] _ := Eq.mp (congrArg (fun z => va_P g.1 vwCl [(M, .inr (5, [.long mt, .ref Mt, .int (z), .ref Mc, .ref Mp, .ref Mw, .ref My, .ref Mm, .ref Mh, .ref Mk, .ref Mo, .int (nI xa), .int (nI xs), .int (nI xo), .int (nI xv), .int xf, .int (nI xh), .ref Ms, .ref Mi, .ref Mb, .ref Me, .int (nI dy), .ref Md])), (Mt, .inl (g.2.1.2.1, 400, .inl fb))] _) eq_10) hP
  have hD : va_D A [(M, .inr (5, [.long mt, .ref Mt, .int ((nI (ty + (n - n)))), .ref Mc, .ref Mp, .ref Mw, .ref My, .ref Mm, .ref Mh, .ref Mk, .ref Mo, .int (nI xa), .int (nI xs), .int (nI xo), .int (nI xv), .int xf, .int (nI xh), .ref Ms, .ref Mi, .ref Mb, .ref Me, .int (nI dy), .ref Md])), (Mt, .inl (g.2.1.2.1, 400, .inl fb))] := Eq.mp (congrArg (fun z => va_D A [(M, .inr (5, [.long mt, .ref Mt, .int (z), .ref Mc, .ref Mp, .ref Mw, .ref My, .ref Mm, .ref Mh, .ref Mk, .ref Mo, .int (nI xa), .int (nI xs), .int (nI xo), .int (nI xv), .int xf, .int (nI xh), .ref Ms, .ref Mi, .ref Mb, .ref Me, .int (nI dy), .ref Md])), (Mt, .inl (g.2.1.2.1, 400, .inl fb))]) eq_10) hD
  have eq_11 : nI (n - 1) = nI n - 1 := by exact zi_eq (zi_n _) (zi_sub (zi_n n) (zi_c 1 rfl)) (by omega)
  have hl : lv_has ls 5 [(4, .int (nI n - 1)), (0, .ref M), (1, .long v), (3, .int (nI n))] := Eq.mp (congrArg (fun z => lv_has ls 5 [(4, .int (z)), (0, .ref M), (1, .long v), (3, .int (nI n))]) eq_11) hl
  exact hcut32 (n + 1) n fb _ _ _ (show n ≤ n from by omega) (show ∀ k, k < ty + (n - n) → fb k &&& 255 = nI (zTyp tb ty n v n k) from by (rw [Nat.sub_self, Nat.add_zero, zTyp_0]; exact hfb)) (by omega) hP hD hS (lv_sub hl [1, 2, 3, 0] rfl)

set_option maxHeartbeats 4000000 in
set_option maxRecDepth 100000 in
theorem c_X5_here (l : Launch) (g : zG) (M Mt Mc Mp Mw My Mm Mh Mk Mo Ms Mi Mb Me Md : Nat) (mt : Int64) (ty xa xs xo xv xh dy : Nat) (xf : Int32) (fb : Nat → Int32) (tb : Nat → Nat) (hxa : xa ≤ ty) (hty : ty ≤ 400) (htb : ∀ k, tb k < 256) (hfb : ∀ k, k < ty → fb k &&& 255 = nI (tb k)) : zI l yX5_here wsX5_here 0 0 g [.ref M] [(M, .inr (5, [.long mt, .ref Mt, .int (nI ty), .ref Mc, .ref Mp, .ref Mw, .ref My, .ref Mm, .ref Mh, .ref Mk, .ref Mo, .int (nI xa), .int (nI xs), .int (nI xo), .int (nI xv), .int xf, .int (nI xh), .ref Ms, .ref Mi, .ref Mb, .ref Me, .int (nI dy), .ref Md])), (Mt, .inl (g.2.1.2.1, 400, .inl fb))] (fun (r : Int32) (u : Unit) => r = zi (zAu tb ty xa)) (fun (u : Unit) => [(M, .inr (5, [.long mt, .ref Mt, .int (nI ty), .ref Mc, .ref Mp, .ref Mw, .ref My, .ref Mm, .ref Mh, .ref Mk, .ref Mo, .int (nI xa), .int (nI xs), .int (nI xo), .int (nI xv), .int xf, .int (nI xh), .ref Ms, .ref Mi, .ref Mb, .ref Me, .int (nI dy), .ref Md])), (Mt, .inl (g.2.1.2.1, 400, .inl fb))]) := by
  refine zz_bodyI (cc := cX5_here) (nL := 1) (own := RX5) (ty := .int) (by decide) rfl rfl (Nat.le_of_ble_eq_true rfl) ?_
  intro pP eE s mM below meth cC A Q ls F hA hK hE hP hD hl hret
  have hS : va_S A s.heap s.heap [] := va_S.rf
  obtain ⟨hx, hb, hml, hown, hts⟩ := id F
  have hiX5 : ∀ w ∈ u_ws RX5 TX5 23, w ∈ wsX5_here := by decide +kernel
  have hf0 := hts (.fieldLink RX5 64 "StepClockModel" "at" "I") (by decide +kernel)
  have hf1 := hts (.fieldLink RX5 58 "StepClockModel" "typed" "I") (by decide +kernel)
  have hf2 := hts (.fieldLink RX5 7 "StepClockModel" "text" "[B") (by decide +kernel)
  have hl : lv_has ls 1 [(0, .ref M)] := hl
  refine lv_aload_n hx hb dX5_here_0 rfl (lv_at hl 0 rfl) ?_
  refine va_get (D := g.1) (ci := 5) (v := .int (nI xa)) (C := RX5) (T := TX5) (N := 23) hx hb hts hiX5 hown hK.1 hP 0 rfl rfl 11 (by decide) hf0 (fun _ h9 => h9) rfl dX5_here_1 ?_
  refine lv_aload_n hx hb dX5_here_4 rfl (lv_at hl 0 rfl) ?_
  refine va_get (D := g.1) (ci := 5) (v := .int (nI ty)) (C := RX5) (T := TX5) (N := 23) hx hb hts hiX5 hown hK.1 hP 0 rfl rfl 2 (by decide) hf1 (fun _ h9 => h9) rfl dX5_here_5 ?_
  refine zz_icmp_ge (tgt := 27) hx hb dX5_here_8 (by decide) (zi_n xa) (zi_n ty) (by omega) (by omega) (fun c_1 => ?_) (fun c_1 => ?_)
  · refine lv_iconst (v := (-1)) hx hb dX5_here_27 (by decide) ?_
    exact hret 28 _ _ _ (-1) () dX5_here_28 rfl hP hD hS (show (-1) = zi (zAu tb ty xa) from by first | (rw [zAu, if_pos (by omega)]; exact zi_n _) | (rw [zAu, if_neg (by omega)]; rfl))
  · refine lv_aload_n hx hb dX5_here_11 rfl (lv_at hl 0 rfl) ?_
    refine va_get (D := g.1) (ci := 5) (v := .ref Mt) (C := RX5) (T := TX5) (N := 23) hx hb hts hiX5 hown hK.1 hP 0 rfl rfl 1 (by decide) hf2 (fun _ h9 => h9) rfl dX5_here_12 ?_
    refine lv_aload_n hx hb dX5_here_15 rfl (lv_at hl 0 rfl) ?_
    refine va_get (D := g.1) (ci := 5) (v := .int (nI xa)) (C := RX5) (T := TX5) (N := 23) hx hb hts hiX5 hown hK.1 hP 0 rfl rfl 11 (by decide) hf0 (fun _ h9 => h9) rfl dX5_here_16 ?_
    refine zz_bald hx hb hK.1 hP 1 1 rfl rfl xa rfl (by omega) (by decide) dX5_here_19 ?_
    refine lv_sipush (v := 255) hx hb dX5_here_20 (by decide) ?_
    refine lv_iand hx hb dX5_here_23 ?_
    refine zz_topi (y := nI (tb xa)) (hfb xa (by omega)) ?_
    refine lv_goto (tgt := 28) hx hb dX5_here_24 (by decide) ?_
    exact hret 28 _ _ _ (nI (tb xa)) () dX5_here_28 rfl hP hD hS (show (nI (tb xa)) = zi (zAu tb ty xa) from by first | (rw [zAu, if_pos (by omega)]; exact zi_n _) | (rw [zAu, if_neg (by omega)]; rfl))

set_option maxHeartbeats 4000000 in
set_option maxRecDepth 100000 in
theorem c_X5_meaning (l : Launch) (g : zG) (v : Nat) (hv : v < 400000000) : zI l yX5_meaning wsX5_meaning 0 0 g [.int (nI v)] [] (fun (r : Int32) (u : Unit) => r = nI (zMean v)) (fun (u : Unit) => []) := by
  refine zz_bodyI (cc := cX5_meaning) (nL := 1) (own := RX5) (ty := .int) (by decide) rfl rfl (Nat.le_of_ble_eq_true rfl) ?_
  intro pP eE s mM below meth cC A Q ls F hA hK hE hP hD hl hret
  have hS : va_S A s.heap s.heap [] := va_S.rf
  obtain ⟨hx, hb, hml, hown, hts⟩ := id F
  have hl : lv_has ls 1 [(0, .int (nI v))] := hl
  refine lv_iload_n hx hb dX5_meaning_0 rfl (lv_at hl 0 rfl) ?_
  by_cases c_1 : (v : Int) = (204 : Int)
  · refine zz_topi (y := 204) (zi_eq (zi_n v) (zi_c 204 rfl) c_1) ?_
    refine lv_lookup (off := 79) (tgt := 80) hx hb dX5_meaning_1 (by decide) (by decide) (by decide) ?_
    refine lv_iconst (v := 2) hx hb dX5_meaning_80 (by decide) ?_
    exact hret 81 _ _ _ 2 () dX5_meaning_81 rfl hP hD hS (show 2 = nI (zMean v) from by first | (rw [zMean, if_pos (by omega)]; rfl) | (rw [zMean, if_neg (by omega), if_pos (by omega)]; rfl) | (rw [zMean, if_neg (by omega), if_neg (by omega), if_pos (by omega)]; rfl) | (rw [zMean, if_neg (by omega), if_neg (by omega), if_neg (by omega), if_pos (by omega)]; rfl) | (rw [zMean, if_neg (by omega), if_neg (by omega), if_neg (by omega), if_neg (by omega), if_pos (by omega)]; rfl) | (rw [zMean, if_neg (by omega), if_neg (by omega), if_neg (by omega), if_neg (by omega), if_neg (by omega), if_pos (by omega)]; rfl) | (rw [zMean, if_neg (by omega), if_neg (by omega), if_neg (by omega), if_neg (by omega), if_neg (by omega), if_neg (by omega), if_pos (by omega)]; rfl) | (rw [zMean, if_neg (by omega), if_neg (by omega), if_neg (by omega), if_neg (by omega), if_neg (by omega), if_neg (by omega), if_neg (by omega), if_pos (by omega)]; rfl) | (rw [zMean, if_neg (by omega), if_neg (by omega), if_neg (by omega), if_neg (by omega), if_neg (by omega), if_neg (by omega), if_neg (by omega), if_neg (by omega)]; rfl))
  · by_cases c_2 : (v : Int) = (125150 : Int)
    · refine zz_topi (y := 125150) (zi_eq (zi_n v) (zi_c 125150 rfl) c_2) ?_
      refine lv_lookup (off := 90) (tgt := 91) hx hb dX5_meaning_1 (by decide) (by decide) (by decide) ?_
      refine lv_bipush (v := 7) hx hb dX5_meaning_91 (by decide) ?_
      exact hret 93 _ _ _ 7 () dX5_meaning_93 rfl hP hD hS (show 7 = nI (zMean v) from by first | (rw [zMean, if_pos (by omega)]; rfl) | (rw [zMean, if_neg (by omega), if_pos (by omega)]; rfl) | (rw [zMean, if_neg (by omega), if_neg (by omega), if_pos (by omega)]; rfl) | (rw [zMean, if_neg (by omega), if_neg (by omega), if_neg (by omega), if_pos (by omega)]; rfl) | (rw [zMean, if_neg (by omega), if_neg (by omega), if_neg (by omega), if_neg (by omega), if_pos (by omega)]; rfl) | (rw [zMean, if_neg (by omega), if_neg (by omega), if_neg (by omega), if_neg (by omega), if_neg (by omega), if_pos (by omega)]; rfl) | (rw [zMean, if_neg (by omega), if_neg (by omega), if_neg (by omega), if_neg (by omega), if_neg (by omega), if_neg (by omega), if_pos (by omega)]; rfl) | (rw [zMean, if_neg (by omega), if_neg (by omega), if_neg (by omega), if_neg (by omega), if_neg (by omega), if_neg (by omega), if_neg (by omega), if_pos (by omega)]; rfl) | (rw [zMean, if_neg (by omega), if_neg (by omega), if_neg (by omega), if_neg (by omega), if_neg (by omega), if_neg (by omega), if_neg (by omega), if_neg (by omega)]; rfl))
    · by_cases c_3 : (v : Int) = (453701 : Int)
      · refine zz_topi (y := 453701) (zi_eq (zi_n v) (zi_c 453701 rfl) c_3) ?_
        refine lv_lookup (off := 81) (tgt := 82) hx hb dX5_meaning_1 (by decide) (by decide) (by decide) ?_
        refine lv_iconst (v := 3) hx hb dX5_meaning_82 (by decide) ?_
        exact hret 83 _ _ _ 3 () dX5_meaning_83 rfl hP hD hS (show 3 = nI (zMean v) from by first | (rw [zMean, if_pos (by omega)]; rfl) | (rw [zMean, if_neg (by omega), if_pos (by omega)]; rfl) | (rw [zMean, if_neg (by omega), if_neg (by omega), if_pos (by omega)]; rfl) | (rw [zMean, if_neg (by omega), if_neg (by omega), if_neg (by omega), if_pos (by omega)]; rfl) | (rw [zMean, if_neg (by omega), if_neg (by omega), if_neg (by omega), if_neg (by omega), if_pos (by omega)]; rfl) | (rw [zMean, if_neg (by omega), if_neg (by omega), if_neg (by omega), if_neg (by omega), if_neg (by omega), if_pos (by omega)]; rfl) | (rw [zMean, if_neg (by omega), if_neg (by omega), if_neg (by omega), if_neg (by omega), if_neg (by omega), if_neg (by omega), if_pos (by omega)]; rfl) | (rw [zMean, if_neg (by omega), if_neg (by omega), if_neg (by omega), if_neg (by omega), if_neg (by omega), if_neg (by omega), if_neg (by omega), if_pos (by omega)]; rfl) | (rw [zMean, if_neg (by omega), if_neg (by omega), if_neg (by omega), if_neg (by omega), if_neg (by omega), if_neg (by omega), if_neg (by omega), if_neg (by omega)]; rfl))
      · by_cases c_4 : (v : Int) = (464141 : Int)
        · refine zz_topi (y := 464141) (zi_eq (zi_n v) (zi_c 464141 rfl) c_4) ?_
          refine lv_lookup (off := 85) (tgt := 86) hx hb dX5_meaning_1 (by decide) (by decide) (by decide) ?_
          refine lv_iconst (v := 5) hx hb dX5_meaning_86 (by decide) ?_
          exact hret 87 _ _ _ 5 () dX5_meaning_87 rfl hP hD hS (show 5 = nI (zMean v) from by first | (rw [zMean, if_pos (by omega)]; rfl) | (rw [zMean, if_neg (by omega), if_pos (by omega)]; rfl) | (rw [zMean, if_neg (by omega), if_neg (by omega), if_pos (by omega)]; rfl) | (rw [zMean, if_neg (by omega), if_neg (by omega), if_neg (by omega), if_pos (by omega)]; rfl) | (rw [zMean, if_neg (by omega), if_neg (by omega), if_neg (by omega), if_neg (by omega), if_pos (by omega)]; rfl) | (rw [zMean, if_neg (by omega), if_neg (by omega), if_neg (by omega), if_neg (by omega), if_neg (by omega), if_pos (by omega)]; rfl) | (rw [zMean, if_neg (by omega), if_neg (by omega), if_neg (by omega), if_neg (by omega), if_neg (by omega), if_neg (by omega), if_pos (by omega)]; rfl) | (rw [zMean, if_neg (by omega), if_neg (by omega), if_neg (by omega), if_neg (by omega), if_neg (by omega), if_neg (by omega), if_neg (by omega), if_pos (by omega)]; rfl) | (rw [zMean, if_neg (by omega), if_neg (by omega), if_neg (by omega), if_neg (by omega), if_neg (by omega), if_neg (by omega), if_neg (by omega), if_neg (by omega)]; rfl))
        · by_cases c_5 : (v : Int) = (1841546 : Int)
          · refine zz_topi (y := 1841546) (zi_eq (zi_n v) (zi_c 1841546 rfl) c_5) ?_
            refine lv_lookup (off := 75) (tgt := 76) hx hb dX5_meaning_1 (by decide) (by decide) (by decide) ?_
            refine lv_iconst (v := 0) hx hb dX5_meaning_76 (by decide) ?_
            exact hret 77 _ _ _ 0 () dX5_meaning_77 rfl hP hD hS (show 0 = nI (zMean v) from by first | (rw [zMean, if_pos (by omega)]; rfl) | (rw [zMean, if_neg (by omega), if_pos (by omega)]; rfl) | (rw [zMean, if_neg (by omega), if_neg (by omega), if_pos (by omega)]; rfl) | (rw [zMean, if_neg (by omega), if_neg (by omega), if_neg (by omega), if_pos (by omega)]; rfl) | (rw [zMean, if_neg (by omega), if_neg (by omega), if_neg (by omega), if_neg (by omega), if_pos (by omega)]; rfl) | (rw [zMean, if_neg (by omega), if_neg (by omega), if_neg (by omega), if_neg (by omega), if_neg (by omega), if_pos (by omega)]; rfl) | (rw [zMean, if_neg (by omega), if_neg (by omega), if_neg (by omega), if_neg (by omega), if_neg (by omega), if_neg (by omega), if_pos (by omega)]; rfl) | (rw [zMean, if_neg (by omega), if_neg (by omega), if_neg (by omega), if_neg (by omega), if_neg (by omega), if_neg (by omega), if_neg (by omega), if_pos (by omega)]; rfl) | (rw [zMean, if_neg (by omega), if_neg (by omega), if_neg (by omega), if_neg (by omega), if_neg (by omega), if_neg (by omega), if_neg (by omega), if_neg (by omega)]; rfl))
          · by_cases c_6 : (v : Int) = (4562587 : Int)
            · refine zz_topi (y := 4562587) (zi_eq (zi_n v) (zi_c 4562587 rfl) c_6) ?_
              refine lv_lookup (off := 87) (tgt := 88) hx hb dX5_meaning_1 (by decide) (by decide) (by decide) ?_
              refine lv_bipush (v := 6) hx hb dX5_meaning_88 (by decide) ?_
              exact hret 90 _ _ _ 6 () dX5_meaning_90 rfl hP hD hS (show 6 = nI (zMean v) from by first | (rw [zMean, if_pos (by omega)]; rfl) | (rw [zMean, if_neg (by omega), if_pos (by omega)]; rfl) | (rw [zMean, if_neg (by omega), if_neg (by omega), if_pos (by omega)]; rfl) | (rw [zMean, if_neg (by omega), if_neg (by omega), if_neg (by omega), if_pos (by omega)]; rfl) | (rw [zMean, if_neg (by omega), if_neg (by omega), if_neg (by omega), if_neg (by omega), if_pos (by omega)]; rfl) | (rw [zMean, if_neg (by omega), if_neg (by omega), if_neg (by omega), if_neg (by omega), if_neg (by omega), if_pos (by omega)]; rfl) | (rw [zMean, if_neg (by omega), if_neg (by omega), if_neg (by omega), if_neg (by omega), if_neg (by omega), if_neg (by omega), if_pos (by omega)]; rfl) | (rw [zMean, if_neg (by omega), if_neg (by omega), if_neg (by omega), if_neg (by omega), if_neg (by omega), if_neg (by omega), if_neg (by omega), if_pos (by omega)]; rfl) | (rw [zMean, if_neg (by omega), if_neg (by omega), if_neg (by omega), if_neg (by omega), if_neg (by omega), if_neg (by omega), if_neg (by omega), if_neg (by omega)]; rfl))
            · by_cases c_7 : (v : Int) = (6941627 : Int)
              · refine zz_topi (y := 6941627) (zi_eq (zi_n v) (zi_c 6941627 rfl) c_7) ?_
                refine lv_lookup (off := 83) (tgt := 84) hx hb dX5_meaning_1 (by decide) (by decide) (by decide) ?_
                refine lv_iconst (v := 4) hx hb dX5_meaning_84 (by decide) ?_
                exact hret 85 _ _ _ 4 () dX5_meaning_85 rfl hP hD hS (show 4 = nI (zMean v) from by first | (rw [zMean, if_pos (by omega)]; rfl) | (rw [zMean, if_neg (by omega), if_pos (by omega)]; rfl) | (rw [zMean, if_neg (by omega), if_neg (by omega), if_pos (by omega)]; rfl) | (rw [zMean, if_neg (by omega), if_neg (by omega), if_neg (by omega), if_pos (by omega)]; rfl) | (rw [zMean, if_neg (by omega), if_neg (by omega), if_neg (by omega), if_neg (by omega), if_pos (by omega)]; rfl) | (rw [zMean, if_neg (by omega), if_neg (by omega), if_neg (by omega), if_neg (by omega), if_neg (by omega), if_pos (by omega)]; rfl) | (rw [zMean, if_neg (by omega), if_neg (by omega), if_neg (by omega), if_neg (by omega), if_neg (by omega), if_neg (by omega), if_pos (by omega)]; rfl) | (rw [zMean, if_neg (by omega), if_neg (by omega), if_neg (by omega), if_neg (by omega), if_neg (by omega), if_neg (by omega), if_neg (by omega), if_pos (by omega)]; rfl) | (rw [zMean, if_neg (by omega), if_neg (by omega), if_neg (by omega), if_neg (by omega), if_neg (by omega), if_neg (by omega), if_neg (by omega), if_neg (by omega)]; rfl))
              · by_cases c_8 : (v : Int) = (232608281 : Int)
                · refine zz_topi (y := 232608281) (zi_eq (zi_n v) (zi_c 232608281 rfl) c_8) ?_
                  refine lv_lookup (off := 77) (tgt := 78) hx hb dX5_meaning_1 (by decide) (by decide) (by decide) ?_
                  refine lv_iconst (v := 1) hx hb dX5_meaning_78 (by decide) ?_
                  exact hret 79 _ _ _ 1 () dX5_meaning_79 rfl hP hD hS (show 1 = nI (zMean v) from by first | (rw [zMean, if_pos (by omega)]; rfl) | (rw [zMean, if_neg (by omega), if_pos (by omega)]; rfl) | (rw [zMean, if_neg (by omega), if_neg (by omega), if_pos (by omega)]; rfl) | (rw [zMean, if_neg (by omega), if_neg (by omega), if_neg (by omega), if_pos (by omega)]; rfl) | (rw [zMean, if_neg (by omega), if_neg (by omega), if_neg (by omega), if_neg (by omega), if_pos (by omega)]; rfl) | (rw [zMean, if_neg (by omega), if_neg (by omega), if_neg (by omega), if_neg (by omega), if_neg (by omega), if_pos (by omega)]; rfl) | (rw [zMean, if_neg (by omega), if_neg (by omega), if_neg (by omega), if_neg (by omega), if_neg (by omega), if_neg (by omega), if_pos (by omega)]; rfl) | (rw [zMean, if_neg (by omega), if_neg (by omega), if_neg (by omega), if_neg (by omega), if_neg (by omega), if_neg (by omega), if_neg (by omega), if_pos (by omega)]; rfl) | (rw [zMean, if_neg (by omega), if_neg (by omega), if_neg (by omega), if_neg (by omega), if_neg (by omega), if_neg (by omega), if_neg (by omega), if_neg (by omega)]; rfl))
                · have c_1_t : ¬ (nI v).toInt = 204 := by rw [(zi_n v), zi_t (by omega) (by omega)]; exact c_1
                  have c_2_t : ¬ (nI v).toInt = 125150 := by rw [(zi_n v), zi_t (by omega) (by omega)]; exact c_2
                  have c_3_t : ¬ (nI v).toInt = 453701 := by rw [(zi_n v), zi_t (by omega) (by omega)]; exact c_3
                  have c_4_t : ¬ (nI v).toInt = 464141 := by rw [(zi_n v), zi_t (by omega) (by omega)]; exact c_4
                  have c_5_t : ¬ (nI v).toInt = 1841546 := by rw [(zi_n v), zi_t (by omega) (by omega)]; exact c_5
                  have c_6_t : ¬ (nI v).toInt = 4562587 := by rw [(zi_n v), zi_t (by omega) (by omega)]; exact c_6
                  have c_7_t : ¬ (nI v).toInt = 6941627 := by rw [(zi_n v), zi_t (by omega) (by omega)]; exact c_7
                  have c_8_t : ¬ (nI v).toInt = 232608281 := by rw [(zi_n v), zi_t (by omega) (by omega)]; exact c_8
                  refine lv_lookup (off := 93) (tgt := 94) hx hb dX5_meaning_1 (by decide) (by first | (simp only [Op.lookupswitch.offset_cons, eq_comm (b := (nI v).toInt), c_1_t, eq_comm (b := (nI v).toInt), c_2_t, eq_comm (b := (nI v).toInt), c_3_t, eq_comm (b := (nI v).toInt), c_4_t, eq_comm (b := (nI v).toInt), c_5_t, eq_comm (b := (nI v).toInt), c_6_t, eq_comm (b := (nI v).toInt), c_7_t, eq_comm (b := (nI v).toInt), c_8_t, if_false, ite_false]; rfl) | simp [Op.lookupswitch.offset, c_1_t, c_2_t, c_3_t, c_4_t, c_5_t, c_6_t, c_7_t, c_8_t]) (by decide) ?_
                  refine lv_bipush (v := 11) hx hb dX5_meaning_94 (by decide) ?_
                  exact hret 96 _ _ _ 11 () dX5_meaning_96 rfl hP hD hS (show 11 = nI (zMean v) from by first | (rw [zMean, if_pos (by omega)]; rfl) | (rw [zMean, if_neg (by omega), if_pos (by omega)]; rfl) | (rw [zMean, if_neg (by omega), if_neg (by omega), if_pos (by omega)]; rfl) | (rw [zMean, if_neg (by omega), if_neg (by omega), if_neg (by omega), if_pos (by omega)]; rfl) | (rw [zMean, if_neg (by omega), if_neg (by omega), if_neg (by omega), if_neg (by omega), if_pos (by omega)]; rfl) | (rw [zMean, if_neg (by omega), if_neg (by omega), if_neg (by omega), if_neg (by omega), if_neg (by omega), if_pos (by omega)]; rfl) | (rw [zMean, if_neg (by omega), if_neg (by omega), if_neg (by omega), if_neg (by omega), if_neg (by omega), if_neg (by omega), if_pos (by omega)]; rfl) | (rw [zMean, if_neg (by omega), if_neg (by omega), if_neg (by omega), if_neg (by omega), if_neg (by omega), if_neg (by omega), if_neg (by omega), if_pos (by omega)]; rfl) | (rw [zMean, if_neg (by omega), if_neg (by omega), if_neg (by omega), if_neg (by omega), if_neg (by omega), if_neg (by omega), if_neg (by omega), if_neg (by omega)]; rfl))
