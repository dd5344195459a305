set_option maxHeartbeats 4000000 in
set_option maxRecDepth 100000 in
theorem c_X5_due (l : Launch) (g : zG) (M Mt Mc Mp Mw My Mm Mh Mk Mo Ms Mi Mb Me Md : Nat) (mt : Int64) (ty xh dy : Nat) (fb : Nat → Int32) (tb : Nat → Nat) (q : Nat) (f : Nat) (bb : Nat) (hq : q ≤ ty) (hf : f ≤ 401) (hty : ty ≤ 400) (htb : ∀ k, tb k < 256) (hfb : ∀ k, k < ty → fb k &&& 255 = nI (tb k)) (hbb : bb ≤ 1) : zI l yX5_due wsX5_due 2 44 g [.ref M, .int (nI bb)] [(M, .inr (5, [.long mt, .ref Mt, .int (nI ty), .ref Mc, .ref Mp, .ref Mw, .ref My, .ref Mm, .ref Mh, .ref Mk, .ref Mo, .int (nI (zTokE tb ty q)), .int (nI (zTokS tb ty q)), .int (nI (zSrt tb ty q)), .int (nI (zVal tb ty q)), .int (zFa f), .int (nI xh), .ref Ms, .ref Mi, .ref Mb, .ref Me, .int (nI dy), .ref Md])), (Mt, .inl (g.2.1.2.1, 400, .inl fb))] (fun (r : Int32) (u : (Nat) × (Nat)) => r = nI (zVal tb ty q) ∧ zStep (bb = 1) tb ty q f u.1 u.2) (fun (u : (Nat) × (Nat)) => [(M, .inr (5, [.long mt, .ref Mt, .int (nI ty), .ref Mc, .ref Mp, .ref Mw, .ref My, .ref Mm, .ref Mh, .ref Mk, .ref Mo, .int (nI (zTokE tb ty u.1)), .int (nI (zTokS tb ty u.1)), .int (nI (zSrt tb ty u.1)), .int (nI (zVal tb ty u.1)), .int (zFa u.2), .int (nI xh), .ref Ms, .ref Mi, .ref Mb, .ref Me, .int (nI dy), .ref Md])), (Mt, .inl (g.2.1.2.1, 400, .inl fb))]) := by
  refine zz_bodyI (cc := cX5_due) (nL := 3) (own := RX5) (ty := .int) (by decide) rfl rfl (Nat.le_of_ble_eq_true rfl) ?_
  intro pP eE s mM below meth cC A Q ls F hA hK hE hP hD hl hret
  have hS : va_S A s.heap s.heap [] := va_S.rf
  obtain ⟨hx, hb, hml, hown, hts⟩ := id F
  have hiX5 : ∀ w ∈ u_ws RX5 TX5 23, w ∈ wsX5_due := by decide +kernel
  have hf0 := hts (.fieldLink RX5 74 "StepClockModel" "value" "I") (by decide +kernel)
  have hf1 := hts (.fieldLink RX5 84 "StepClockModel" "fault" "I") (by decide +kernel)
  have hf2 := hts (.fieldLink RX5 71 "StepClockModel" "start" "I") (by decide +kernel)
  have hl : lv_has ls 3 [(0, .ref M), (1, .int (nI bb))] := hl
  have hqe : (zTokE tb ty q) ≤ ty := zTokE_le hq
  have hqs : (zTokS tb ty q) ≤ ty := zTokS_le hq
  have hqo := zSrt_le tb ty q
  have hqv := zVal_le htb ty q
  have hfz := zFi_s f
  refine lv_aload_n hx hb dX5_due_0 rfl (lv_at hl 0 rfl) ?_
  refine va_get (D := g.1) (ci := 5) (v := .int (nI (zVal tb ty q))) (C := RX5) (T := TX5) (N := 23) hx hb hts hiX5 hown hK.1 hP 0 rfl rfl 14 (by decide) hf0 (fun _ h9 => h9) rfl dX5_due_1 ?_
  refine lv_istore_n (lv' := [(2, .int (nI (zVal tb ty q))), (0, .ref M), (1, .int (nI bb))]) hx hb dX5_due_4 rfl hl (by decide) rfl (fun ls hl => ?_)
  refine lv_aload_n hx hb dX5_due_5 rfl (lv_at hl 1 rfl) ?_
  refine va_get (D := g.1) (ci := 5) (v := .int (zFa f)) (C := RX5) (T := TX5) (N := 23) hx hb hts hiX5 hown hK.1 hP 0 rfl rfl 15 (by decide) hf1 (fun _ h9 => h9) rfl dX5_due_6 ?_
  refine lv_bipush (v := (-9)) hx hb dX5_due_9 (by decide) ?_
  refine zz_icmp_ne (tgt := 33) hx hb dX5_due_11 (by decide) (zFa_z f) (zi_c (-9) rfl) (by omega) (by omega) (fun c_1 => ?_) (fun c_1 => ?_)
  · refine lv_iload_n hx hb dX5_due_33 rfl (lv_at hl 0 rfl) ?_
    exact hret 34 _ _ _ (nI (zVal tb ty q)) (q, f) dX5_due_34 rfl hP hD hS (show (nI (zVal tb ty q)) = nI (zVal tb ty q) ∧ zStep (bb = 1) tb ty q f q f from by exact ⟨rfl, fun a b => by first | exact ⟨rfl, by omega⟩ | (exfalso; omega), fun a b => by first | exact ⟨rfl, rfl⟩ | (exfalso; omega), fun a => by first | exact ⟨rfl, rfl⟩ | (exfalso; omega), by omega, by omega⟩)
  · refine lv_iload_n hx hb dX5_due_14 rfl (lv_at hl 2 rfl) ?_
    refine zz_if_eq (tgt := 25) hx hb dX5_due_15 (by decide) (zi_n bb) (by omega) (fun c_2 => ?_) (fun c_2 => ?_)
    · refine lv_aload_n hx hb dX5_due_25 rfl (lv_at hl 1 rfl) ?_
      refine lv_aload_n hx hb dX5_due_26 rfl (lv_at hl 1 rfl) ?_
      refine va_get (D := g.1) (ci := 5) (v := .int (nI (zTokS tb ty q))) (C := RX5) (T := TX5) (N := 23) hx hb hts hiX5 hown hK.1 hP 0 rfl rfl 12 (by decide) hf2 (fun _ h9 => h9) rfl dX5_due_27 ?_
      refine va_put (D := g.1) (ci := 5) (v := .int (nI (zTokS tb ty q))) (ty := .int) (C := RX5) (T := TX5) (N := 23) hx hb hts hiX5 tyX5 tyX5_ok nmX5 hown hK.1 hP hD hS 0 rfl rfl 15 (by decide) hf1 (fun _ h9 => h9) rfl (by decide +kernel) rfl rfl (Nat.le_of_ble_eq_true rfl) dX5_due_30 (fun H locs hP hD hS => ?_)
      have hP : va_P g.1 vwCl [(M, .inr (5, [.long mt, .ref Mt, .int (nI ty), .ref Mc, .ref Mp, .ref Mw, .ref My, .ref Mm, .ref Mh, .ref Mk, .ref Mo, .int (nI (zTokE tb ty q)), .int (nI (zTokS tb ty q)), .int (nI (zSrt tb ty q)), .int (nI (zVal tb ty q)), .int (nI (zTokS tb ty q)), .int (nI xh), .ref Ms, .ref Mi, .ref Mb, .ref Me, .int (nI dy), .ref Md])), (Mt, .inl (g.2.1.2.1, 400, .inl fb))] _ := hP
      have hD : va_D A [(M, .inr (5, [.long mt, .ref Mt, .int (nI ty), .ref Mc, .ref Mp, .ref Mw, .ref My, .ref Mm, .ref Mh, .ref Mk, .ref Mo, .int (nI (zTokE tb ty q)), .int (nI (zTokS tb ty q)), .int (nI (zSrt tb ty q)), .int (nI (zVal tb ty q)), .int (nI (zTokS tb ty q)), .int (nI xh), .ref Ms, .ref Mi, .ref Mb, .ref Me, .int (nI dy), .ref Md])), (Mt, .inl (g.2.1.2.1, 400, .inl fb))] := hD
      refine lv_iload_n hx hb dX5_due_33 rfl (lv_at hl 0 rfl) ?_
      have eq_3 : nI (zTokS tb ty q) = zFa (zTokS tb ty q) := by (exact zFa_lt (by omega))
      have hP : va_P g.1 vwCl [(M, .inr (5, [.long mt, .ref Mt, .int (nI ty), .ref Mc, .ref Mp, .ref Mw, .ref My, .ref Mm, .ref Mh, .ref Mk, .ref Mo, .int (nI (zTokE tb ty q)), .int (nI (zTokS tb ty q)), .int (nI (zSrt tb ty q)), .int (nI (zVal tb ty q)), .int ((zFa (zTokS tb ty q))), .int (nI xh), .ref Ms, .ref Mi, .ref Mb, .ref Me, .int (nI dy), .ref Md])), (Mt, .inl (g.2.1.2.1, 400, .inl fb))] _ := Eq.mp (congrArg (fun z => va_P g.1 vwCl [(M, .inr (5, [.long mt, .ref Mt, .int (nI ty), .ref Mc, .ref Mp, .ref Mw, .ref My, .ref Mm, .ref Mh, .ref Mk, .ref Mo, .int (nI (zTokE tb ty q)), .int (nI (zTokS tb ty q)), .int (nI (zSrt tb ty q)), .int (nI (zVal tb ty q)), .int (z), .int (nI xh), .ref Ms, .ref Mi, .ref Mb, .ref Me, .int (nI dy), .ref Md])), (Mt, .inl (g.2.1.2.1, 400, .inl fb))] _) eq_3) hP
      have hD : va_D A [(M, .inr (5, [.long mt, .ref Mt, .int (nI ty), .ref Mc, .ref Mp, .ref Mw, .ref My, .ref Mm, .ref Mh, .ref Mk, .ref Mo, .int (nI (zTokE tb ty q)), .int (nI (zTokS tb ty q)), .int (nI (zSrt tb ty q)), .int (nI (zVal tb ty q)), .int ((zFa (zTokS tb ty q))), .int (nI xh), .ref Ms, .ref Mi, .ref Mb, .ref Me, .int (nI dy), .ref Md])), (Mt, .inl (g.2.1.2.1, 400, .inl fb))] := Eq.mp (congrArg (fun z => va_D A [(M, .inr (5, [.long mt, .ref Mt, .int (nI ty), .ref Mc, .ref Mp, .ref Mw, .ref My, .ref Mm, .ref Mh, .ref Mk, .ref Mo, .int (nI (zTokE tb ty q)), .int (nI (zTokS tb ty q)), .int (nI (zSrt tb ty q)), .int (nI (zVal tb ty q)), .int (z), .int (nI xh), .ref Ms, .ref Mi, .ref Mb, .ref Me, .int (nI dy), .ref Md])), (Mt, .inl (g.2.1.2.1, 400, .inl fb))]) eq_3) hD
      exact hret 34 _ _ _ (nI (zVal tb ty q)) (q, (zTokS tb ty q)) dX5_due_34 rfl hP hD hS (show (nI (zVal tb ty q)) = nI (zVal tb ty q) ∧ zStep (bb = 1) tb ty q f q (zTokS tb ty q) from by exact ⟨rfl, fun a b => by first | exact ⟨rfl, by omega⟩ | (exfalso; omega), fun a b => by first | exact ⟨rfl, rfl⟩ | (exfalso; omega), fun a => by first | exact ⟨rfl, rfl⟩ | (exfalso; omega), by omega, by omega⟩)
    · refine lv_aload_n hx hb dX5_due_18 rfl (lv_at hl 1 rfl) ?_
      refine zz_callV (wr := []) (wc := [(M, .inr (5, [.long mt, .ref Mt, .int (nI ty), .ref Mc, .ref Mp, .ref Mw, .ref My, .ref Mm, .ref Mh, .ref Mk, .ref Mo, .int (nI (zTokE tb ty q)), .int (nI (zTokS tb ty q)), .int (nI (zSrt tb ty q)), .int (nI (zVal tb ty q)), .int (zFa f), .int (nI xh), .ref Ms, .ref Mi, .ref Mb, .ref Me, .int (nI dy), .ref Md])), (Mt, .inl (g.2.1.2.1, 400, .inl fb))]) (As := []) (rest := []) F hK hE hA hP hD hS (c_X5_next l g (M := M) (Mt := Mt) (Mc := Mc) (Mp := Mp) (Mw := Mw) (My := My) (Mm := Mm) (Mh := Mh) (Mk := Mk) (Mo := Mo) (Ms := Ms) (Mi := Mi) (Mb := Mb) (Me := Me) (Md := Md) (mt := mt) (ty := ty) (xa := (zTokE tb ty q)) (xs := (zTokS tb ty q)) (xo := (zSrt tb ty q)) (xv := (zVal tb ty q)) (xh := xh) (dy := dy) (xf := zFa f) (fb := fb) (tb := tb) (hxa := by first | assumption | omega) (hty := by first | assumption | omega) (htb := by first | assumption | omega) (hfb := by first | assumption | omega)) (cwV 0 hts gX5_due_X5_next rfl rfl rfl (by decide +kernel) ⟨Nat.le_of_ble_eq_true rfl, Nat.le_of_ble_eq_true rfl⟩) [0, 1] [] rfl rfl (by decide) (by decide) (by decide) 5 0 rfl rfl rfl rfl rfl hl.1 (Nat.le_of_ble_eq_true rfl) dX5_due_19 ⟨Nat.le_of_ble_eq_true rfl, Nat.le_of_ble_eq_true rfl⟩ (fun u_4 H locs hw hP hD hS => ?_)
      have hP : va_P g.1 vwCl [(M, .inr (5, [.long mt, .ref Mt, .int (nI ty), .ref Mc, .ref Mp, .ref Mw, .ref My, .ref Mm, .ref Mh, .ref Mk, .ref Mo, .int (nI (zTokE tb ty (zTokE tb ty q))), .int (nI (zTokS tb ty (zTokE tb ty q))), .int (nI (zSrt tb ty (zTokE tb ty q))), .int (nI (zVal tb ty (zTokE tb ty q))), .int (zFa f), .int (nI xh), .ref Ms, .ref Mi, .ref Mb, .ref Me, .int (nI dy), .ref Md])), (Mt, .inl (g.2.1.2.1, 400, .inl fb))] _ := hP
      have hD : va_D A [(M, .inr (5, [.long mt, .ref Mt, .int (nI ty), .ref Mc, .ref Mp, .ref Mw, .ref My, .ref Mm, .ref Mh, .ref Mk, .ref Mo, .int (nI (zTokE tb ty (zTokE tb ty q))), .int (nI (zTokS tb ty (zTokE tb ty q))), .int (nI (zSrt tb ty (zTokE tb ty q))), .int (nI (zVal tb ty (zTokE tb ty q))), .int (zFa f), .int (nI xh), .ref Ms, .ref Mi, .ref Mb, .ref Me, .int (nI dy), .ref Md])), (Mt, .inl (g.2.1.2.1, 400, .inl fb))] := hD
      refine lv_goto (tgt := 33) hx hb dX5_due_22 (by decide) ?_
      refine lv_iload_n hx hb dX5_due_33 rfl (lv_at hl 0 rfl) ?_
      exact hret 34 _ _ _ (nI (zVal tb ty q)) ((zTokE tb ty q), f) dX5_due_34 rfl hP hD hS (show (nI (zVal tb ty q)) = nI (zVal tb ty q) ∧ zStep (bb = 1) tb ty q f (zTokE tb ty q) f from by exact ⟨rfl, fun a b => by first | exact ⟨rfl, by omega⟩ | (exfalso; omega), fun a b => by first | exact ⟨rfl, rfl⟩ | (exfalso; omega), fun a => by first | exact ⟨rfl, rfl⟩ | (exfalso; omega), by omega, by omega⟩)

set_option maxHeartbeats 4000000 in
set_option maxRecDepth 100000 in
theorem c_X5_number (l : Launch) (g : zG) (M Mt Mc Mp Mw My Mm Mh Mk Mo Ms Mi Mb Me Md : Nat) (mt : Int64) (ty xh dy : Nat) (fb : Nat → Int32) (tb : Nat → Nat) (q : Nat) (f : Nat) (lo : Nat) (hi : Nat) (hq : q ≤ ty) (hf : f ≤ 401) (hty : ty ≤ 400) (htb : ∀ k, tb k < 256) (hfb : ∀ k, k < ty → fb k &&& 255 = nI (tb k)) (hlo : lo ≤ 1000 ∧ hi ≤ 1000) : zI l yX5_number wsX5_number 3 66 g [.ref M, .int (nI lo), .int (nI hi)] [(M, .inr (5, [.long mt, .ref Mt, .int (nI ty), .ref Mc, .ref Mp, .ref Mw, .ref My, .ref Mm, .ref Mh, .ref Mk, .ref Mo, .int (nI (zTokE tb ty q)), .int (nI (zTokS tb ty q)), .int (nI (zSrt tb ty q)), .int (nI (zVal tb ty q)), .int (zFa f), .int (nI xh), .ref Ms, .ref Mi, .ref Mb, .ref Me, .int (nI dy), .ref Md])), (Mt, .inl (g.2.1.2.1, 400, .inl fb))] (fun (r : Int32) (u : (Nat) × (Nat)) => r = nI (zVal tb ty q) ∧ zStep (zNmO tb ty q lo hi) tb ty q f u.1 u.2) (fun (u : (Nat) × (Nat)) => [(M, .inr (5, [.long mt, .ref Mt, .int (nI ty), .ref Mc, .ref Mp, .ref Mw, .ref My, .ref Mm, .ref Mh, .ref Mk, .ref Mo, .int (nI (zTokE tb ty u.1)), .int (nI (zTokS tb ty u.1)), .int (nI (zSrt tb ty u.1)), .int (nI (zVal tb ty u.1)), .int (zFa u.2), .int (nI xh), .ref Ms, .ref Mi, .ref Mb, .ref Me, .int (nI dy), .ref Md])), (Mt, .inl (g.2.1.2.1, 400, .inl fb))]) := by
  refine zz_bodyI (cc := cX5_number) (nL := 3) (own := RX5) (ty := .int) (by decide) rfl rfl (Nat.le_of_ble_eq_true rfl) ?_
  intro pP eE s mM below meth cC A Q ls F hA hK hE hP hD hl hret
  have hS : va_S A s.heap s.heap [] := va_S.rf
  obtain ⟨hx, hb, hml, hown, hts⟩ := id F
  have hiX5 : ∀ w ∈ u_ws RX5 TX5 23, w ∈ wsX5_number := by decide +kernel
  have hf0 := hts (.fieldLink RX5 77 "StepClockModel" "sort" "I") (by decide +kernel)
  have hf1 := hts (.fieldLink RX5 74 "StepClockModel" "value" "I") (by decide +kernel)
  have hl : lv_has ls 3 [(0, .ref M), (1, .int (nI lo)), (2, .int (nI hi))] := hl
  have hqe : (zTokE tb ty q) ≤ ty := zTokE_le hq
  have hqs : (zTokS tb ty q) ≤ ty := zTokS_le hq
  have hqo := zSrt_le tb ty q
  have hqv := zVal_le htb ty q
  have hfz := zFi_s f
  obtain ⟨-, -, -, -, -, -, -, -, -, hw2, -⟩ := zSrt_w (tb := tb) (tx := ty) (q := q)
  have hvn := zVal_n (tb := tb) (tx := ty) (q := q)
  refine lv_aload_n hx hb dX5_number_0 rfl (lv_at hl 0 rfl) ?_
  refine lv_aload_n hx hb dX5_number_1 rfl (lv_at hl 0 rfl) ?_
  refine va_get (D := g.1) (ci := 5) (v := .int (nI (zSrt tb ty q))) (C := RX5) (T := TX5) (N := 23) hx hb hts hiX5 hown hK.1 hP 0 rfl rfl 13 (by decide) hf0 (fun _ h9 => h9) rfl dX5_number_2 ?_
  refine lv_bipush (v := 9) hx hb dX5_number_5 (by decide) ?_
  refine zz_icmp_ne (tgt := 26) hx hb dX5_number_7 (by decide) (zi_n (zSrt tb ty q)) (zi_c 9 rfl) (by omega) (by omega) (fun c_1 => ?_) (fun c_1 => ?_)
  · refine lv_iconst (v := 0) hx hb dX5_number_26 (by decide) ?_
    refine zz_callI (wr := []) (wc := [(M, .inr (5, [.long mt, .ref Mt, .int (nI ty), .ref Mc, .ref Mp, .ref Mw, .ref My, .ref Mm, .ref Mh, .ref Mk, .ref Mo, .int (nI (zTokE tb ty q)), .int (nI (zTokS tb ty q)), .int (nI (zSrt tb ty q)), .int (nI (zVal tb ty q)), .int (zFa f), .int (nI xh), .ref Ms, .ref Mi, .ref Mb, .ref Me, .int (nI dy), .ref Md])), (Mt, .inl (g.2.1.2.1, 400, .inl fb))]) (As := [.int (nI 0)]) (rest := []) F hK hE hA hP hD hS (c_X5_due l g (M := M) (Mt := Mt) (Mc := Mc) (Mp := Mp) (Mw := Mw) (My := My) (Mm := Mm) (Mh := Mh) (Mk := Mk) (Mo := Mo) (Ms := Ms) (Mi := Mi) (Mb := Mb) (Me := Me) (Md := Md) (mt := mt) (ty := ty) (xh := xh) (dy := dy) (fb := fb) (tb := tb) (q := q) (f := f) (bb := 0) (hq := by first | assumption | omega) (hf := by first | assumption | omega) (hty := by first | assumption | omega) (htb := by first | assumption | omega) (hfb := by first | assumption | omega) (hbb := by first | assumption | omega)) (cwV 1 hts gX5_number_X5_due rfl rfl rfl (by decide +kernel) ⟨Nat.le_of_ble_eq_true rfl, Nat.le_of_ble_eq_true rfl⟩) [0, 1] [] rfl rfl (by decide) (by decide) (by decide) 5 0 rfl rfl rfl rfl rfl hl.1 (Nat.le_of_ble_eq_true rfl) dX5_number_27 ⟨Nat.le_of_ble_eq_true rfl, Nat.le_of_ble_eq_true rfl⟩ (fun r_2 u_2 H locs hw hP hD hS => ?_)
    obtain ⟨q9_2, f9_2⟩ := u_2
    have hP : va_P g.1 vwCl [(M, .inr (5, [.long mt, .ref Mt, .int (nI ty), .ref Mc, .ref Mp, .ref Mw, .ref My, .ref Mm, .ref Mh, .ref Mk, .ref Mo, .int (nI (zTokE tb ty q9_2)), .int (nI (zTokS tb ty q9_2)), .int (nI (zSrt tb ty q9_2)), .int (nI (zVal tb ty q9_2)), .int (zFa f9_2), .int (nI xh), .ref Ms, .ref Mi, .ref Mb, .ref Me, .int (nI dy), .ref Md])), (Mt, .inl (g.2.1.2.1, 400, .inl fb))] _ := hP
    have hD : va_D A [(M, .inr (5, [.long mt, .ref Mt, .int (nI ty), .ref Mc, .ref Mp, .ref Mw, .ref My, .ref Mm, .ref Mh, .ref Mk, .ref Mo, .int (nI (zTokE tb ty q9_2)), .int (nI (zTokS tb ty q9_2)), .int (nI (zSrt tb ty q9_2)), .int (nI (zVal tb ty q9_2)), .int (zFa f9_2), .int (nI xh), .ref Ms, .ref Mi, .ref Mb, .ref Me, .int (nI dy), .ref Md])), (Mt, .inl (g.2.1.2.1, 400, .inl fb))] := hD
    obtain ⟨hr_2, hw_2⟩ := hw
    have hw_2 : zStep (0 = 1) tb ty q f q9_2 f9_2 := hw_2
    have hr_2 : r_2 = nI (zVal tb ty q) := hr_2
    subst hr_2
    have hW := hw_2
    exact hret 30 _ _ _ (nI (zVal tb ty q)) (q9_2, f9_2) dX5_number_30 rfl hP hD hS (show (nI (zVal tb ty q)) = nI (zVal tb ty q) ∧ zStep (zNmO tb ty q lo hi) tb ty q f q9_2 f9_2 from by first | (have hn1 : zNmO tb ty q lo hi := ⟨hw2.mpr (by omega), by have h2 := hvn (hw2.mpr (by omega)); omega, by have h2 := hvn (hw2.mpr (by omega)); omega⟩; exact ⟨rfl, zStep_n hW ⟨fun _ => hn1, fun _ => rfl⟩⟩) | (have hn0 : ¬ zNmO tb ty q lo hi := (fun g9 => by have h1 := hw2.mp g9.1; have h2 := hvn g9.1; have h3 := g9.2.1; have h4 := g9.2.2; omega); exact ⟨rfl, zStep_n hW ⟨fun e => absurd e (by decide), fun e => absurd e hn0⟩⟩))
  · refine lv_aload_n hx hb dX5_number_10 rfl (lv_at hl 0 rfl) ?_
    refine va_get (D := g.1) (ci := 5) (v := .int (nI (zVal tb ty q))) (C := RX5) (T := TX5) (N := 23) hx hb hts hiX5 hown hK.1 hP 0 rfl rfl 14 (by decide) hf1 (fun _ h9 => h9) rfl dX5_number_11 ?_
    refine lv_iload_n hx hb dX5_number_14 rfl (lv_at hl 1 rfl) ?_
    refine lv_iload_n hx hb dX5_number_15 rfl (lv_at hl 2 rfl) ?_
    have hzn := zi_nt (n := (zVal tb ty q)) (by omega)
    refine zz_callSI (wr := [(M, .inr (5, [.long mt, .ref Mt, .int (nI ty), .ref Mc, .ref Mp, .ref Mw, .ref My, .ref Mm, .ref Mh, .ref Mk, .ref Mo, .int (nI (zTokE tb ty q)), .int (nI (zTokS tb ty q)), .int (nI (zSrt tb ty q)), .int (nI (zVal tb ty q)), .int (zFa f), .int (nI xh), .ref Ms, .ref Mi, .ref Mb, .ref Me, .int (nI dy), .ref Md])), (Mt, .inl (g.2.1.2.1, 400, .inl fb))]) (wc := []) (As := [.int (nI (zVal tb ty q)), .int (nI lo), .int (nI hi)]) (rest := [.ref M]) F hK hE hA hP hD hS (c_X5_in l g (x := nI (zVal tb ty q)) (a := lo) (b := hi) (hab := by first | assumption | omega)) (va_cwS 3 hts gX5_number_X5_in rfl rfl rfl (by decide +kernel) ⟨Nat.le_of_ble_eq_true rfl, Nat.le_of_ble_eq_true rfl⟩) [] [0, 1] rfl rfl (by decide) (by decide) (by decide) rfl rfl hl.1 (Nat.le_of_ble_eq_true rfl) dX5_number_16 ⟨Nat.le_of_ble_eq_true rfl, Nat.le_of_ble_eq_true rfl⟩ (fun r_3 u_3 H locs hw hP hD hS => ?_)
    have hP : va_P g.1 vwCl [(M, .inr (5, [.long mt, .ref Mt, .int (nI ty), .ref Mc, .ref Mp, .ref Mw, .ref My, .ref Mm, .ref Mh, .ref Mk, .ref Mo, .int (nI (zTokE tb ty q)), .int (nI (zTokS tb ty q)), .int (nI (zSrt tb ty q)), .int (nI (zVal tb ty q)), .int (zFa f), .int (nI xh), .ref Ms, .ref Mi, .ref Mb, .ref Me, .int (nI dy), .ref Md])), (Mt, .inl (g.2.1.2.1, 400, .inl fb))] _ := hP
    have hD : va_D A [(M, .inr (5, [.long mt, .ref Mt, .int (nI ty), .ref Mc, .ref Mp, .ref Mw, .ref My, .ref Mm, .ref Mh, .ref Mk, .ref Mo, .int (nI (zTokE tb ty q)), .int (nI (zTokS tb ty q)), .int (nI (zSrt tb ty q)), .int (nI (zVal tb ty q)), .int (zFa f), .int (nI xh), .ref Ms, .ref Mi, .ref Mb, .ref Me, .int (nI dy), .ref Md])), (Mt, .inl (g.2.1.2.1, 400, .inl fb))] := hD
    have hr_3 := hw
    have hr_3 : r_3 = if (lo : Int) ≤ (nI (zVal tb ty q)).toInt ∧ (nI (zVal tb ty q)).toInt ≤ (hi : Int) then 1 else 0 := hr_3
    by_cases b_4 : (lo : Int) ≤ (nI (zVal tb ty q)).toInt ∧ (nI (zVal tb ty q)).toInt ≤ (hi : Int)
    · rw [if_pos b_4] at hr_3
      subst hr_3
      refine zz_if_eq (tgt := 26) hx hb dX5_number_19 (by decide) (zi_c 1 rfl) (by omega) (fun c_5 => (by exfalso; omega)) (fun c_5 => ?_)
      refine lv_iconst (v := 1) hx hb dX5_number_22 (by decide) ?_
      refine lv_goto (tgt := 27) hx hb dX5_number_23 (by decide) ?_
      refine zz_callI (wr := []) (wc := [(M, .inr (5, [.long mt, .ref Mt, .int (nI ty), .ref Mc, .ref Mp, .ref Mw, .ref My, .ref Mm, .ref Mh, .ref Mk, .ref Mo, .int (nI (zTokE tb ty q)), .int (nI (zTokS tb ty q)), .int (nI (zSrt tb ty q)), .int (nI (zVal tb ty q)), .int (zFa f), .int (nI xh), .ref Ms, .ref Mi, .ref Mb, .ref Me, .int (nI dy), .ref Md])), (Mt, .inl (g.2.1.2.1, 400, .inl fb))]) (As := [.int (nI 1)]) (rest := []) F hK hE hA hP hD hS (c_X5_due l g (M := M) (Mt := Mt) (Mc := Mc) (Mp := Mp) (Mw := Mw) (My := My) (Mm := Mm) (Mh := Mh) (Mk := Mk) (Mo := Mo) (Ms := Ms) (Mi := Mi) (Mb := Mb) (Me := Me) (Md := Md) (mt := mt) (ty := ty) (xh := xh) (dy := dy) (fb := fb) (tb := tb) (q := q) (f := f) (bb := 1) (hq := by first | assumption | omega) (hf := by first | assumption | omega) (hty := by first | assumption | omega) (htb := by first | assumption | omega) (hfb := by first | assumption | omega) (hbb := by first | assumption | omega)) (cwV 1 hts gX5_number_X5_due rfl rfl rfl (by decide +kernel) ⟨Nat.le_of_ble_eq_true rfl, Nat.le_of_ble_eq_true rfl⟩) [0, 1] [] rfl rfl (by decide) (by decide) (by decide) 5 0 rfl rfl rfl rfl rfl hl.1 (Nat.le_of_ble_eq_true rfl) dX5_number_27 ⟨Nat.le_of_ble_eq_true rfl, Nat.le_of_ble_eq_true rfl⟩ (fun r_6 u_6 H locs hw hP hD hS => ?_)
      obtain ⟨q9_6, f9_6⟩ := u_6
      have hP : va_P g.1 vwCl [(M, .inr (5, [.long mt, .ref Mt, .int (nI ty), .ref Mc, .ref Mp, .ref Mw, .ref My, .ref Mm, .ref Mh, .ref Mk, .ref Mo, .int (nI (zTokE tb ty q9_6)), .int (nI (zTokS tb ty q9_6)), .int (nI (zSrt tb ty q9_6)), .int (nI (zVal tb ty q9_6)), .int (zFa f9_6), .int (nI xh), .ref Ms, .ref Mi, .ref Mb, .ref Me, .int (nI dy), .ref Md])), (Mt, .inl (g.2.1.2.1, 400, .inl fb))] _ := hP
      have hD : va_D A [(M, .inr (5, [.long mt, .ref Mt, .int (nI ty), .ref Mc, .ref Mp, .ref Mw, .ref My, .ref Mm, .ref Mh, .ref Mk, .ref Mo, .int (nI (zTokE tb ty q9_6)), .int (nI (zTokS tb ty q9_6)), .int (nI (zSrt tb ty q9_6)), .int (nI (zVal tb ty q9_6)), .int (zFa f9_6), .int (nI xh), .ref Ms, .ref Mi, .ref Mb, .ref Me, .int (nI dy), .ref Md])), (Mt, .inl (g.2.1.2.1, 400, .inl fb))] := hD
      obtain ⟨hr_6, hw_6⟩ := hw
      have hw_6 : zStep (1 = 1) tb ty q f q9_6 f9_6 := hw_6
      have hr_6 : r_6 = nI (zVal tb ty q) := hr_6
      subst hr_6
      have hW := hw_6
      exact hret 30 _ _ _ (nI (zVal tb ty q)) (q9_6, f9_6) dX5_number_30 rfl hP hD hS (show (nI (zVal tb ty q)) = nI (zVal tb ty q) ∧ zStep (zNmO tb ty q lo hi) tb ty q f q9_6 f9_6 from by first | (have hn1 : zNmO tb ty q lo hi := ⟨hw2.mpr (by omega), by have h2 := hvn (hw2.mpr (by omega)); omega, by have h2 := hvn (hw2.mpr (by omega)); omega⟩; exact ⟨rfl, zStep_n hW ⟨fun _ => hn1, fun _ => rfl⟩⟩) | (have hn0 : ¬ zNmO tb ty q lo hi := (fun g9 => by have h1 := hw2.mp g9.1; have h2 := hvn g9.1; have h3 := g9.2.1; have h4 := g9.2.2; omega); exact ⟨rfl, zStep_n hW ⟨fun e => absurd e (by decide), fun e => absurd e hn0⟩⟩))
    · rw [if_neg b_4] at hr_3
      subst hr_3
      refine zz_if_eq (tgt := 26) hx hb dX5_number_19 (by decide) (zi_c 0 rfl) (by omega) (fun c_7 => ?_) (fun c_7 => (by exfalso; omega))
      refine lv_iconst (v := 0) hx hb dX5_number_26 (by decide) ?_
      refine zz_callI (wr := []) (wc := [(M, .inr (5, [.long mt, .ref Mt, .int (nI ty), .ref Mc, .ref Mp, .ref Mw, .ref My, .ref Mm, .ref Mh, .ref Mk, .ref Mo, .int (nI (zTokE tb ty q)), .int (nI (zTokS tb ty q)), .int (nI (zSrt tb ty q)), .int (nI (zVal tb ty q)), .int (zFa f), .int (nI xh), .ref Ms, .ref Mi, .ref Mb, .ref Me, .int (nI dy), .ref Md])), (Mt, .inl (g.2.1.2.1, 400, .inl fb))]) (As := [.int (nI 0)]) (rest := []) F hK hE hA hP hD hS (c_X5_due l g (M := M) (Mt := Mt) (Mc := Mc) (Mp := Mp) (Mw := Mw) (My := My) (Mm := Mm) (Mh := Mh) (Mk := Mk) (Mo := Mo) (Ms := Ms) (Mi := Mi) (Mb := Mb) (Me := Me) (Md := Md) (mt := mt) (ty := ty) (xh := xh) (dy := dy) (fb := fb) (tb := tb) (q := q) (f := f) (bb := 0) (hq := by first | assumption | omega) (hf := by first | assumption | omega) (hty := by first | assumption | omega) (htb := by first | assumption | omega) (hfb := by first | assumption | omega) (hbb := by first | assumption | omega)) (cwV 1 hts gX5_number_X5_due rfl rfl rfl (by decide +kernel) ⟨Nat.le_of_ble_eq_true rfl, Nat.le_of_ble_eq_true rfl⟩) [0, 1] [] rfl rfl (by decide) (by decide) (by decide) 5 0 rfl rfl rfl rfl rfl hl.1 (Nat.le_of_ble_eq_true rfl) dX5_number_27 ⟨Nat.le_of_ble_eq_true rfl, Nat.le_of_ble_eq_true rfl⟩ (fun r_8 u_8 H locs hw hP hD hS => ?_)
      obtain ⟨q9_8, f9_8⟩ := u_8
      have hP : va_P g.1 vwCl [(M, .inr (5, [.long mt, .ref Mt, .int (nI ty), .ref Mc, .ref Mp, .ref Mw, .ref My, .ref Mm, .ref Mh, .ref Mk, .ref Mo, .int (nI (zTokE tb ty q9_8)), .int (nI (zTokS tb ty q9_8)), .int (nI (zSrt tb ty q9_8)), .int (nI (zVal tb ty q9_8)), .int (zFa f9_8), .int (nI xh), .ref Ms, .ref Mi, .ref Mb, .ref Me, .int (nI dy), .ref Md])), (Mt, .inl (g.2.1.2.1, 400, .inl fb))] _ := hP
      have hD : va_D A [(M, .inr (5, [.long mt, .ref Mt, .int (nI ty), .ref Mc, .ref Mp, .ref Mw, .ref My, .ref Mm, .ref Mh, .ref Mk, .ref Mo, .int (nI (zTokE tb ty q9_8)), .int (nI (zTokS tb ty q9_8)), .int (nI (zSrt tb ty q9_8)), .int (nI (zVal tb ty q9_8)), .int (zFa f9_8), .int (nI xh), .ref Ms, .ref Mi, .ref Mb, .ref Me, .int (nI dy), .ref Md])), (Mt, .inl (g.2.1.2.1, 400, .inl fb))] := hD
      obtain ⟨hr_8, hw_8⟩ := hw
      have hw_8 : zStep (0 = 1) tb ty q f q9_8 f9_8 := hw_8
      have hr_8 : r_8 = nI (zVal tb ty q) := hr_8
      subst hr_8
      have hW := hw_8
      exact hret 30 _ _ _ (nI (zVal tb ty q)) (q9_8, f9_8) dX5_number_30 rfl hP hD hS (show (nI (zVal tb ty q)) = nI (zVal tb ty q) ∧ zStep (zNmO tb ty q lo hi) tb ty q f q9_8 f9_8 from by first | (have hn1 : zNmO tb ty q lo hi := ⟨hw2.mpr (by omega), by have h2 := hvn (hw2.mpr (by omega)); omega, by have h2 := hvn (hw2.mpr (by omega)); omega⟩; exact ⟨rfl, zStep_n hW ⟨fun _ => hn1, fun _ => rfl⟩⟩) | (have hn0 : ¬ zNmO tb ty q lo hi := (fun g9 => by have h1 := hw2.mp g9.1; have h2 := hvn g9.1; have h3 := g9.2.1; have h4 := g9.2.2; omega); exact ⟨rfl, zStep_n hW ⟨fun e => absurd e (by decide), fun e => absurd e hn0⟩⟩))

set_option maxHeartbeats 4000000 in
set_option maxRecDepth 100000 in
theorem c_X5_may (l : Launch) (g : zG) (M Mt Mc Mp Mw My Mm Mh Mk Mo Ms Mi Mb Me Md : Nat) (mt : Int64) (ty xa xs xo xv xh dy : Nat) (xf : Int32) (pe : Nat → Nat) (wy : Nat → Nat) (mr : Nat → Nat) (wo : Nat → Nat) (wh : Nat) (hwh : wh ≤ 11) (hxh : xh ≤ 1) (hpe : pe 1 ≤ 6) (hmr : mr 1 ≤ 4) (hwo : wo 1 ≤ 6) (hwy : ∀ k, wy k ≤ 4) : zI l yX5_may wsX5_may 0 0 g [.ref M, .int (nI wh)] [(M, .inr (5, [.long mt, .ref Mt, .int (nI ty), .ref Mc, .ref Mp, .ref Mw, .ref My, .ref Mm, .ref Mh, .ref Mk, .ref Mo, .int (nI xa), .int (nI xs), .int (nI xo), .int (nI xv), .int xf, .int (nI xh), .ref Ms, .ref Mi, .ref Mb, .ref Me, .int (nI dy), .ref Md])), (Mp, .inl (g.2.1.1, 2, .inl (zf pe))), (Mw, .inl (g.2.1.1, 12, .inl (zf wy))), (Mm, .inl (g.2.1.1, 2, .inl (zf mr))), (Mk, .inl (g.2.1.1, 2, .inl (zf wo)))] (fun (r : Int32) (u : Unit) => r = if (wh = 0 ∧ xh = 0) ∨ (wh = 1 ∧ pe 1 < 6) ∨ ((wh = 2 ∨ wh = 3) ∧ 0 < pe 1 ∧ wy (6 + pe 1 - 1) < 4) ∨ (wh = 4 ∧ mr 1 < 4) ∨ (wh = 5 ∧ wo 1 < 6) then 1 else 0) (fun (u : Unit) => [(M, .inr (5, [.long mt, .ref Mt, .int (nI ty), .ref Mc, .ref Mp, .ref Mw, .ref My, .ref Mm, .ref Mh, .ref Mk, .ref Mo, .int (nI xa), .int (nI xs), .int (nI xo), .int (nI xv), .int xf, .int (nI xh), .ref Ms, .ref Mi, .ref Mb, .ref Me, .int (nI dy), .ref Md])), (Mp, .inl (g.2.1.1, 2, .inl (zf pe))), (Mw, .inl (g.2.1.1, 12, .inl (zf wy))), (Mm, .inl (g.2.1.1, 2, .inl (zf mr))), (Mk, .inl (g.2.1.1, 2, .inl (zf wo)))]) := by
  refine zz_bodyI (cc := cX5_may) (nL := 2) (own := RX5) (ty := .boolean) (by decide) rfl rfl (Nat.le_of_ble_eq_true rfl) ?_
  intro pP eE s mM below meth cC A Q ls F hA hK hE hP hD hl hret
  have hS : va_S A s.heap s.heap [] := va_S.rf
  obtain ⟨hx, hb, hml, hown, hts⟩ := id F
  have hiX5 : ∀ w ∈ u_ws RX5 TX5 23, w ∈ wsX5_may := by decide +kernel
  have hf0 := hts (.fieldLink RX5 94 "StepClockModel" "hasClock" "Z") (by decide +kernel)
  have hf1 := hts (.fieldLink RX5 17 "StepClockModel" "people" "[I") (by decide +kernel)
  have hf2 := hts (.fieldLink RX5 20 "StepClockModel" "ways" "[I") (by decide +kernel)
  have hf3 := hts (.fieldLink RX5 26 "StepClockModel" "marches" "[I") (by decide +kernel)
  have hf4 := hts (.fieldLink RX5 32 "StepClockModel" "works" "[I") (by decide +kernel)
  have hl : lv_has ls 2 [(0, .ref M), (1, .int (nI wh))] := hl
  refine lv_iload_n hx hb dX5_may_0 rfl (lv_at hl 1 rfl) ?_
  by_cases c_1 : (wh : Int) = (0 : Int)
  · refine zz_topi (y := 0) (zi_eq (zi_n wh) (zi_c 0 rfl) c_1) ?_
    refine lv_tableIn (off := 39) (tgt := 40) hx hb dX5_may_1 (by decide) (by decide) (by decide) (by decide) ?_
    refine lv_aload_n hx hb dX5_may_40 rfl (lv_at hl 0 rfl) ?_
    refine va_get (D := g.1) (ci := 5) (v := .int (nI xh)) (C := RX5) (T := TX5) (N := 23) hx hb hts hiX5 hown hK.1 hP 0 rfl rfl 16 (by decide) hf0 (fun _ h9 => h9) rfl dX5_may_41 ?_
    refine zz_if_ne (tgt := 51) hx hb dX5_may_44 (by decide) (zi_n xh) (by omega) (fun c_2 => ?_) (fun c_2 => ?_)
    · refine lv_iconst (v := 0) hx hb dX5_may_51 (by decide) ?_
      exact hret 52 _ _ _ 0 () dX5_may_52 rfl hP hD hS (show 0 = if (wh = 0 ∧ xh = 0) ∨ (wh = 1 ∧ pe 1 < 6) ∨ ((wh = 2 ∨ wh = 3) ∧ 0 < pe 1 ∧ wy (6 + pe 1 - 1) < 4) ∨ (wh = 4 ∧ mr 1 < 4) ∨ (wh = 5 ∧ wo 1 < 6) then 1 else 0 from by first | (rw [if_pos (by omega)]; done) | (rw [if_neg (by omega)]; done))
    · refine lv_iconst (v := 1) hx hb dX5_may_47 (by decide) ?_
      refine lv_goto (tgt := 52) hx hb dX5_may_48 (by decide) ?_
      exact hret 52 _ _ _ 1 () dX5_may_52 rfl hP hD hS (show 1 = if (wh = 0 ∧ xh = 0) ∨ (wh = 1 ∧ pe 1 < 6) ∨ ((wh = 2 ∨ wh = 3) ∧ 0 < pe 1 ∧ wy (6 + pe 1 - 1) < 4) ∨ (wh = 4 ∧ mr 1 < 4) ∨ (wh = 5 ∧ wo 1 < 6) then 1 else 0 from by first | (rw [if_pos (by omega)]; done) | (rw [if_neg (by omega)]; done))
  · by_cases c_3 : (wh : Int) = (1 : Int)
    · refine zz_topi (y := 1) (zi_eq (zi_n wh) (zi_c 1 rfl) c_3) ?_
      refine lv_tableIn (off := 52) (tgt := 53) hx hb dX5_may_1 (by decide) (by decide) (by decide) (by decide) ?_
      refine lv_aload_n hx hb dX5_may_53 rfl (lv_at hl 0 rfl) ?_
      refine va_get (D := g.1) (ci := 5) (v := .ref Mp) (C := RX5) (T := TX5) (N := 23) hx hb hts hiX5 hown hK.1 hP 0 rfl rfl 4 (by decide) hf1 (fun _ h9 => h9) rfl dX5_may_54 ?_
      refine lv_iconst (v := 1) hx hb dX5_may_57 (by decide) ?_
      refine zz_iald hx hb hK.1 hP 1 0 rfl rfl 1 (zi_eq (zi_c 1 rfl) (zi_n 1) (by omega)) (by omega) (by decide) dX5_may_58 ?_
      refine lv_bipush (v := 6) hx hb dX5_may_59 (by decide) ?_
      refine zz_icmp_ge (tgt := 68) hx hb dX5_may_61 (by decide) (zi_n (pe 1)) (zi_c 6 rfl) (by omega) (by omega) (fun c_4 => ?_) (fun c_4 => ?_)
      · refine lv_iconst (v := 0) hx hb dX5_may_68 (by decide) ?_
        exact hret 69 _ _ _ 0 () dX5_may_69 rfl hP hD hS (show 0 = if (wh = 0 ∧ xh = 0) ∨ (wh = 1 ∧ pe 1 < 6) ∨ ((wh = 2 ∨ wh = 3) ∧ 0 < pe 1 ∧ wy (6 + pe 1 - 1) < 4) ∨ (wh = 4 ∧ mr 1 < 4) ∨ (wh = 5 ∧ wo 1 < 6) then 1 else 0 from by first | (rw [if_pos (by omega)]; done) | (rw [if_neg (by omega)]; done))
      · refine lv_iconst (v := 1) hx hb dX5_may_64 (by decide) ?_
        refine lv_goto (tgt := 69) hx hb dX5_may_65 (by decide) ?_
        exact hret 69 _ _ _ 1 () dX5_may_69 rfl hP hD hS (show 1 = if (wh = 0 ∧ xh = 0) ∨ (wh = 1 ∧ pe 1 < 6) ∨ ((wh = 2 ∨ wh = 3) ∧ 0 < pe 1 ∧ wy (6 + pe 1 - 1) < 4) ∨ (wh = 4 ∧ mr 1 < 4) ∨ (wh = 5 ∧ wo 1 < 6) then 1 else 0 from by first | (rw [if_pos (by omega)]; done) | (rw [if_neg (by omega)]; done))
    · by_cases c_5 : (wh : Int) = (2 : Int)
      · refine zz_topi (y := 2) (zi_eq (zi_n wh) (zi_c 2 rfl) c_5) ?_
        refine lv_tableIn (off := 69) (tgt := 70) hx hb dX5_may_1 (by decide) (by decide) (by decide) (by decide) ?_
        refine lv_aload_n hx hb dX5_may_70 rfl (lv_at hl 0 rfl) ?_
        refine va_get (D := g.1) (ci := 5) (v := .ref Mp) (C := RX5) (T := TX5) (N := 23) hx hb hts hiX5 hown hK.1 hP 0 rfl rfl 4 (by decide) hf1 (fun _ h9 => h9) rfl dX5_may_71 ?_
        refine lv_iconst (v := 1) hx hb dX5_may_74 (by decide) ?_
        refine zz_iald hx hb hK.1 hP 1 0 rfl rfl 1 (zi_eq (zi_c 1 rfl) (zi_n 1) (by omega)) (by omega) (by decide) dX5_may_75 ?_
        refine zz_if_le (tgt := 103) hx hb dX5_may_76 (by decide) (zi_n (pe 1)) (by omega) (fun c_6 => ?_) (fun c_6 => ?_)
        · refine lv_iconst (v := 0) hx hb dX5_may_103 (by decide) ?_
          exact hret 104 _ _ _ 0 () dX5_may_104 rfl hP hD hS (show 0 = if (wh = 0 ∧ xh = 0) ∨ (wh = 1 ∧ pe 1 < 6) ∨ ((wh = 2 ∨ wh = 3) ∧ 0 < pe 1 ∧ wy (6 + pe 1 - 1) < 4) ∨ (wh = 4 ∧ mr 1 < 4) ∨ (wh = 5 ∧ wo 1 < 6) then 1 else 0 from by first | (rw [if_pos (by omega)]; done) | (rw [if_neg (by omega)]; done))
        · refine lv_aload_n hx hb dX5_may_79 rfl (lv_at hl 0 rfl) ?_
          refine va_get (D := g.1) (ci := 5) (v := .ref Mw) (C := RX5) (T := TX5) (N := 23) hx hb hts hiX5 hown hK.1 hP 0 rfl rfl 5 (by decide) hf2 (fun _ h9 => h9) rfl dX5_may_80 ?_
          refine lv_bipush (v := 6) hx hb dX5_may_83 (by decide) ?_
          refine lv_aload_n hx hb dX5_may_85 rfl (lv_at hl 0 rfl) ?_
          refine va_get (D := g.1) (ci := 5) (v := .ref Mp) (C := RX5) (T := TX5) (N := 23) hx hb hts hiX5 hown hK.1 hP 0 rfl rfl 4 (by decide) hf1 (fun _ h9 => h9) rfl dX5_may_86 ?_
          refine lv_iconst (v := 1) hx hb dX5_may_89 (by decide) ?_
          refine zz_iald hx hb hK.1 hP 1 0 rfl rfl 1 (zi_eq (zi_c 1 rfl) (zi_n 1) (by omega)) (by omega) (by decide) dX5_may_90 ?_
          refine lv_iadd hx hb dX5_may_91 ?_
          refine lv_iconst (v := 1) hx hb dX5_may_92 (by decide) ?_
          refine lv_isub hx hb dX5_may_93 ?_
          refine zz_iald hx hb hK.1 hP 2 0 rfl rfl ((6 + (pe 1)) - 1) (zi_eq (zi_sub (zi_add (zi_c 6 rfl) (zi_n (pe 1))) (zi_c 1 rfl)) (zi_n ((6 + (pe 1)) - 1)) (by omega)) (by omega) (by decide) dX5_may_94 ?_
          have hq_7 := hwy ((6 + (pe 1)) - 1)
          refine lv_iconst (v := 4) hx hb dX5_may_95 (by decide) ?_
          refine zz_icmp_ge (tgt := 103) hx hb dX5_may_96 (by decide) (zi_n (wy ((6 + (pe 1)) - 1))) (zi_c 4 rfl) (by omega) (by omega) (fun c_8 => ?_) (fun c_8 => ?_)
          · refine lv_iconst (v := 0) hx hb dX5_may_103 (by decide) ?_
            exact hret 104 _ _ _ 0 () dX5_may_104 rfl hP hD hS (show 0 = if (wh = 0 ∧ xh = 0) ∨ (wh = 1 ∧ pe 1 < 6) ∨ ((wh = 2 ∨ wh = 3) ∧ 0 < pe 1 ∧ wy (6 + pe 1 - 1) < 4) ∨ (wh = 4 ∧ mr 1 < 4) ∨ (wh = 5 ∧ wo 1 < 6) then 1 else 0 from by first | (rw [if_pos (by omega)]; done) | (rw [if_neg (by omega)]; done))
          · refine lv_iconst (v := 1) hx hb dX5_may_99 (by decide) ?_
            refine lv_goto (tgt := 104) hx hb dX5_may_100 (by decide) ?_
            exact hret 104 _ _ _ 1 () dX5_may_104 rfl hP hD hS (show 1 = if (wh = 0 ∧ xh = 0) ∨ (wh = 1 ∧ pe 1 < 6) ∨ ((wh = 2 ∨ wh = 3) ∧ 0 < pe 1 ∧ wy (6 + pe 1 - 1) < 4) ∨ (wh = 4 ∧ mr 1 < 4) ∨ (wh = 5 ∧ wo 1 < 6) then 1 else 0 from by first | (rw [if_pos (by omega)]; done) | (rw [if_neg (by omega)]; done))
      · by_cases c_9 : (wh : Int) = (3 : Int)
        · refine zz_topi (y := 3) (zi_eq (zi_n wh) (zi_c 3 rfl) c_9) ?_
          refine lv_tableIn (off := 69) (tgt := 70) hx hb dX5_may_1 (by decide) (by decide) (by decide) (by decide) ?_
          refine lv_aload_n hx hb dX5_may_70 rfl (lv_at hl 0 rfl) ?_
          refine va_get (D := g.1) (ci := 5) (v := .ref Mp) (C := RX5) (T := TX5) (N := 23) hx hb hts hiX5 hown hK.1 hP 0 rfl rfl 4 (by decide) hf1 (fun _ h9 => h9) rfl dX5_may_71 ?_
          refine lv_iconst (v := 1) hx hb dX5_may_74 (by decide) ?_
          refine zz_iald hx hb hK.1 hP 1 0 rfl rfl 1 (zi_eq (zi_c 1 rfl) (zi_n 1) (by omega)) (by omega) (by decide) dX5_may_75 ?_
          refine zz_if_le (tgt := 103) hx hb dX5_may_76 (by decide) (zi_n (pe 1)) (by omega) (fun c_10 => ?_) (fun c_10 => ?_)
          · refine lv_iconst (v := 0) hx hb dX5_may_103 (by decide) ?_
            exact hret 104 _ _ _ 0 () dX5_may_104 rfl hP hD hS (show 0 = if (wh = 0 ∧ xh = 0) ∨ (wh = 1 ∧ pe 1 < 6) ∨ ((wh = 2 ∨ wh = 3) ∧ 0 < pe 1 ∧ wy (6 + pe 1 - 1) < 4) ∨ (wh = 4 ∧ mr 1 < 4) ∨ (wh = 5 ∧ wo 1 < 6) then 1 else 0 from by first | (rw [if_pos (by omega)]; done) | (rw [if_neg (by omega)]; done))
          · refine lv_aload_n hx hb dX5_may_79 rfl (lv_at hl 0 rfl) ?_
            refine va_get (D := g.1) (ci := 5) (v := .ref Mw) (C := RX5) (T := TX5) (N := 23) hx hb hts hiX5 hown hK.1 hP 0 rfl rfl 5 (by decide) hf2 (fun _ h9 => h9) rfl dX5_may_80 ?_
            refine lv_bipush (v := 6) hx hb dX5_may_83 (by decide) ?_
            refine lv_aload_n hx hb dX5_may_85 rfl (lv_at hl 0 rfl) ?_
            refine va_get (D := g.1) (ci := 5) (v := .ref Mp) (C := RX5) (T := TX5) (N := 23) hx hb hts hiX5 hown hK.1 hP 0 rfl rfl 4 (by decide) hf1 (fun _ h9 => h9) rfl dX5_may_86 ?_
            refine lv_iconst (v := 1) hx hb dX5_may_89 (by decide) ?_
            refine zz_iald hx hb hK.1 hP 1 0 rfl rfl 1 (zi_eq (zi_c 1 rfl) (zi_n 1) (by omega)) (by omega) (by decide) dX5_may_90 ?_
            refine lv_iadd hx hb dX5_may_91 ?_
            refine lv_iconst (v := 1) hx hb dX5_may_92 (by decide) ?_
            refine lv_isub hx hb dX5_may_93 ?_
            refine zz_iald hx hb hK.1 hP 2 0 rfl rfl ((6 + (pe 1)) - 1) (zi_eq (zi_sub (zi_add (zi_c 6 rfl) (zi_n (pe 1))) (zi_c 1 rfl)) (zi_n ((6 + (pe 1)) - 1)) (by omega)) (by omega) (by decide) dX5_may_94 ?_
            have hq_11 := hwy ((6 + (pe 1)) - 1)
            refine lv_iconst (v := 4) hx hb dX5_may_95 (by decide) ?_
            refine zz_icmp_ge (tgt := 103) hx hb dX5_may_96 (by decide) (zi_n (wy ((6 + (pe 1)) - 1))) (zi_c 4 rfl) (by omega) (by omega) (fun c_12 => ?_) (fun c_12 => ?_)
            · refine lv_iconst (v := 0) hx hb dX5_may_103 (by decide) ?_
              exact hret 104 _ _ _ 0 () dX5_may_104 rfl hP hD hS (show 0 = if (wh = 0 ∧ xh = 0) ∨ (wh = 1 ∧ pe 1 < 6) ∨ ((wh = 2 ∨ wh = 3) ∧ 0 < pe 1 ∧ wy (6 + pe 1 - 1) < 4) ∨ (wh = 4 ∧ mr 1 < 4) ∨ (wh = 5 ∧ wo 1 < 6) then 1 else 0 from by first | (rw [if_pos (by omega)]; done) | (rw [if_neg (by omega)]; done))
            · refine lv_iconst (v := 1) hx hb dX5_may_99 (by decide) ?_
              refine lv_goto (tgt := 104) hx hb dX5_may_100 (by decide) ?_
              exact hret 104 _ _ _ 1 () dX5_may_104 rfl hP hD hS (show 1 = if (wh = 0 ∧ xh = 0) ∨ (wh = 1 ∧ pe 1 < 6) ∨ ((wh = 2 ∨ wh = 3) ∧ 0 < pe 1 ∧ wy (6 + pe 1 - 1) < 4) ∨ (wh = 4 ∧ mr 1 < 4) ∨ (wh = 5 ∧ wo 1 < 6) then 1 else 0 from by first | (rw [if_pos (by omega)]; done) | (rw [if_neg (by omega)]; done))
        · by_cases c_13 : (wh : Int) = (4 : Int)
          · refine zz_topi (y := 4) (zi_eq (zi_n wh) (zi_c 4 rfl) c_13) ?_
            refine lv_tableIn (off := 104) (tgt := 105) hx hb dX5_may_1 (by decide) (by decide) (by decide) (by decide) ?_
            refine lv_aload_n hx hb dX5_may_105 rfl (lv_at hl 0 rfl) ?_
            refine va_get (D := g.1) (ci := 5) (v := .ref Mm) (C := RX5) (T := TX5) (N := 23) hx hb hts hiX5 hown hK.1 hP 0 rfl rfl 7 (by decide) hf3 (fun _ h9 => h9) rfl dX5_may_106 ?_
            refine lv_iconst (v := 1) hx hb dX5_may_109 (by decide) ?_
            refine zz_iald hx hb hK.1 hP 3 0 rfl rfl 1 (zi_eq (zi_c 1 rfl) (zi_n 1) (by omega)) (by omega) (by decide) dX5_may_110 ?_
            refine lv_iconst (v := 4) hx hb dX5_may_111 (by decide) ?_
            refine zz_icmp_ge (tgt := 119) hx hb dX5_may_112 (by decide) (zi_n (mr 1)) (zi_c 4 rfl) (by omega) (by omega) (fun c_14 => ?_) (fun c_14 => ?_)
            · refine lv_iconst (v := 0) hx hb dX5_may_119 (by decide) ?_
              exact hret 120 _ _ _ 0 () dX5_may_120 rfl hP hD hS (show 0 = if (wh = 0 ∧ xh = 0) ∨ (wh = 1 ∧ pe 1 < 6) ∨ ((wh = 2 ∨ wh = 3) ∧ 0 < pe 1 ∧ wy (6 + pe 1 - 1) < 4) ∨ (wh = 4 ∧ mr 1 < 4) ∨ (wh = 5 ∧ wo 1 < 6) then 1 else 0 from by first | (rw [if_pos (by omega)]; done) | (rw [if_neg (by omega)]; done))
            · refine lv_iconst (v := 1) hx hb dX5_may_115 (by decide) ?_
              refine lv_goto (tgt := 120) hx hb dX5_may_116 (by decide) ?_
              exact hret 120 _ _ _ 1 () dX5_may_120 rfl hP hD hS (show 1 = if (wh = 0 ∧ xh = 0) ∨ (wh = 1 ∧ pe 1 < 6) ∨ ((wh = 2 ∨ wh = 3) ∧ 0 < pe 1 ∧ wy (6 + pe 1 - 1) < 4) ∨ (wh = 4 ∧ mr 1 < 4) ∨ (wh = 5 ∧ wo 1 < 6) then 1 else 0 from by first | (rw [if_pos (by omega)]; done) | (rw [if_neg (by omega)]; done))
          · by_cases c_15 : (wh : Int) = (5 : Int)
            · refine zz_topi (y := 5) (zi_eq (zi_n wh) (zi_c 5 rfl) c_15) ?_
              refine lv_tableIn (off := 120) (tgt := 121) hx hb dX5_may_1 (by decide) (by decide) (by decide) (by decide) ?_
              refine lv_aload_n hx hb dX5_may_121 rfl (lv_at hl 0 rfl) ?_
              refine va_get (D := g.1) (ci := 5) (v := .ref Mk) (C := RX5) (T := TX5) (N := 23) hx hb hts hiX5 hown hK.1 hP 0 rfl rfl 9 (by decide) hf4 (fun _ h9 => h9) rfl dX5_may_122 ?_
              refine lv_iconst (v := 1) hx hb dX5_may_125 (by decide) ?_
              refine zz_iald hx hb hK.1 hP 4 0 rfl rfl 1 (zi_eq (zi_c 1 rfl) (zi_n 1) (by omega)) (by omega) (by decide) dX5_may_126 ?_
              refine lv_bipush (v := 6) hx hb dX5_may_127 (by decide) ?_
              refine zz_icmp_ge (tgt := 136) hx hb dX5_may_129 (by decide) (zi_n (wo 1)) (zi_c 6 rfl) (by omega) (by omega) (fun c_16 => ?_) (fun c_16 => ?_)
              · refine lv_iconst (v := 0) hx hb dX5_may_136 (by decide) ?_
                exact hret 137 _ _ _ 0 () dX5_may_137 rfl hP hD hS (show 0 = if (wh = 0 ∧ xh = 0) ∨ (wh = 1 ∧ pe 1 < 6) ∨ ((wh = 2 ∨ wh = 3) ∧ 0 < pe 1 ∧ wy (6 + pe 1 - 1) < 4) ∨ (wh = 4 ∧ mr 1 < 4) ∨ (wh = 5 ∧ wo 1 < 6) then 1 else 0 from by first | (rw [if_pos (by omega)]; done) | (rw [if_neg (by omega)]; done))
              · refine lv_iconst (v := 1) hx hb dX5_may_132 (by decide) ?_
                refine lv_goto (tgt := 137) hx hb dX5_may_133 (by decide) ?_
                exact hret 137 _ _ _ 1 () dX5_may_137 rfl hP hD hS (show 1 = if (wh = 0 ∧ xh = 0) ∨ (wh = 1 ∧ pe 1 < 6) ∨ ((wh = 2 ∨ wh = 3) ∧ 0 < pe 1 ∧ wy (6 + pe 1 - 1) < 4) ∨ (wh = 4 ∧ mr 1 < 4) ∨ (wh = 5 ∧ wo 1 < 6) then 1 else 0 from by first | (rw [if_pos (by omega)]; done) | (rw [if_neg (by omega)]; done))
            · have c_1_t : ¬ (nI wh).toInt = 0 := by rw [(zi_n wh), zi_t (by omega) (by omega)]; exact c_1
              have c_3_t : ¬ (nI wh).toInt = 1 := by rw [(zi_n wh), zi_t (by omega) (by omega)]; exact c_3
              have c_5_t : ¬ (nI wh).toInt = 2 := by rw [(zi_n wh), zi_t (by omega) (by omega)]; exact c_5
              have c_9_t : ¬ (nI wh).toInt = 3 := by rw [(zi_n wh), zi_t (by omega) (by omega)]; exact c_9
              have c_13_t : ¬ (nI wh).toInt = 4 := by rw [(zi_n wh), zi_t (by omega) (by omega)]; exact c_13
              have c_15_t : ¬ (nI wh).toInt = 5 := by rw [(zi_n wh), zi_t (by omega) (by omega)]; exact c_15
              refine lv_tableOut (tgt := 138) hx hb dX5_may_1 (by omega) (by decide) ?_
              refine lv_iconst (v := 0) hx hb dX5_may_138 (by decide) ?_
              exact hret 139 _ _ _ 0 () dX5_may_139 rfl hP hD hS (show 0 = if (wh = 0 ∧ xh = 0) ∨ (wh = 1 ∧ pe 1 < 6) ∨ ((wh = 2 ∨ wh = 3) ∧ 0 < pe 1 ∧ wy (6 + pe 1 - 1) < 4) ∨ (wh = 4 ∧ mr 1 < 4) ∨ (wh = 5 ∧ wo 1 < 6) then 1 else 0 from by first | (rw [if_pos (by omega)]; done) | (rw [if_neg (by omega)]; done))
