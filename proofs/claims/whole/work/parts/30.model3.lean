set_option maxHeartbeats 4000000 in
set_option maxRecDepth 100000 in
theorem c_X5_goOne (l : Launch) (g : zG) (M Mt Mc Mp Mw My Mm Mh Mk Mo Ms Mi Mb Me Md : Nat) (mt : Int64) (ty xa xs xo xv xh dy : Nat) (xf : Int32) (wy : Nat → Nat) (wa : Nat → Nat) (sd : Nat → Nat) (q : Nat) (p : Nat) (hr : Nat) (mi : Nat) (st : Nat) (si : Nat) (dn lf tk wc wp : Nat → Nat) (hq : q ≤ 81) (hp : p < 6) (hrel : zRel q sd mi st si dn lf tk) (hwy : wy p = wc p) (hwa : ∀ k, k < wc p → ∀ j, j < 4 → wa (16 * p + 4 * k + j) = wp (16 * p + 4 * k + j)) (hwc : wc p ≤ 4) (hwp : ∀ k, wp k < 1000) (hki : ∀ k, k < wc p → wp (16 * p + 4 * k) ≤ 1) (hst1 : ∀ k, k < wc p → 1 ≤ wp (16 * p + 4 * k + 2)) (hd : dn p ≤ wc p) (hlf0 : lf p ≠ 0 → dn p < wc p) (hlf : lf p < 1000) (htk : tk p < 1000000000) (hmi : mi < 2147483648) (hhr : hr < 2147483648) (hsi : si < 2147483648) : zI l yX5_goOne wsX5_goOne 1 22 g [.ref M, .int (nI q), .int (nI p), .int (nI hr)] [(M, .inr (5, [.long mt, .ref Mt, .int (nI ty), .ref Mc, .ref Mp, .ref Mw, .ref My, .ref Mm, .ref Mh, .ref Mk, .ref Mo, .int (nI xa), .int (nI xs), .int (nI xo), .int (nI xv), .int xf, .int (nI xh), .ref Ms, .ref Mi, .ref Mb, .ref Me, .int (nI dy), .ref Md])), (Mw, .inl (g.2.1.1, 12, .inl (zf wy))), (My, .inl (g.2.1.1, 192, .inl (zf wa))), (Ms, .inl (g.2.1.1, 108, .inl (zf sd)))] (fun (r : Int32) (u : Nat → Nat) => (zbit si p = 1 → r = 0 ∧ zRel q u mi st si dn lf tk) ∧ (zbit si p ≠ 1 → r = nI (zTk wc wp dn lf mi hr p) ∧ zRel q u mi st si (zu dn p (zDn wc wp dn lf mi hr p)) (zu lf p (zLf wc wp dn lf mi hr p)) (zu tk p (tk p + zTk wc wp dn lf mi hr p))) ∧ zOut q sd u) (fun (u : Nat → Nat) => [(M, .inr (5, [.long mt, .ref Mt, .int (nI ty), .ref Mc, .ref Mp, .ref Mw, .ref My, .ref Mm, .ref Mh, .ref Mk, .ref Mo, .int (nI xa), .int (nI xs), .int (nI xo), .int (nI xv), .int xf, .int (nI xh), .ref Ms, .ref Mi, .ref Mb, .ref Me, .int (nI dy), .ref Md])), (Mw, .inl (g.2.1.1, 12, .inl (zf wy))), (My, .inl (g.2.1.1, 192, .inl (zf wa))), (Ms, .inl (g.2.1.1, 108, .inl (zf u)))]) := by
  refine zz_bodyI (cc := cX5_goOne) (nL := 7) (own := RX5) (ty := .int) (by decide) rfl rfl (Nat.le_of_ble_eq_true rfl) ?_
  intro pP eE s mM below meth cC A Q ls F hA hK hE hP hD hl hret
  have hS : va_S A s.heap s.heap [] := va_S.rf
  obtain ⟨hx, hb, hml, hown, hts⟩ := id F
  have hiX5 : ∀ w ∈ u_ws RX5 TX5 23, w ∈ wsX5_goOne := by decide +kernel
  have hf0 := hts (.fieldLink RX5 38 "StepClockModel" "stand" "[I") (by decide +kernel)
  have hf1 := hts (.fieldLink RX5 20 "StepClockModel" "ways" "[I") (by decide +kernel)
  have hf2 := hts (.fieldLink RX5 23 "StepClockModel" "way" "[I") (by decide +kernel)
  have hl : lv_has ls 7 [(0, .ref M), (1, .int (nI q)), (2, .int (nI p)), (3, .int (nI hr))] := hl
  obtain ⟨hr0, hr1, hr2, hr3⟩ := id hrel
  obtain ⟨hrd, hro, hrl, hrt⟩ := hr3 p hp
  have hro1 : lf p = 0 → sd (q + 9 + p) = 0 := fun h => by rw [hro, if_pos h]
  have hro2 : lf p ≠ 0 → sd (q + 9 + p) = 1 := fun h => by rw [hro, if_neg h]
  have hro3 : sd (q + 9 + p) = 0 → lf p = 0 := fun h => Classical.byContradiction fun h2 => by have := hro2 h2; omega
  refine lv_aload_n hx hb dX5_goOne_0 rfl (lv_at hl 0 rfl) ?_
  refine va_get (D := g.1) (ci := 5) (v := .ref Ms) (C := RX5) (T := TX5) (N := 23) hx hb hts hiX5 hown hK.1 hP 0 rfl rfl 17 (by decide) hf0 (fun _ h9 => h9) rfl dX5_goOne_1 ?_
  refine lv_iload_n hx hb dX5_goOne_4 rfl (lv_at hl 1 rfl) ?_
  refine lv_iconst (v := 3) hx hb dX5_goOne_5 (by decide) ?_
  refine lv_iadd hx hb dX5_goOne_6 ?_
  refine lv_iload_n hx hb dX5_goOne_7 rfl (lv_at hl 2 rfl) ?_
  refine lv_iadd hx hb dX5_goOne_8 ?_
  refine zz_iald hx hb hK.1 hP 3 0 rfl rfl ((q + 3) + p) (zi_eq (zi_add (zi_add (zi_n q) (zi_c 3 rfl)) (zi_n p)) (zi_n ((q + 3) + p)) (by omega)) (by omega) (by decide) dX5_goOne_9 ?_
  refine zz_topi (y := nI (dn p)) (congrArg nI (hrd)) ?_
  refine lv_istore (lv' := [(4, .int (nI (dn p))), (0, .ref M), (1, .int (nI q)), (2, .int (nI p)), (3, .int (nI hr))]) hx hb dX5_goOne_10 hl (by decide) rfl (fun ls hl => ?_)
  refine lv_aload_n hx hb dX5_goOne_12 rfl (lv_at hl 1 rfl) ?_
  refine lv_iload_n hx hb dX5_goOne_13 rfl (lv_at hl 2 rfl) ?_
  refine lv_iload_n hx hb dX5_goOne_14 rfl (lv_at hl 3 rfl) ?_
  refine zz_callI (wr := [(Mw, .inl (g.2.1.1, 12, .inl (zf wy))), (My, .inl (g.2.1.1, 192, .inl (zf wa)))]) (wc := [(M, .inr (5, [.long mt, .ref Mt, .int (nI ty), .ref Mc, .ref Mp, .ref Mw, .ref My, .ref Mm, .ref Mh, .ref Mk, .ref Mo, .int (nI xa), .int (nI xs), .int (nI xo), .int (nI xv), .int xf, .int (nI xh), .ref Ms, .ref Mi, .ref Mb, .ref Me, .int (nI dy), .ref Md])), (Ms, .inl (g.2.1.1, 108, .inl (zf sd)))]) (As := [.int (nI q), .int (nI p)]) (rest := []) F hK hE hA hP hD hS (c_X5_isSitting l g (M := M) (Mt := Mt) (Mc := Mc) (Mp := Mp) (Mw := Mw) (My := My) (Mm := Mm) (Mh := Mh) (Mk := Mk) (Mo := Mo) (Ms := Ms) (Mi := Mi) (Mb := Mb) (Me := Me) (Md := Md) (mt := mt) (ty := ty) (xa := xa) (xs := xs) (xo := xo) (xv := xv) (xh := xh) (dy := dy) (xf := xf) (sd := sd) (q := q) (p := p) (hq := by first | assumption | omega) (hp6 := by first | assumption | omega) (hsd := by first | assumption | omega)) (cwV 2 hts gX5_goOne_X5_isSitting rfl rfl rfl (by decide +kernel) ⟨Nat.le_of_ble_eq_true rfl, Nat.le_of_ble_eq_true rfl⟩) [0, 3] [1, 2] rfl rfl (by decide) (by decide) (by decide) 5 0 rfl rfl rfl rfl rfl hl.1 (Nat.le_of_ble_eq_true rfl) dX5_goOne_15 ⟨Nat.le_of_ble_eq_true rfl, Nat.le_of_ble_eq_true rfl⟩ (fun r_1 u_1 H locs hw hP hD hS => ?_)
  have hP : va_P g.1 vwCl [(Mw, .inl (g.2.1.1, 12, .inl (zf wy))), (My, .inl (g.2.1.1, 192, .inl (zf wa))), (M, .inr (5, [.long mt, .ref Mt, .int (nI ty), .ref Mc, .ref Mp, .ref Mw, .ref My, .ref Mm, .ref Mh, .ref Mk, .ref Mo, .int (nI xa), .int (nI xs), .int (nI xo), .int (nI xv), .int xf, .int (nI xh), .ref Ms, .ref Mi, .ref Mb, .ref Me, .int (nI dy), .ref Md])), (Ms, .inl (g.2.1.1, 108, .inl (zf sd)))] _ := hP
  have hD : va_D A [(Mw, .inl (g.2.1.1, 12, .inl (zf wy))), (My, .inl (g.2.1.1, 192, .inl (zf wa))), (M, .inr (5, [.long mt, .ref Mt, .int (nI ty), .ref Mc, .ref Mp, .ref Mw, .ref My, .ref Mm, .ref Mh, .ref Mk, .ref Mo, .int (nI xa), .int (nI xs), .int (nI xo), .int (nI xv), .int xf, .int (nI xh), .ref Ms, .ref Mi, .ref Mb, .ref Me, .int (nI dy), .ref Md])), (Ms, .inl (g.2.1.1, 108, .inl (zf sd)))] := hD
  have hr_1 := hw
  have hr_1 : r_1 = if zbit (sd (q + 2)) p = 1 then 1 else 0 := hr_1
  by_cases b_2 : zbit (sd (q + 2)) p = 1
  · rw [if_pos b_2] at hr_1
    subst hr_1
    refine zz_if_ne (tgt := 32) hx hb dX5_goOne_18 (by decide) (zi_c 1 rfl) (by omega) (fun c_3 => ?_) (fun c_3 => (by exfalso; omega))
    refine lv_iconst (v := 0) hx hb dX5_goOne_32 (by decide) ?_
    have hP := hP.sub (ws' := [(M, .inr (5, [.long mt, .ref Mt, .int (nI ty), .ref Mc, .ref Mp, .ref Mw, .ref My, .ref Mm, .ref Mh, .ref Mk, .ref Mo, .int (nI xa), .int (nI xs), .int (nI xo), .int (nI xv), .int xf, .int (nI xh), .ref Ms, .ref Mi, .ref Mb, .ref Me, .int (nI dy), .ref Md])), (Mw, .inl (g.2.1.1, 12, .inl (zf wy))), (My, .inl (g.2.1.1, 192, .inl (zf wa))), (Ms, .inl (g.2.1.1, 108, .inl (zf sd)))]) [2, 0, 1, 3] rfl
    have hD := hD.sub (ws' := [(M, .inr (5, [.long mt, .ref Mt, .int (nI ty), .ref Mc, .ref Mp, .ref Mw, .ref My, .ref Mm, .ref Mh, .ref Mk, .ref Mo, .int (nI xa), .int (nI xs), .int (nI xo), .int (nI xv), .int xf, .int (nI xh), .ref Ms, .ref Mi, .ref Mb, .ref Me, .int (nI dy), .ref Md])), (Mw, .inl (g.2.1.1, 12, .inl (zf wy))), (My, .inl (g.2.1.1, 192, .inl (zf wa))), (Ms, .inl (g.2.1.1, 108, .inl (zf sd)))]) [2, 0, 1, 3] (by decide) rfl
    exact hret 33 _ _ _ 0 sd dX5_goOne_33 rfl hP hD hS (show (zbit si p = 1 → 0 = 0 ∧ zRel q sd mi st si dn lf tk) ∧ (zbit si p ≠ 1 → 0 = nI (zTk wc wp dn lf mi hr p) ∧ zRel q sd mi st si (zu dn p (zDn wc wp dn lf mi hr p)) (zu lf p (zLf wc wp dn lf mi hr p)) (zu tk p (tk p + zTk wc wp dn lf mi hr p))) ∧ zOut q sd sd from by first | (exact ⟨fun _ => ⟨rfl, hrel⟩, fun q9 => absurd (show zbit si p = 1 by rw [← hr2]; assumption) q9, zOut_r q sd⟩) | (refine ⟨fun q9 => absurd (show zbit (sd (q + 2)) p = 1 by rw [hr2]; exact q9) (by assumption), fun _ => ?_, zOut_r q sd⟩; obtain ⟨z1, z2, z3⟩ := zStay (wc := wc) (wp := wp) (dn := dn) (mi := mi) (hr := hr) (show lf p = 0 from by first | exact hro3 (by omega) | exact Classical.byContradiction fun h => by have := hlf0 h; omega) (fun h => by have h1 := h.1; omega); rw [z1, z2, z3, Nat.add_zero, ← zu_id (f := dn) (k := p) rfl, ← zu_id (f := lf) (k := p) rfl, ← zu_id (f := tk) (k := p) rfl]; exact ⟨rfl, hrel⟩))
  · rw [if_neg b_2] at hr_1
    subst hr_1
    refine zz_if_ne (tgt := 32) hx hb dX5_goOne_18 (by decide) (zi_c 0 rfl) (by omega) (fun c_4 => (by exfalso; omega)) (fun c_4 => ?_)
    refine lv_iload hx hb dX5_goOne_21 (lv_at hl 0 rfl) ?_
    refine lv_aload_n hx hb dX5_goOne_23 rfl (lv_at hl 1 rfl) ?_
    refine va_get (D := g.1) (ci := 5) (v := .ref Mw) (C := RX5) (T := TX5) (N := 23) hx hb hts hiX5 hown hK.1 hP 2 rfl rfl 5 (by decide) hf1 (fun _ h9 => h9) rfl dX5_goOne_24 ?_
    refine lv_iload_n hx hb dX5_goOne_27 rfl (lv_at hl 3 rfl) ?_
    refine zz_iald hx hb hK.1 hP 0 0 rfl rfl p rfl (by omega) (by decide) dX5_goOne_28 ?_
    refine zz_icmp_ne (tgt := 34) hx hb dX5_goOne_29 (by decide) (zi_n (dn p)) (zi_n (wy p)) (by omega) (by omega) (fun c_5 => ?_) (fun c_5 => ?_)
    · have hdl : dn p < wc p := by omega
      have hw0 : wa (16 * p + 4 * dn p) = wp (16 * p + 4 * dn p) := hwa (dn p) hdl 0 (by decide)
      have hw1 : wa (16 * p + 4 * dn p + 1) = wp (16 * p + 4 * dn p + 1) := hwa (dn p) hdl 1 (by decide)
      have hw2 : wa (16 * p + 4 * dn p + 2) = wp (16 * p + 4 * dn p + 2) := hwa (dn p) hdl 2 (by decide)
      have hw3 : wa (16 * p + 4 * dn p + 3) = wp (16 * p + 4 * dn p + 3) := hwa (dn p) hdl 3 (by decide)
      have hb0 := hwp (16 * p + 4 * dn p)
      have hb1 := hwp (16 * p + 4 * dn p + 1)
      have hb2 := hwp (16 * p + 4 * dn p + 2)
      have hb3 := hwp (16 * p + 4 * dn p + 3)
      have hs2 := hst1 (dn p) hdl
      have hk0 := hki (dn p) hdl
      have hz0 : wp (16 * p + 4 * dn p + 0) = wp (16 * p + 4 * dn p) := rfl
      refine lv_bipush (v := 16) hx hb dX5_goOne_34 (by decide) ?_
      refine lv_iload_n hx hb dX5_goOne_36 rfl (lv_at hl 3 rfl) ?_
      refine lv_imul hx hb dX5_goOne_37 ?_
      refine lv_iconst (v := 4) hx hb dX5_goOne_38 (by decide) ?_
      refine lv_iload hx hb dX5_goOne_39 (lv_at hl 0 rfl) ?_
      refine lv_imul hx hb dX5_goOne_41 ?_
      refine lv_iadd hx hb dX5_goOne_42 ?_
      refine zz_topi (y := nI ((16 * p) + (4 * (dn p)))) (zi_eq (zi_add (zi_mul (zi_c 16 rfl) (zi_n p)) (zi_mul (zi_c 4 rfl) (zi_n (dn p)))) (zi_n ((16 * p) + (4 * (dn p)))) (by omega)) ?_
      refine lv_istore (lv' := [(5, .int (nI ((16 * p) + (4 * (dn p))))), (4, .int (nI (dn p))), (0, .ref M), (1, .int (nI q)), (2, .int (nI p)), (3, .int (nI hr))]) hx hb dX5_goOne_43 hl (by decide) rfl (fun ls hl => ?_)
      have hcut127 : ∀ (sd1 : Nat → Nat) (H : Heap) (locs : List Loc) (ls : Array Slot), (zFr q p sd sd1) → (sd1 (q + 3 + p) = dn p ∧ sd1 (q + 9 + p) = 1 ∧ sd1 (q + 15 + p) = (zL1 wc wp dn lf mi hr p) ∧ sd1 (q + 21 + p) = tk p) → (1 ≤ (zL1 wc wp dn lf mi hr p) ∧ (zL1 wc wp dn lf mi hr p) < 1000) → (zbit si p ≠ 1) → va_P g.1 vwCl [(Mw, .inl (g.2.1.1, 12, .inl (zf wy))), (My, .inl (g.2.1.1, 192, .inl (zf wa))), (M, .inr (5, [.long mt, .ref Mt, .int (nI ty), .ref Mc, .ref Mp, .ref Mw, .ref My, .ref Mm, .ref Mh, .ref Mk, .ref Mo, .int (nI xa), .int (nI xs), .int (nI xo), .int (nI xv), .int xf, .int (nI xh), .ref Ms, .ref Mi, .ref Mb, .ref Me, .int (nI dy), .ref Md])), (Ms, .inl (g.2.1.1, 108, .inl (zf sd1)))] H → va_D A [(Mw, .inl (g.2.1.1, 12, .inl (zf wy))), (My, .inl (g.2.1.1, 192, .inl (zf wa))), (M, .inr (5, [.long mt, .ref Mt, .int (nI ty), .ref Mc, .ref Mp, .ref Mw, .ref My, .ref Mm, .ref Mh, .ref Mk, .ref Mo, .int (nI xa), .int (nI xs), .int (nI xo), .int (nI xv), .int xf, .int (nI xh), .ref Ms, .ref Mi, .ref Mb, .ref Me, .int (nI dy), .ref Md])), (Ms, .inl (g.2.1.1, 108, .inl (zf sd1)))] → va_S A s.heap H locs → lv_has ls 7 [(0, .ref M), (1, .int (nI q)), (2, .int (nI p)), (3, .int (nI hr)), (4, .int (nI (dn p))), (5, .int (nI ((16 * p) + (4 * (dn p)))))] → W pP l eE { frames := 1, cells := 0, slots := 0, locals := 22 } s mM ([.ref M, .int (nI q), .int (nI p), .int (nI hr)] : List Value).toArray below meth cC H locs 0 0 Q (F0 mM 127 ls []) := by
        intro sd1 H locs ls hF hG hL hns hP hD hS hl
        have hcut175 : ∀ (H : Heap) (locs : List Loc) (ls : Array Slot), ((zTk wc wp dn lf mi hr p) ≤ (zL1 wc wp dn lf mi hr p)) → va_P g.1 vwCl [(Mw, .inl (g.2.1.1, 12, .inl (zf wy))), (My, .inl (g.2.1.1, 192, .inl (zf wa))), (M, .inr (5, [.long mt, .ref Mt, .int (nI ty), .ref Mc, .ref Mp, .ref Mw, .ref My, .ref Mm, .ref Mh, .ref Mk, .ref Mo, .int (nI xa), .int (nI xs), .int (nI xo), .int (nI xv), .int xf, .int (nI xh), .ref Ms, .ref Mi, .ref Mb, .ref Me, .int (nI dy), .ref Md])), (Ms, .inl (g.2.1.1, 108, .inl (zf sd1)))] H → va_D A [(Mw, .inl (g.2.1.1, 12, .inl (zf wy))), (My, .inl (g.2.1.1, 192, .inl (zf wa))), (M, .inr (5, [.long mt, .ref Mt, .int (nI ty), .ref Mc, .ref Mp, .ref Mw, .ref My, .ref Mm, .ref Mh, .ref Mk, .ref Mo, .int (nI xa), .int (nI xs), .int (nI xo), .int (nI xv), .int xf, .int (nI xh), .ref Ms, .ref Mi, .ref Mb, .ref Me, .int (nI dy), .ref Md])), (Ms, .inl (g.2.1.1, 108, .inl (zf sd1)))] → va_S A s.heap H locs → lv_has ls 7 [(0, .ref M), (1, .int (nI q)), (2, .int (nI p)), (3, .int (nI hr)), (4, .int (nI (dn p))), (5, .int (nI ((16 * p) + (4 * (dn p))))), (6, .int (nI (zTk wc wp dn lf mi hr p)))] → W pP l eE { frames := 1, cells := 0, slots := 0, locals := 22 } s mM ([.ref M, .int (nI q), .int (nI p), .int (nI hr)] : List Value).toArray below meth cC H locs 0 0 Q (F0 mM 175 ls []) := by
          intro H locs ls hT hP hD hS hl
          refine lv_aload_n hx hb dX5_goOne_175 rfl (lv_at hl 0 rfl) ?_
          refine va_get (D := g.1) (ci := 5) (v := .ref Ms) (C := RX5) (T := TX5) (N := 23) hx hb hts hiX5 hown hK.1 hP 2 rfl rfl 17 (by decide) hf0 (fun _ h9 => h9) rfl dX5_goOne_176 ?_
          refine lv_iload_n hx hb dX5_goOne_179 rfl (lv_at hl 1 rfl) ?_
          refine lv_bipush (v := 15) hx hb dX5_goOne_180 (by decide) ?_
          refine lv_iadd hx hb dX5_goOne_182 ?_
          refine lv_iload_n hx hb dX5_goOne_183 rfl (lv_at hl 2 rfl) ?_
          refine lv_iadd hx hb dX5_goOne_184 ?_
          refine lv_dup2_11 hx hb dX5_goOne_185 rfl rfl ?_
          refine zz_iald hx hb hK.1 hP 3 0 rfl rfl ((q + 15) + p) (zi_eq (zi_add (zi_add (zi_n q) (zi_c 15 rfl)) (zi_n p)) (zi_n ((q + 15) + p)) (by omega)) (by omega) (by decide) dX5_goOne_186 ?_
          refine zz_topi (y := nI (zL1 wc wp dn lf mi hr p)) (congrArg nI (hG.2.2.1)) ?_
          refine lv_iload hx hb dX5_goOne_187 (lv_at hl 6 rfl) ?_
          refine lv_isub hx hb dX5_goOne_189 ?_
          refine zz_topi (y := nI ((zL1 wc wp dn lf mi hr p) - (zTk wc wp dn lf mi hr p))) (zi_eq (zi_sub (zi_n (zL1 wc wp dn lf mi hr p)) (zi_n (zTk wc wp dn lf mi hr p))) (zi_n ((zL1 wc wp dn lf mi hr p) - (zTk wc wp dn lf mi hr p))) (by omega)) ?_
          refine zz_iast hx hb hK.1 hP hD hS 3 0 rfl rfl ((q + 15) + p) (zi_eq (zi_add (zi_add (zi_n q) (zi_c 15 rfl)) (zi_n p)) (zi_n ((q + 15) + p)) (by omega)) (by omega) (by decide) dX5_goOne_190 (fun H locs hP hD hS => ?_)
          have hP : va_P g.1 vwCl [(Mw, .inl (g.2.1.1, 12, .inl (zf wy))), (My, .inl (g.2.1.1, 192, .inl (zf wa))), (M, .inr (5, [.long mt, .ref Mt, .int (nI ty), .ref Mc, .ref Mp, .ref Mw, .ref My, .ref Mm, .ref Mh, .ref Mk, .ref Mo, .int (nI xa), .int (nI xs), .int (nI xo), .int (nI xv), .int xf, .int (nI xh), .ref Ms, .ref Mi, .ref Mb, .ref Me, .int (nI dy), .ref Md])), (Ms, .inl (g.2.1.1, 108, .inl (upd (zf sd1) ((q + 15) + p) (nI ((zL1 wc wp dn lf mi hr p) - (zTk wc wp dn lf mi hr p))))))] _ := hP
          have hD : va_D A [(Mw, .inl (g.2.1.1, 12, .inl (zf wy))), (My, .inl (g.2.1.1, 192, .inl (zf wa))), (M, .inr (5, [.long mt, .ref Mt, .int (nI ty), .ref Mc, .ref Mp, .ref Mw, .ref My, .ref Mm, .ref Mh, .ref Mk, .ref Mo, .int (nI xa), .int (nI xs), .int (nI xo), .int (nI xv), .int xf, .int (nI xh), .ref Ms, .ref Mi, .ref Mb, .ref Me, .int (nI dy), .ref Md])), (Ms, .inl (g.2.1.1, 108, .inl (upd (zf sd1) ((q + 15) + p) (nI ((zL1 wc wp dn lf mi hr p) - (zTk wc wp dn lf mi hr p))))))] := hD
          rw [zf_upd] at hP hD
          refine lv_aload_n hx hb dX5_goOne_191 rfl (lv_at hl 0 rfl) ?_
          refine va_get (D := g.1) (ci := 5) (v := .ref Ms) (C := RX5) (T := TX5) (N := 23) hx hb hts hiX5 hown hK.1 hP 2 rfl rfl 17 (by decide) hf0 (fun _ h9 => h9) rfl dX5_goOne_192 ?_
          refine lv_iload_n hx hb dX5_goOne_195 rfl (lv_at hl 1 rfl) ?_
          refine lv_bipush (v := 21) hx hb dX5_goOne_196 (by decide) ?_
          refine lv_iadd hx hb dX5_goOne_198 ?_
          refine lv_iload_n hx hb dX5_goOne_199 rfl (lv_at hl 2 rfl) ?_
          refine lv_iadd hx hb dX5_goOne_200 ?_
          refine lv_dup2_11 hx hb dX5_goOne_201 rfl rfl ?_
          refine zz_iald hx hb hK.1 hP 3 0 rfl rfl ((q + 21) + p) (zi_eq (zi_add (zi_add (zi_n q) (zi_c 21 rfl)) (zi_n p)) (zi_n ((q + 21) + p)) (by omega)) (by omega) (by decide) dX5_goOne_202 ?_
          refine zz_topi (y := nI (tk p)) (congrArg nI ((zu_ne (by omega)).trans hG.2.2.2)) ?_
          refine lv_iload hx hb dX5_goOne_203 (lv_at hl 6 rfl) ?_
          refine lv_iadd hx hb dX5_goOne_205 ?_
          refine zz_topi (y := nI ((tk p) + (zTk wc wp dn lf mi hr p))) (zi_eq (zi_add (zi_n (tk p)) (zi_n (zTk wc wp dn lf mi hr p))) (zi_n ((tk p) + (zTk wc wp dn lf mi hr p))) (by omega)) ?_
          refine zz_iast hx hb hK.1 hP hD hS 3 0 rfl rfl ((q + 21) + p) (zi_eq (zi_add (zi_add (zi_n q) (zi_c 21 rfl)) (zi_n p)) (zi_n ((q + 21) + p)) (by omega)) (by omega) (by decide) dX5_goOne_206 (fun H locs hP hD hS => ?_)
          have hP : va_P g.1 vwCl [(Mw, .inl (g.2.1.1, 12, .inl (zf wy))), (My, .inl (g.2.1.1, 192, .inl (zf wa))), (M, .inr (5, [.long mt, .ref Mt, .int (nI ty), .ref Mc, .ref Mp, .ref Mw, .ref My, .ref Mm, .ref Mh, .ref Mk, .ref Mo, .int (nI xa), .int (nI xs), .int (nI xo), .int (nI xv), .int xf, .int (nI xh), .ref Ms, .ref Mi, .ref Mb, .ref Me, .int (nI dy), .ref Md])), (Ms, .inl (g.2.1.1, 108, .inl (upd (zf (zu sd1 ((q + 15) + p) ((zL1 wc wp dn lf mi hr p) - (zTk wc wp dn lf mi hr p)))) ((q + 21) + p) (nI ((tk p) + (zTk wc wp dn lf mi hr p))))))] _ := hP
          have hD : va_D A [(Mw, .inl (g.2.1.1, 12, .inl (zf wy))), (My, .inl (g.2.1.1, 192, .inl (zf wa))), (M, .inr (5, [.long mt, .ref Mt, .int (nI ty), .ref Mc, .ref Mp, .ref Mw, .ref My, .ref Mm, .ref Mh, .ref Mk, .ref Mo, .int (nI xa), .int (nI xs), .int (nI xo), .int (nI xv), .int xf, .int (nI xh), .ref Ms, .ref Mi, .ref Mb, .ref Me, .int (nI dy), .ref Md])), (Ms, .inl (g.2.1.1, 108, .inl (upd (zf (zu sd1 ((q + 15) + p) ((zL1 wc wp dn lf mi hr p) - (zTk wc wp dn lf mi hr p)))) ((q + 21) + p) (nI ((tk p) + (zTk wc wp dn lf mi hr p))))))] := hD
          rw [zf_upd] at hP hD
          refine lv_aload_n hx hb dX5_goOne_207 rfl (lv_at hl 0 rfl) ?_
          refine va_get (D := g.1) (ci := 5) (v := .ref Ms) (C := RX5) (T := TX5) (N := 23) hx hb hts hiX5 hown hK.1 hP 2 rfl rfl 17 (by decide) hf0 (fun _ h9 => h9) rfl dX5_goOne_208 ?_
          refine lv_iload_n hx hb dX5_goOne_211 rfl (lv_at hl 1 rfl) ?_
          refine lv_bipush (v := 15) hx hb dX5_goOne_212 (by decide) ?_
          refine lv_iadd hx hb dX5_goOne_214 ?_
          refine lv_iload_n hx hb dX5_goOne_215 rfl (lv_at hl 2 rfl) ?_
          refine lv_iadd hx hb dX5_goOne_216 ?_
          refine zz_iald hx hb hK.1 hP 3 0 rfl rfl ((q + 15) + p) (zi_eq (zi_add (zi_add (zi_n q) (zi_c 15 rfl)) (zi_n p)) (zi_n ((q + 15) + p)) (by omega)) (by omega) (by decide) dX5_goOne_217 ?_
          refine zz_topi (y := nI ((zL1 wc wp dn lf mi hr p) - (zTk wc wp dn lf mi hr p))) (congrArg nI ((zu_ne (by omega)).trans (zu_at _ _ _))) ?_
          refine zz_if_ne (tgt := 247) hx hb dX5_goOne_218 (by decide) (zi_n ((zL1 wc wp dn lf mi hr p) - (zTk wc wp dn lf mi hr p))) (by omega) (fun c_6 => ?_) (fun c_6 => ?_)
          · refine lv_iload hx hb dX5_goOne_247 (lv_at hl 6 rfl) ?_
            have hP := hP.sub (ws' := [(M, .inr (5, [.long mt, .ref Mt, .int (nI ty), .ref Mc, .ref Mp, .ref Mw, .ref My, .ref Mm, .ref Mh, .ref Mk, .ref Mo, .int (nI xa), .int (nI xs), .int (nI xo), .int (nI xv), .int xf, .int (nI xh), .ref Ms, .ref Mi, .ref Mb, .ref Me, .int (nI dy), .ref Md])), (Mw, .inl (g.2.1.1, 12, .inl (zf wy))), (My, .inl (g.2.1.1, 192, .inl (zf wa))), (Ms, .inl (g.2.1.1, 108, .inl (zf (zu (zu sd1 ((q + 15) + p) ((zL1 wc wp dn lf mi hr p) - (zTk wc wp dn lf mi hr p))) ((q + 21) + p) ((tk p) + (zTk wc wp dn lf mi hr p))))))]) [2, 0, 1, 3] rfl
            have hD := hD.sub (ws' := [(M, .inr (5, [.long mt, .ref Mt, .int (nI ty), .ref Mc, .ref Mp, .ref Mw, .ref My, .ref Mm, .ref Mh, .ref Mk, .ref Mo, .int (nI xa), .int (nI xs), .int (nI xo), .int (nI xv), .int xf, .int (nI xh), .ref Ms, .ref Mi, .ref Mb, .ref Me, .int (nI dy), .ref Md])), (Mw, .inl (g.2.1.1, 12, .inl (zf wy))), (My, .inl (g.2.1.1, 192, .inl (zf wa))), (Ms, .inl (g.2.1.1, 108, .inl (zf (zu (zu sd1 ((q + 15) + p) ((zL1 wc wp dn lf mi hr p) - (zTk wc wp dn lf mi hr p))) ((q + 21) + p) ((tk p) + (zTk wc wp dn lf mi hr p))))))]) [2, 0, 1, 3] (by decide) rfl
            exact hret 249 _ _ _ (nI (zTk wc wp dn lf mi hr p)) (zu (zu sd1 ((q + 15) + p) ((zL1 wc wp dn lf mi hr p) - (zTk wc wp dn lf mi hr p))) ((q + 21) + p) ((tk p) + (zTk wc wp dn lf mi hr p))) dX5_goOne_249 rfl hP hD hS (show (zbit si p = 1 → (nI (zTk wc wp dn lf mi hr p)) = 0 ∧ zRel q (zu (zu sd1 ((q + 15) + p) ((zL1 wc wp dn lf mi hr p) - (zTk wc wp dn lf mi hr p))) ((q + 21) + p) ((tk p) + (zTk wc wp dn lf mi hr p))) mi st si dn lf tk) ∧ (zbit si p ≠ 1 → (nI (zTk wc wp dn lf mi hr p)) = nI (zTk wc wp dn lf mi hr p) ∧ zRel q (zu (zu sd1 ((q + 15) + p) ((zL1 wc wp dn lf mi hr p) - (zTk wc wp dn lf mi hr p))) ((q + 21) + p) ((tk p) + (zTk wc wp dn lf mi hr p))) mi st si (zu dn p (zDn wc wp dn lf mi hr p)) (zu lf p (zLf wc wp dn lf mi hr p)) (zu tk p (tk p + zTk wc wp dn lf mi hr p))) ∧ zOut q sd (zu (zu sd1 ((q + 15) + p) ((zL1 wc wp dn lf mi hr p) - (zTk wc wp dn lf mi hr p))) ((q + 21) + p) ((tk p) + (zTk wc wp dn lf mi hr p))) from by first | (exact ⟨fun q9 => absurd q9 hns, fun _ => ⟨rfl, zFr_rel hp hrel (zFr_u (zFr_u hF (by omega)) (by omega)) (by rw [zDn, if_neg (fun h => by have h2 := h.2; rw [zLf] at h2; omega), zu_ne (by omega), zu_ne (by omega)]; exact hG.1) (by rw [if_neg (by rw [zLf]; omega), zu_ne (by omega), zu_ne (by omega)]; exact hG.2.1) (by rw [zu_ne (by omega), zu_at, zLf]) (zu_at _ _ _)⟩, zFr_out hp (zFr_u (zFr_u hF (by omega)) (by omega))⟩) | (exact ⟨fun q9 => absurd q9 hns, fun _ => ⟨rfl, zFr_rel hp hrel (zFr_u (zFr_u (zFr_u (zFr_u hF (by omega)) (by omega)) (by omega)) (by omega)) (by rw [zu_at, zDn, if_pos ⟨by omega, by rw [zLf]; omega⟩]) (by rw [if_pos (by rw [zLf]; omega), zu_ne (by omega), zu_at]) (by rw [zu_ne (by omega), zu_ne (by omega), zu_ne (by omega), zu_at, zLf]) (by rw [zu_ne (by omega), zu_ne (by omega), zu_at])⟩, zFr_out hp (zFr_u (zFr_u (zFr_u (zFr_u hF (by omega)) (by omega)) (by omega)) (by omega))⟩))
          · refine lv_aload_n hx hb dX5_goOne_221 rfl (lv_at hl 0 rfl) ?_
            refine va_get (D := g.1) (ci := 5) (v := .ref Ms) (C := RX5) (T := TX5) (N := 23) hx hb hts hiX5 hown hK.1 hP 2 rfl rfl 17 (by decide) hf0 (fun _ h9 => h9) rfl dX5_goOne_222 ?_
            refine lv_iload_n hx hb dX5_goOne_225 rfl (lv_at hl 1 rfl) ?_
            refine lv_bipush (v := 9) hx hb dX5_goOne_226 (by decide) ?_
            refine lv_iadd hx hb dX5_goOne_228 ?_
            refine lv_iload_n hx hb dX5_goOne_229 rfl (lv_at hl 2 rfl) ?_
            refine lv_iadd hx hb dX5_goOne_230 ?_
            refine lv_iconst (v := 0) hx hb dX5_goOne_231 (by decide) ?_
            refine zz_iast hx hb hK.1 hP hD hS 3 0 rfl rfl ((q + 9) + p) (zi_eq (zi_add (zi_add (zi_n q) (zi_c 9 rfl)) (zi_n p)) (zi_n ((q + 9) + p)) (by omega)) (by omega) (by decide) dX5_goOne_232 (fun H locs hP hD hS => ?_)
            have hP : va_P g.1 vwCl [(Mw, .inl (g.2.1.1, 12, .inl (zf wy))), (My, .inl (g.2.1.1, 192, .inl (zf wa))), (M, .inr (5, [.long mt, .ref Mt, .int (nI ty), .ref Mc, .ref Mp, .ref Mw, .ref My, .ref Mm, .ref Mh, .ref Mk, .ref Mo, .int (nI xa), .int (nI xs), .int (nI xo), .int (nI xv), .int xf, .int (nI xh), .ref Ms, .ref Mi, .ref Mb, .ref Me, .int (nI dy), .ref Md])), (Ms, .inl (g.2.1.1, 108, .inl (upd (zf (zu (zu sd1 ((q + 15) + p) ((zL1 wc wp dn lf mi hr p) - (zTk wc wp dn lf mi hr p))) ((q + 21) + p) ((tk p) + (zTk wc wp dn lf mi hr p)))) ((q + 9) + p) (nI 0))))] _ := hP
            have hD : va_D A [(Mw, .inl (g.2.1.1, 12, .inl (zf wy))), (My, .inl (g.2.1.1, 192, .inl (zf wa))), (M, .inr (5, [.long mt, .ref Mt, .int (nI ty), .ref Mc, .ref Mp, .ref Mw, .ref My, .ref Mm, .ref Mh, .ref Mk, .ref Mo, .int (nI xa), .int (nI xs), .int (nI xo), .int (nI xv), .int xf, .int (nI xh), .ref Ms, .ref Mi, .ref Mb, .ref Me, .int (nI dy), .ref Md])), (Ms, .inl (g.2.1.1, 108, .inl (upd (zf (zu (zu sd1 ((q + 15) + p) ((zL1 wc wp dn lf mi hr p) - (zTk wc wp dn lf mi hr p))) ((q + 21) + p) ((tk p) + (zTk wc wp dn lf mi hr p)))) ((q + 9) + p) (nI 0))))] := hD
            rw [zf_upd] at hP hD
            refine lv_aload_n hx hb dX5_goOne_233 rfl (lv_at hl 0 rfl) ?_
            refine va_get (D := g.1) (ci := 5) (v := .ref Ms) (C := RX5) (T := TX5) (N := 23) hx hb hts hiX5 hown hK.1 hP 2 rfl rfl 17 (by decide) hf0 (fun _ h9 => h9) rfl dX5_goOne_234 ?_
            refine lv_iload_n hx hb dX5_goOne_237 rfl (lv_at hl 1 rfl) ?_
            refine lv_iconst (v := 3) hx hb dX5_goOne_238 (by decide) ?_
            refine lv_iadd hx hb dX5_goOne_239 ?_
            refine lv_iload_n hx hb dX5_goOne_240 rfl (lv_at hl 2 rfl) ?_
            refine lv_iadd hx hb dX5_goOne_241 ?_
            refine lv_dup2_11 hx hb dX5_goOne_242 rfl rfl ?_
            refine zz_iald hx hb hK.1 hP 3 0 rfl rfl ((q + 3) + p) (zi_eq (zi_add (zi_add (zi_n q) (zi_c 3 rfl)) (zi_n p)) (zi_n ((q + 3) + p)) (by omega)) (by omega) (by decide) dX5_goOne_243 ?_
            refine zz_topi (y := nI (dn p)) (congrArg nI ((zu_ne (by omega)).trans ((zu_ne (by omega)).trans ((zu_ne (by omega)).trans hG.1)))) ?_
            refine lv_iconst (v := 1) hx hb dX5_goOne_244 (by decide) ?_
            refine lv_iadd hx hb dX5_goOne_245 ?_
            refine zz_topi (y := nI ((dn p) + 1)) (zi_eq (zi_add (zi_n (dn p)) (zi_c 1 rfl)) (zi_n ((dn p) + 1)) (by omega)) ?_
            refine zz_iast hx hb hK.1 hP hD hS 3 0 rfl rfl ((q + 3) + p) (zi_eq (zi_add (zi_add (zi_n q) (zi_c 3 rfl)) (zi_n p)) (zi_n ((q + 3) + p)) (by omega)) (by omega) (by decide) dX5_goOne_246 (fun H locs hP hD hS => ?_)
            have hP : va_P g.1 vwCl [(Mw, .inl (g.2.1.1, 12, .inl (zf wy))), (My, .inl (g.2.1.1, 192, .inl (zf wa))), (M, .inr (5, [.long mt, .ref Mt, .int (nI ty), .ref Mc, .ref Mp, .ref Mw, .ref My, .ref Mm, .ref Mh, .ref Mk, .ref Mo, .int (nI xa), .int (nI xs), .int (nI xo), .int (nI xv), .int xf, .int (nI xh), .ref Ms, .ref Mi, .ref Mb, .ref Me, .int (nI dy), .ref Md])), (Ms, .inl (g.2.1.1, 108, .inl (upd (zf (zu (zu (zu sd1 ((q + 15) + p) ((zL1 wc wp dn lf mi hr p) - (zTk wc wp dn lf mi hr p))) ((q + 21) + p) ((tk p) + (zTk wc wp dn lf mi hr p))) ((q + 9) + p) 0)) ((q + 3) + p) (nI ((dn p) + 1)))))] _ := hP
            have hD : va_D A [(Mw, .inl (g.2.1.1, 12, .inl (zf wy))), (My, .inl (g.2.1.1, 192, .inl (zf wa))), (M, .inr (5, [.long mt, .ref Mt, .int (nI ty), .ref Mc, .ref Mp, .ref Mw, .ref My, .ref Mm, .ref Mh, .ref Mk, .ref Mo, .int (nI xa), .int (nI xs), .int (nI xo), .int (nI xv), .int xf, .int (nI xh), .ref Ms, .ref Mi, .ref Mb, .ref Me, .int (nI dy), .ref Md])), (Ms, .inl (g.2.1.1, 108, .inl (upd (zf (zu (zu (zu sd1 ((q + 15) + p) ((zL1 wc wp dn lf mi hr p) - (zTk wc wp dn lf mi hr p))) ((q + 21) + p) ((tk p) + (zTk wc wp dn lf mi hr p))) ((q + 9) + p) 0)) ((q + 3) + p) (nI ((dn p) + 1)))))] := hD
            rw [zf_upd] at hP hD
            refine lv_iload hx hb dX5_goOne_247 (lv_at hl 6 rfl) ?_
            have hP := hP.sub (ws' := [(M, .inr (5, [.long mt, .ref Mt, .int (nI ty), .ref Mc, .ref Mp, .ref Mw, .ref My, .ref Mm, .ref Mh, .ref Mk, .ref Mo, .int (nI xa), .int (nI xs), .int (nI xo), .int (nI xv), .int xf, .int (nI xh), .ref Ms, .ref Mi, .ref Mb, .ref Me, .int (nI dy), .ref Md])), (Mw, .inl (g.2.1.1, 12, .inl (zf wy))), (My, .inl (g.2.1.1, 192, .inl (zf wa))), (Ms, .inl (g.2.1.1, 108, .inl (zf (zu (zu (zu (zu sd1 ((q + 15) + p) ((zL1 wc wp dn lf mi hr p) - (zTk wc wp dn lf mi hr p))) ((q + 21) + p) ((tk p) + (zTk wc wp dn lf mi hr p))) ((q + 9) + p) 0) ((q + 3) + p) ((dn p) + 1)))))]) [2, 0, 1, 3] rfl
            have hD := hD.sub (ws' := [(M, .inr (5, [.long mt, .ref Mt, .int (nI ty), .ref Mc, .ref Mp, .ref Mw, .ref My, .ref Mm, .ref Mh, .ref Mk, .ref Mo, .int (nI xa), .int (nI xs), .int (nI xo), .int (nI xv), .int xf, .int (nI xh), .ref Ms, .ref Mi, .ref Mb, .ref Me, .int (nI dy), .ref Md])), (Mw, .inl (g.2.1.1, 12, .inl (zf wy))), (My, .inl (g.2.1.1, 192, .inl (zf wa))), (Ms, .inl (g.2.1.1, 108, .inl (zf (zu (zu (zu (zu sd1 ((q + 15) + p) ((zL1 wc wp dn lf mi hr p) - (zTk wc wp dn lf mi hr p))) ((q + 21) + p) ((tk p) + (zTk wc wp dn lf mi hr p))) ((q + 9) + p) 0) ((q + 3) + p) ((dn p) + 1)))))]) [2, 0, 1, 3] (by decide) rfl
            exact hret 249 _ _ _ (nI (zTk wc wp dn lf mi hr p)) (zu (zu (zu (zu sd1 ((q + 15) + p) ((zL1 wc wp dn lf mi hr p) - (zTk wc wp dn lf mi hr p))) ((q + 21) + p) ((tk p) + (zTk wc wp dn lf mi hr p))) ((q + 9) + p) 0) ((q + 3) + p) ((dn p) + 1)) dX5_goOne_249 rfl hP hD hS (show (zbit si p = 1 → (nI (zTk wc wp dn lf mi hr p)) = 0 ∧ zRel q (zu (zu (zu (zu sd1 ((q + 15) + p) ((zL1 wc wp dn lf mi hr p) - (zTk wc wp dn lf mi hr p))) ((q + 21) + p) ((tk p) + (zTk wc wp dn lf mi hr p))) ((q + 9) + p) 0) ((q + 3) + p) ((dn p) + 1)) mi st si dn lf tk) ∧ (zbit si p ≠ 1 → (nI (zTk wc wp dn lf mi hr p)) = nI (zTk wc wp dn lf mi hr p) ∧ zRel q (zu (zu (zu (zu sd1 ((q + 15) + p) ((zL1 wc wp dn lf mi hr p) - (zTk wc wp dn lf mi hr p))) ((q + 21) + p) ((tk p) + (zTk wc wp dn lf mi hr p))) ((q + 9) + p) 0) ((q + 3) + p) ((dn p) + 1)) mi st si (zu dn p (zDn wc wp dn lf mi hr p)) (zu lf p (zLf wc wp dn lf mi hr p)) (zu tk p (tk p + zTk wc wp dn lf mi hr p))) ∧ zOut q sd (zu (zu (zu (zu sd1 ((q + 15) + p) ((zL1 wc wp dn lf mi hr p) - (zTk wc wp dn lf mi hr p))) ((q + 21) + p) ((tk p) + (zTk wc wp dn lf mi hr p))) ((q + 9) + p) 0) ((q + 3) + p) ((dn p) + 1)) from by first | (exact ⟨fun q9 => absurd q9 hns, fun _ => ⟨rfl, zFr_rel hp hrel (zFr_u (zFr_u hF (by omega)) (by omega)) (by rw [zDn, if_neg (fun h => by have h2 := h.2; rw [zLf] at h2; omega), zu_ne (by omega), zu_ne (by omega)]; exact hG.1) (by rw [if_neg (by rw [zLf]; omega), zu_ne (by omega), zu_ne (by omega)]; exact hG.2.1) (by rw [zu_ne (by omega), zu_at, zLf]) (zu_at _ _ _)⟩, zFr_out hp (zFr_u (zFr_u hF (by omega)) (by omega))⟩) | (exact ⟨fun q9 => absurd q9 hns, fun _ => ⟨rfl, zFr_rel hp hrel (zFr_u (zFr_u (zFr_u (zFr_u hF (by omega)) (by omega)) (by omega)) (by omega)) (by rw [zu_at, zDn, if_pos ⟨by omega, by rw [zLf]; omega⟩]) (by rw [if_pos (by rw [zLf]; omega), zu_ne (by omega), zu_at]) (by rw [zu_ne (by omega), zu_ne (by omega), zu_ne (by omega), zu_at, zLf]) (by rw [zu_ne (by omega), zu_ne (by omega), zu_at])⟩, zFr_out hp (zFr_u (zFr_u (zFr_u (zFr_u hF (by omega)) (by omega)) (by omega)) (by omega))⟩))
        refine lv_aload_n hx hb dX5_goOne_127 rfl (lv_at hl 0 rfl) ?_
        refine va_get (D := g.1) (ci := 5) (v := .ref Ms) (C := RX5) (T := TX5) (N := 23) hx hb hts hiX5 hown hK.1 hP 2 rfl rfl 17 (by decide) hf0 (fun _ h9 => h9) rfl dX5_goOne_128 ?_
        refine lv_iload_n hx hb dX5_goOne_131 rfl (lv_at hl 1 rfl) ?_
        refine lv_bipush (v := 15) hx hb dX5_goOne_132 (by decide) ?_
        refine lv_iadd hx hb dX5_goOne_134 ?_
        refine lv_iload_n hx hb dX5_goOne_135 rfl (lv_at hl 2 rfl) ?_
        refine lv_iadd hx hb dX5_goOne_136 ?_
        refine zz_iald hx hb hK.1 hP 3 0 rfl rfl ((q + 15) + p) (zi_eq (zi_add (zi_add (zi_n q) (zi_c 15 rfl)) (zi_n p)) (zi_n ((q + 15) + p)) (by omega)) (by omega) (by decide) dX5_goOne_137 ?_
        refine zz_topi (y := nI (zL1 wc wp dn lf mi hr p)) (congrArg nI (hG.2.2.1)) ?_
        refine lv_aload_n hx hb dX5_goOne_138 rfl (lv_at hl 0 rfl) ?_
        refine va_get (D := g.1) (ci := 5) (v := .ref My) (C := RX5) (T := TX5) (N := 23) hx hb hts hiX5 hown hK.1 hP 2 rfl rfl 6 (by decide) hf2 (fun _ h9 => h9) rfl dX5_goOne_139 ?_
        refine lv_iload hx hb dX5_goOne_142 (lv_at hl 5 rfl) ?_
        refine lv_iconst (v := 3) hx hb dX5_goOne_144 (by decide) ?_
        refine lv_iadd hx hb dX5_goOne_145 ?_
        refine zz_iald hx hb hK.1 hP 1 0 rfl rfl (((16 * p) + (4 * (dn p))) + 3) (zi_eq (zi_add (zi_n ((16 * p) + (4 * (dn p)))) (zi_c 3 rfl)) (zi_n (((16 * p) + (4 * (dn p))) + 3)) (by omega)) (by omega) (by decide) dX5_goOne_146 ?_
        refine zz_icmp_ge (tgt := 164) hx hb dX5_goOne_147 (by decide) (zi_n (zL1 wc wp dn lf mi hr p)) (zi_n (wa (((16 * p) + (4 * (dn p))) + 3))) (by omega) (by omega) (fun c_7 => ?_) (fun c_7 => ?_)
        · refine lv_aload_n hx hb dX5_goOne_164 rfl (lv_at hl 0 rfl) ?_
          refine va_get (D := g.1) (ci := 5) (v := .ref My) (C := RX5) (T := TX5) (N := 23) hx hb hts hiX5 hown hK.1 hP 2 rfl rfl 6 (by decide) hf2 (fun _ h9 => h9) rfl dX5_goOne_165 ?_
          refine lv_iload hx hb dX5_goOne_168 (lv_at hl 5 rfl) ?_
          refine lv_iconst (v := 3) hx hb dX5_goOne_170 (by decide) ?_
          refine lv_iadd hx hb dX5_goOne_171 ?_
          refine zz_iald hx hb hK.1 hP 1 0 rfl rfl (((16 * p) + (4 * (dn p))) + 3) (zi_eq (zi_add (zi_n ((16 * p) + (4 * (dn p)))) (zi_c 3 rfl)) (zi_n (((16 * p) + (4 * (dn p))) + 3)) (by omega)) (by omega) (by decide) dX5_goOne_172 ?_
          refine lv_istore (lv' := [(6, .int (nI (wa (((16 * p) + (4 * (dn p))) + 3)))), (0, .ref M), (1, .int (nI q)), (2, .int (nI p)), (3, .int (nI hr)), (4, .int (nI (dn p))), (5, .int (nI ((16 * p) + (4 * (dn p)))))]) hx hb dX5_goOne_173 hl (by decide) rfl (fun ls hl => ?_)
          have eq_8 : nI (wa (((16 * p) + (4 * (dn p))) + 3)) = nI (zTk wc wp dn lf mi hr p) := by (congr 1; rw [zTk]; omega)
          have hl : lv_has ls 7 [(6, .int (nI (zTk wc wp dn lf mi hr p))), (0, .ref M), (1, .int (nI q)), (2, .int (nI p)), (3, .int (nI hr)), (4, .int (nI (dn p))), (5, .int (nI ((16 * p) + (4 * (dn p)))))] := Eq.mp (congrArg (fun z => lv_has ls 7 [(6, .int (z)), (0, .ref M), (1, .int (nI q)), (2, .int (nI p)), (3, .int (nI hr)), (4, .int (nI (dn p))), (5, .int (nI ((16 * p) + (4 * (dn p)))))]) eq_8) hl
          exact hcut175  _ _ _ (show (zTk wc wp dn lf mi hr p) ≤ (zL1 wc wp dn lf mi hr p) from by (rw [zTk]; omega)) hP hD hS (lv_sub hl [1, 2, 3, 4, 5, 6, 0] rfl)
        · refine lv_aload_n hx hb dX5_goOne_150 rfl (lv_at hl 0 rfl) ?_
          refine va_get (D := g.1) (ci := 5) (v := .ref Ms) (C := RX5) (T := TX5) (N := 23) hx hb hts hiX5 hown hK.1 hP 2 rfl rfl 17 (by decide) hf0 (fun _ h9 => h9) rfl dX5_goOne_151 ?_
          refine lv_iload_n hx hb dX5_goOne_154 rfl (lv_at hl 1 rfl) ?_
          refine lv_bipush (v := 15) hx hb dX5_goOne_155 (by decide) ?_
          refine lv_iadd hx hb dX5_goOne_157 ?_
          refine lv_iload_n hx hb dX5_goOne_158 rfl (lv_at hl 2 rfl) ?_
          refine lv_iadd hx hb dX5_goOne_159 ?_
          refine zz_iald hx hb hK.1 hP 3 0 rfl rfl ((q + 15) + p) (zi_eq (zi_add (zi_add (zi_n q) (zi_c 15 rfl)) (zi_n p)) (zi_n ((q + 15) + p)) (by omega)) (by omega) (by decide) dX5_goOne_160 ?_
          refine zz_topi (y := nI (zL1 wc wp dn lf mi hr p)) (congrArg nI (hG.2.2.1)) ?_
          refine lv_goto (tgt := 173) hx hb dX5_goOne_161 (by decide) ?_
          refine lv_istore (lv' := [(6, .int (nI (zL1 wc wp dn lf mi hr p))), (0, .ref M), (1, .int (nI q)), (2, .int (nI p)), (3, .int (nI hr)), (4, .int (nI (dn p))), (5, .int (nI ((16 * p) + (4 * (dn p)))))]) hx hb dX5_goOne_173 hl (by decide) rfl (fun ls hl => ?_)
          have eq_9 : nI (zL1 wc wp dn lf mi hr p) = nI (zTk wc wp dn lf mi hr p) := by (congr 1; rw [zTk]; omega)
          have hl : lv_has ls 7 [(6, .int (nI (zTk wc wp dn lf mi hr p))), (0, .ref M), (1, .int (nI q)), (2, .int (nI p)), (3, .int (nI hr)), (4, .int (nI (dn p))), (5, .int (nI ((16 * p) + (4 * (dn p)))))] := Eq.mp (congrArg (fun z => lv_has ls 7 [(6, .int (z)), (0, .ref M), (1, .int (nI q)), (2, .int (nI p)), (3, .int (nI hr)), (4, .int (nI (dn p))), (5, .int (nI ((16 * p) + (4 * (dn p)))))]) eq_9) hl
          exact hcut175  _ _ _ (show (zTk wc wp dn lf mi hr p) ≤ (zL1 wc wp dn lf mi hr p) from by (rw [zTk]; omega)) hP hD hS (lv_sub hl [1, 2, 3, 4, 5, 6, 0] rfl)
      refine lv_aload_n hx hb dX5_goOne_45 rfl (lv_at hl 2 rfl) ?_
      refine va_get (D := g.1) (ci := 5) (v := .ref Ms) (C := RX5) (T := TX5) (N := 23) hx hb hts hiX5 hown hK.1 hP 2 rfl rfl 17 (by decide) hf0 (fun _ h9 => h9) rfl dX5_goOne_46 ?_
      refine lv_iload_n hx hb dX5_goOne_49 rfl (lv_at hl 3 rfl) ?_
      refine lv_bipush (v := 9) hx hb dX5_goOne_50 (by decide) ?_
      refine lv_iadd hx hb dX5_goOne_52 ?_
      refine lv_iload_n hx hb dX5_goOne_53 rfl (lv_at hl 4 rfl) ?_
      refine lv_iadd hx hb dX5_goOne_54 ?_
      refine zz_iald hx hb hK.1 hP 3 0 rfl rfl ((q + 9) + p) (zi_eq (zi_add (zi_add (zi_n q) (zi_c 9 rfl)) (zi_n p)) (zi_n ((q + 9) + p)) (by omega)) (by omega) (by decide) dX5_goOne_55 ?_
      refine zz_if_ne (tgt := 127) hx hb dX5_goOne_56 (by decide) (zi_n (sd ((q + 9) + p))) (by omega) (fun c_10 => ?_) (fun c_10 => ?_)
      · exact hcut127 sd _ _ _ (show zFr q p sd sd from by first | exact zFr_r q p sd | exact zFr_u (zFr_u (zFr_r q p sd) (by omega)) (by omega)) (show sd (q + 3 + p) = dn p ∧ sd (q + 9 + p) = 1 ∧ sd (q + 15 + p) = (zL1 wc wp dn lf mi hr p) ∧ sd (q + 21 + p) = tk p from by first | (rw [← zL1_a (show ¬ lf p = 0 by omega)]; exact ⟨hrd, by omega, hrl, hrt⟩) | (rw [zL1_c hmay (hro3 (by omega))]; exact ⟨by rw [zu_ne (by omega), zu_ne (by omega)]; exact hrd, by rw [zu_ne (by omega), zu_at], by rw [zu_at]; exact hw2, by rw [zu_ne (by omega), zu_ne (by omega)]; exact hrt⟩)) (show 1 ≤ (zL1 wc wp dn lf mi hr p) ∧ (zL1 wc wp dn lf mi hr p) < 1000 from by first | (rw [← zL1_a (show ¬ lf p = 0 by omega)]; omega) | (rw [zL1_c hmay (hro3 (by omega))]; omega)) (show zbit si p ≠ 1 from by (rw [← hr2]; assumption)) hP hD hS (lv_sub hl [2, 3, 4, 5, 1, 0] rfl)
      · refine lv_aload_n hx hb dX5_goOne_59 rfl (lv_at hl 2 rfl) ?_
        refine va_get (D := g.1) (ci := 5) (v := .ref My) (C := RX5) (T := TX5) (N := 23) hx hb hts hiX5 hown hK.1 hP 2 rfl rfl 6 (by decide) hf2 (fun _ h9 => h9) rfl dX5_goOne_60 ?_
        refine lv_iload hx hb dX5_goOne_63 (lv_at hl 0 rfl) ?_
        refine zz_iald hx hb hK.1 hP 1 0 rfl rfl ((16 * p) + (4 * (dn p))) rfl (by omega) (by decide) dX5_goOne_65 ?_
        refine zz_if_ne (tgt := 80) hx hb dX5_goOne_66 (by decide) (zi_n (wa ((16 * p) + (4 * (dn p))))) (by omega) (fun c_11 => ?_) (fun c_11 => ?_)
        · refine lv_iload_n hx hb dX5_goOne_80 rfl (lv_at hl 5 rfl) ?_
          refine lv_aload_n hx hb dX5_goOne_81 rfl (lv_at hl 2 rfl) ?_
          refine va_get (D := g.1) (ci := 5) (v := .ref My) (C := RX5) (T := TX5) (N := 23) hx hb hts hiX5 hown hK.1 hP 2 rfl rfl 6 (by decide) hf2 (fun _ h9 => h9) rfl dX5_goOne_82 ?_
          refine lv_iload hx hb dX5_goOne_85 (lv_at hl 0 rfl) ?_
          refine lv_iconst (v := 1) hx hb dX5_goOne_87 (by decide) ?_
          refine lv_iadd hx hb dX5_goOne_88 ?_
          refine zz_iald hx hb hK.1 hP 1 0 rfl rfl (((16 * p) + (4 * (dn p))) + 1) (zi_eq (zi_add (zi_n ((16 * p) + (4 * (dn p)))) (zi_c 1 rfl)) (zi_n (((16 * p) + (4 * (dn p))) + 1)) (by omega)) (by omega) (by decide) dX5_goOne_89 ?_
          refine zz_icmp_ge (tgt := 95) hx hb dX5_goOne_90 (by decide) (zi_n hr) (zi_n (wa (((16 * p) + (4 * (dn p))) + 1))) (by omega) (by omega) (fun c_12 => ?_) (fun c_12 => ?_)
          · have hmay : zMay wc wp dn mi hr p := by
              refine ⟨hdl, ?_⟩
              first | (rw [if_pos (by omega)]; omega) | (rw [if_neg (by omega)]; omega)
            refine lv_aload_n hx hb dX5_goOne_95 rfl (lv_at hl 2 rfl) ?_
            refine va_get (D := g.1) (ci := 5) (v := .ref Ms) (C := RX5) (T := TX5) (N := 23) hx hb hts hiX5 hown hK.1 hP 2 rfl rfl 17 (by decide) hf0 (fun _ h9 => h9) rfl dX5_goOne_96 ?_
            refine lv_iload_n hx hb dX5_goOne_99 rfl (lv_at hl 3 rfl) ?_
            refine lv_bipush (v := 9) hx hb dX5_goOne_100 (by decide) ?_
            refine lv_iadd hx hb dX5_goOne_102 ?_
            refine lv_iload_n hx hb dX5_goOne_103 rfl (lv_at hl 4 rfl) ?_
            refine lv_iadd hx hb dX5_goOne_104 ?_
            refine lv_iconst (v := 1) hx hb dX5_goOne_105 (by decide) ?_
            refine zz_iast hx hb hK.1 hP hD hS 3 0 rfl rfl ((q + 9) + p) (zi_eq (zi_add (zi_add (zi_n q) (zi_c 9 rfl)) (zi_n p)) (zi_n ((q + 9) + p)) (by omega)) (by omega) (by decide) dX5_goOne_106 (fun H locs hP hD hS => ?_)
            have hP : va_P g.1 vwCl [(Mw, .inl (g.2.1.1, 12, .inl (zf wy))), (My, .inl (g.2.1.1, 192, .inl (zf wa))), (M, .inr (5, [.long mt, .ref Mt, .int (nI ty), .ref Mc, .ref Mp, .ref Mw, .ref My, .ref Mm, .ref Mh, .ref Mk, .ref Mo, .int (nI xa), .int (nI xs), .int (nI xo), .int (nI xv), .int xf, .int (nI xh), .ref Ms, .ref Mi, .ref Mb, .ref Me, .int (nI dy), .ref Md])), (Ms, .inl (g.2.1.1, 108, .inl (upd (zf sd) ((q + 9) + p) (nI 1))))] _ := hP
            have hD : va_D A [(Mw, .inl (g.2.1.1, 12, .inl (zf wy))), (My, .inl (g.2.1.1, 192, .inl (zf wa))), (M, .inr (5, [.long mt, .ref Mt, .int (nI ty), .ref Mc, .ref Mp, .ref Mw, .ref My, .ref Mm, .ref Mh, .ref Mk, .ref Mo, .int (nI xa), .int (nI xs), .int (nI xo), .int (nI xv), .int xf, .int (nI xh), .ref Ms, .ref Mi, .ref Mb, .ref Me, .int (nI dy), .ref Md])), (Ms, .inl (g.2.1.1, 108, .inl (upd (zf sd) ((q + 9) + p) (nI 1))))] := hD
            rw [zf_upd] at hP hD
            refine lv_aload_n hx hb dX5_goOne_107 rfl (lv_at hl 2 rfl) ?_
            refine va_get (D := g.1) (ci := 5) (v := .ref Ms) (C := RX5) (T := TX5) (N := 23) hx hb hts hiX5 hown hK.1 hP 2 rfl rfl 17 (by decide) hf0 (fun _ h9 => h9) rfl dX5_goOne_108 ?_
            refine lv_iload_n hx hb dX5_goOne_111 rfl (lv_at hl 3 rfl) ?_
            refine lv_bipush (v := 15) hx hb dX5_goOne_112 (by decide) ?_
            refine lv_iadd hx hb dX5_goOne_114 ?_
            refine lv_iload_n hx hb dX5_goOne_115 rfl (lv_at hl 4 rfl) ?_
            refine lv_iadd hx hb dX5_goOne_116 ?_
            refine lv_aload_n hx hb dX5_goOne_117 rfl (lv_at hl 2 rfl) ?_
            refine va_get (D := g.1) (ci := 5) (v := .ref My) (C := RX5) (T := TX5) (N := 23) hx hb hts hiX5 hown hK.1 hP 2 rfl rfl 6 (by decide) hf2 (fun _ h9 => h9) rfl dX5_goOne_118 ?_
            refine lv_iload hx hb dX5_goOne_121 (lv_at hl 0 rfl) ?_
            refine lv_iconst (v := 2) hx hb dX5_goOne_123 (by decide) ?_
            refine lv_iadd hx hb dX5_goOne_124 ?_
            refine zz_iald hx hb hK.1 hP 1 0 rfl rfl (((16 * p) + (4 * (dn p))) + 2) (zi_eq (zi_add (zi_n ((16 * p) + (4 * (dn p)))) (zi_c 2 rfl)) (zi_n (((16 * p) + (4 * (dn p))) + 2)) (by omega)) (by omega) (by decide) dX5_goOne_125 ?_
            refine zz_iast hx hb hK.1 hP hD hS 3 0 rfl rfl ((q + 15) + p) (zi_eq (zi_add (zi_add (zi_n q) (zi_c 15 rfl)) (zi_n p)) (zi_n ((q + 15) + p)) (by omega)) (by omega) (by decide) dX5_goOne_126 (fun H locs hP hD hS => ?_)
            have hP : va_P g.1 vwCl [(Mw, .inl (g.2.1.1, 12, .inl (zf wy))), (My, .inl (g.2.1.1, 192, .inl (zf wa))), (M, .inr (5, [.long mt, .ref Mt, .int (nI ty), .ref Mc, .ref Mp, .ref Mw, .ref My, .ref Mm, .ref Mh, .ref Mk, .ref Mo, .int (nI xa), .int (nI xs), .int (nI xo), .int (nI xv), .int xf, .int (nI xh), .ref Ms, .ref Mi, .ref Mb, .ref Me, .int (nI dy), .ref Md])), (Ms, .inl (g.2.1.1, 108, .inl (upd (zf (zu sd ((q + 9) + p) 1)) ((q + 15) + p) (nI (wa (((16 * p) + (4 * (dn p))) + 2))))))] _ := hP
            have hD : va_D A [(Mw, .inl (g.2.1.1, 12, .inl (zf wy))), (My, .inl (g.2.1.1, 192, .inl (zf wa))), (M, .inr (5, [.long mt, .ref Mt, .int (nI ty), .ref Mc, .ref Mp, .ref Mw, .ref My, .ref Mm, .ref Mh, .ref Mk, .ref Mo, .int (nI xa), .int (nI xs), .int (nI xo), .int (nI xv), .int xf, .int (nI xh), .ref Ms, .ref Mi, .ref Mb, .ref Me, .int (nI dy), .ref Md])), (Ms, .inl (g.2.1.1, 108, .inl (upd (zf (zu sd ((q + 9) + p) 1)) ((q + 15) + p) (nI (wa (((16 * p) + (4 * (dn p))) + 2))))))] := hD
            rw [zf_upd] at hP hD
            exact hcut127 (zu (zu sd ((q + 9) + p) 1) ((q + 15) + p) (wa (((16 * p) + (4 * (dn p))) + 2))) _ _ _ (show zFr q p sd (zu (zu sd ((q + 9) + p) 1) ((q + 15) + p) (wa (((16 * p) + (4 * (dn p))) + 2))) from by first | exact zFr_r q p sd | exact zFr_u (zFr_u (zFr_r q p sd) (by omega)) (by omega)) (show (zu (zu sd ((q + 9) + p) 1) ((q + 15) + p) (wa (((16 * p) + (4 * (dn p))) + 2))) (q + 3 + p) = dn p ∧ (zu (zu sd ((q + 9) + p) 1) ((q + 15) + p) (wa (((16 * p) + (4 * (dn p))) + 2))) (q + 9 + p) = 1 ∧ (zu (zu sd ((q + 9) + p) 1) ((q + 15) + p) (wa (((16 * p) + (4 * (dn p))) + 2))) (q + 15 + p) = (zL1 wc wp dn lf mi hr p) ∧ (zu (zu sd ((q + 9) + p) 1) ((q + 15) + p) (wa (((16 * p) + (4 * (dn p))) + 2))) (q + 21 + p) = tk p from by first | (rw [← zL1_a (show ¬ lf p = 0 by omega)]; exact ⟨hrd, by omega, hrl, hrt⟩) | (rw [zL1_c hmay (hro3 (by omega))]; exact ⟨by rw [zu_ne (by omega), zu_ne (by omega)]; exact hrd, by rw [zu_ne (by omega), zu_at], by rw [zu_at]; exact hw2, by rw [zu_ne (by omega), zu_ne (by omega)]; exact hrt⟩)) (show 1 ≤ (zL1 wc wp dn lf mi hr p) ∧ (zL1 wc wp dn lf mi hr p) < 1000 from by first | (rw [← zL1_a (show ¬ lf p = 0 by omega)]; omega) | (rw [zL1_c hmay (hro3 (by omega))]; omega)) (show zbit si p ≠ 1 from by (rw [← hr2]; assumption)) hP hD hS (lv_sub hl [2, 3, 4, 5, 1, 0] rfl)
          · refine lv_iconst (v := 0) hx hb dX5_goOne_93 (by decide) ?_
            have hP := hP.sub (ws' := [(M, .inr (5, [.long mt, .ref Mt, .int (nI ty), .ref Mc, .ref Mp, .ref Mw, .ref My, .ref Mm, .ref Mh, .ref Mk, .ref Mo, .int (nI xa), .int (nI xs), .int (nI xo), .int (nI xv), .int xf, .int (nI xh), .ref Ms, .ref Mi, .ref Mb, .ref Me, .int (nI dy), .ref Md])), (Mw, .inl (g.2.1.1, 12, .inl (zf wy))), (My, .inl (g.2.1.1, 192, .inl (zf wa))), (Ms, .inl (g.2.1.1, 108, .inl (zf sd)))]) [2, 0, 1, 3] rfl
            have hD := hD.sub (ws' := [(M, .inr (5, [.long mt, .ref Mt, .int (nI ty), .ref Mc, .ref Mp, .ref Mw, .ref My, .ref Mm, .ref Mh, .ref Mk, .ref Mo, .int (nI xa), .int (nI xs), .int (nI xo), .int (nI xv), .int xf, .int (nI xh), .ref Ms, .ref Mi, .ref Mb, .ref Me, .int (nI dy), .ref Md])), (Mw, .inl (g.2.1.1, 12, .inl (zf wy))), (My, .inl (g.2.1.1, 192, .inl (zf wa))), (Ms, .inl (g.2.1.1, 108, .inl (zf sd)))]) [2, 0, 1, 3] (by decide) rfl
            exact hret 94 _ _ _ 0 sd dX5_goOne_94 rfl hP hD hS (show (zbit si p = 1 → 0 = 0 ∧ zRel q sd mi st si dn lf tk) ∧ (zbit si p ≠ 1 → 0 = nI (zTk wc wp dn lf mi hr p) ∧ zRel q sd mi st si (zu dn p (zDn wc wp dn lf mi hr p)) (zu lf p (zLf wc wp dn lf mi hr p)) (zu tk p (tk p + zTk wc wp dn lf mi hr p))) ∧ zOut q sd sd from by (refine ⟨fun q9 => absurd (show zbit (sd (q + 2)) p = 1 by rw [hr2]; exact q9) (by assumption), fun _ => ?_, zOut_r q sd⟩; obtain ⟨z1, z2, z3⟩ := zStay (wc := wc) (wp := wp) (dn := dn) (mi := mi) (hr := hr) (show lf p = 0 from by first | exact hro3 (by omega) | exact Classical.byContradiction fun h => by have := hlf0 h; omega) (fun h => by have h2 := h.2; first | (rw [if_pos (by omega)] at h2; omega) | (rw [if_neg (by omega)] at h2; omega)); rw [z1, z2, z3, Nat.add_zero, ← zu_id (f := dn) (k := p) rfl, ← zu_id (f := lf) (k := p) rfl, ← zu_id (f := tk) (k := p) rfl]; exact ⟨rfl, hrel⟩))
        · refine lv_aload_n hx hb dX5_goOne_69 rfl (lv_at hl 2 rfl) ?_
          refine va_get (D := g.1) (ci := 5) (v := .ref Ms) (C := RX5) (T := TX5) (N := 23) hx hb hts hiX5 hown hK.1 hP 2 rfl rfl 17 (by decide) hf0 (fun _ h9 => h9) rfl dX5_goOne_70 ?_
          refine lv_iload_n hx hb dX5_goOne_73 rfl (lv_at hl 3 rfl) ?_
          refine lv_iconst (v := 0) hx hb dX5_goOne_74 (by decide) ?_
          refine lv_iadd hx hb dX5_goOne_75 ?_
          refine zz_iald hx hb hK.1 hP 3 0 rfl rfl q (zi_eq (zi_add (zi_n q) (zi_c 0 rfl)) (zi_n q) (by omega)) (by omega) (by decide) dX5_goOne_76 ?_
          refine lv_goto (tgt := 81) hx hb dX5_goOne_77 (by decide) ?_
          refine lv_aload_n hx hb dX5_goOne_81 rfl (lv_at hl 2 rfl) ?_
          refine va_get (D := g.1) (ci := 5) (v := .ref My) (C := RX5) (T := TX5) (N := 23) hx hb hts hiX5 hown hK.1 hP 2 rfl rfl 6 (by decide) hf2 (fun _ h9 => h9) rfl dX5_goOne_82 ?_
          refine lv_iload hx hb dX5_goOne_85 (lv_at hl 0 rfl) ?_
          refine lv_iconst (v := 1) hx hb dX5_goOne_87 (by decide) ?_
          refine lv_iadd hx hb dX5_goOne_88 ?_
          refine zz_iald hx hb hK.1 hP 1 0 rfl rfl (((16 * p) + (4 * (dn p))) + 1) (zi_eq (zi_add (zi_n ((16 * p) + (4 * (dn p)))) (zi_c 1 rfl)) (zi_n (((16 * p) + (4 * (dn p))) + 1)) (by omega)) (by omega) (by decide) dX5_goOne_89 ?_
          refine zz_icmp_ge (tgt := 95) hx hb dX5_goOne_90 (by decide) (zi_n (sd q)) (zi_n (wa (((16 * p) + (4 * (dn p))) + 1))) (by omega) (by omega) (fun c_13 => ?_) (fun c_13 => ?_)
          · have hmay : zMay wc wp dn mi hr p := by
              refine ⟨hdl, ?_⟩
              first | (rw [if_pos (by omega)]; omega) | (rw [if_neg (by omega)]; omega)
            refine lv_aload_n hx hb dX5_goOne_95 rfl (lv_at hl 2 rfl) ?_
            refine va_get (D := g.1) (ci := 5) (v := .ref Ms) (C := RX5) (T := TX5) (N := 23) hx hb hts hiX5 hown hK.1 hP 2 rfl rfl 17 (by decide) hf0 (fun _ h9 => h9) rfl dX5_goOne_96 ?_
            refine lv_iload_n hx hb dX5_goOne_99 rfl (lv_at hl 3 rfl) ?_
            refine lv_bipush (v := 9) hx hb dX5_goOne_100 (by decide) ?_
            refine lv_iadd hx hb dX5_goOne_102 ?_
            refine lv_iload_n hx hb dX5_goOne_103 rfl (lv_at hl 4 rfl) ?_
            refine lv_iadd hx hb dX5_goOne_104 ?_
            refine lv_iconst (v := 1) hx hb dX5_goOne_105 (by decide) ?_
            refine zz_iast hx hb hK.1 hP hD hS 3 0 rfl rfl ((q + 9) + p) (zi_eq (zi_add (zi_add (zi_n q) (zi_c 9 rfl)) (zi_n p)) (zi_n ((q + 9) + p)) (by omega)) (by omega) (by decide) dX5_goOne_106 (fun H locs hP hD hS => ?_)
            have hP : va_P g.1 vwCl [(Mw, .inl (g.2.1.1, 12, .inl (zf wy))), (My, .inl (g.2.1.1, 192, .inl (zf wa))), (M, .inr (5, [.long mt, .ref Mt, .int (nI ty), .ref Mc, .ref Mp, .ref Mw, .ref My, .ref Mm, .ref Mh, .ref Mk, .ref Mo, .int (nI xa), .int (nI xs), .int (nI xo), .int (nI xv), .int xf, .int (nI xh), .ref Ms, .ref Mi, .ref Mb, .ref Me, .int (nI dy), .ref Md])), (Ms, .inl (g.2.1.1, 108, .inl (upd (zf sd) ((q + 9) + p) (nI 1))))] _ := hP
            have hD : va_D A [(Mw, .inl (g.2.1.1, 12, .inl (zf wy))), (My, .inl (g.2.1.1, 192, .inl (zf wa))), (M, .inr (5, [.long mt, .ref Mt, .int (nI ty), .ref Mc, .ref Mp, .ref Mw, .ref My, .ref Mm, .ref Mh, .ref Mk, .ref Mo, .int (nI xa), .int (nI xs), .int (nI xo), .int (nI xv), .int xf, .int (nI xh), .ref Ms, .ref Mi, .ref Mb, .ref Me, .int (nI dy), .ref Md])), (Ms, .inl (g.2.1.1, 108, .inl (upd (zf sd) ((q + 9) + p) (nI 1))))] := hD
            rw [zf_upd] at hP hD
            refine lv_aload_n hx hb dX5_goOne_107 rfl (lv_at hl 2 rfl) ?_
            refine va_get (D := g.1) (ci := 5) (v := .ref Ms) (C := RX5) (T := TX5) (N := 23) hx hb hts hiX5 hown hK.1 hP 2 rfl rfl 17 (by decide) hf0 (fun _ h9 => h9) rfl dX5_goOne_108 ?_
            refine lv_iload_n hx hb dX5_goOne_111 rfl (lv_at hl 3 rfl) ?_
            refine lv_bipush (v := 15) hx hb dX5_goOne_112 (by decide) ?_
            refine lv_iadd hx hb dX5_goOne_114 ?_
            refine lv_iload_n hx hb dX5_goOne_115 rfl (lv_at hl 4 rfl) ?_
            refine lv_iadd hx hb dX5_goOne_116 ?_
            refine lv_aload_n hx hb dX5_goOne_117 rfl (lv_at hl 2 rfl) ?_
            refine va_get (D := g.1) (ci := 5) (v := .ref My) (C := RX5) (T := TX5) (N := 23) hx hb hts hiX5 hown hK.1 hP 2 rfl rfl 6 (by decide) hf2 (fun _ h9 => h9) rfl dX5_goOne_118 ?_
            refine lv_iload hx hb dX5_goOne_121 (lv_at hl 0 rfl) ?_
            refine lv_iconst (v := 2) hx hb dX5_goOne_123 (by decide) ?_
            refine lv_iadd hx hb dX5_goOne_124 ?_
            refine zz_iald hx hb hK.1 hP 1 0 rfl rfl (((16 * p) + (4 * (dn p))) + 2) (zi_eq (zi_add (zi_n ((16 * p) + (4 * (dn p)))) (zi_c 2 rfl)) (zi_n (((16 * p) + (4 * (dn p))) + 2)) (by omega)) (by omega) (by decide) dX5_goOne_125 ?_
            refine zz_iast hx hb hK.1 hP hD hS 3 0 rfl rfl ((q + 15) + p) (zi_eq (zi_add (zi_add (zi_n q) (zi_c 15 rfl)) (zi_n p)) (zi_n ((q + 15) + p)) (by omega)) (by omega) (by decide) dX5_goOne_126 (fun H locs hP hD hS => ?_)
            have hP : va_P g.1 vwCl [(Mw, .inl (g.2.1.1, 12, .inl (zf wy))), (My, .inl (g.2.1.1, 192, .inl (zf wa))), (M, .inr (5, [.long mt, .ref Mt, .int (nI ty), .ref Mc, .ref Mp, .ref Mw, .ref My, .ref Mm, .ref Mh, .ref Mk, .ref Mo, .int (nI xa), .int (nI xs), .int (nI xo), .int (nI xv), .int xf, .int (nI xh), .ref Ms, .ref Mi, .ref Mb, .ref Me, .int (nI dy), .ref Md])), (Ms, .inl (g.2.1.1, 108, .inl (upd (zf (zu sd ((q + 9) + p) 1)) ((q + 15) + p) (nI (wa (((16 * p) + (4 * (dn p))) + 2))))))] _ := hP
            have hD : va_D A [(Mw, .inl (g.2.1.1, 12, .inl (zf wy))), (My, .inl (g.2.1.1, 192, .inl (zf wa))), (M, .inr (5, [.long mt, .ref Mt, .int (nI ty), .ref Mc, .ref Mp, .ref Mw, .ref My, .ref Mm, .ref Mh, .ref Mk, .ref Mo, .int (nI xa), .int (nI xs), .int (nI xo), .int (nI xv), .int xf, .int (nI xh), .ref Ms, .ref Mi, .ref Mb, .ref Me, .int (nI dy), .ref Md])), (Ms, .inl (g.2.1.1, 108, .inl (upd (zf (zu sd ((q + 9) + p) 1)) ((q + 15) + p) (nI (wa (((16 * p) + (4 * (dn p))) + 2))))))] := hD
            rw [zf_upd] at hP hD
            exact hcut127 (zu (zu sd ((q + 9) + p) 1) ((q + 15) + p) (wa (((16 * p) + (4 * (dn p))) + 2))) _ _ _ (show zFr q p sd (zu (zu sd ((q + 9) + p) 1) ((q + 15) + p) (wa (((16 * p) + (4 * (dn p))) + 2))) from by first | exact zFr_r q p sd | exact zFr_u (zFr_u (zFr_r q p sd) (by omega)) (by omega)) (show (zu (zu sd ((q + 9) + p) 1) ((q + 15) + p) (wa (((16 * p) + (4 * (dn p))) + 2))) (q + 3 + p) = dn p ∧ (zu (zu sd ((q + 9) + p) 1) ((q + 15) + p) (wa (((16 * p) + (4 * (dn p))) + 2))) (q + 9 + p) = 1 ∧ (zu (zu sd ((q + 9) + p) 1) ((q + 15) + p) (wa (((16 * p) + (4 * (dn p))) + 2))) (q + 15 + p) = (zL1 wc wp dn lf mi hr p) ∧ (zu (zu sd ((q + 9) + p) 1) ((q + 15) + p) (wa (((16 * p) + (4 * (dn p))) + 2))) (q + 21 + p) = tk p from by first | (rw [← zL1_a (show ¬ lf p = 0 by omega)]; exact ⟨hrd, by omega, hrl, hrt⟩) | (rw [zL1_c hmay (hro3 (by omega))]; exact ⟨by rw [zu_ne (by omega), zu_ne (by omega)]; exact hrd, by rw [zu_ne (by omega), zu_at], by rw [zu_at]; exact hw2, by rw [zu_ne (by omega), zu_ne (by omega)]; exact hrt⟩)) (show 1 ≤ (zL1 wc wp dn lf mi hr p) ∧ (zL1 wc wp dn lf mi hr p) < 1000 from by first | (rw [← zL1_a (show ¬ lf p = 0 by omega)]; omega) | (rw [zL1_c hmay (hro3 (by omega))]; omega)) (show zbit si p ≠ 1 from by (rw [← hr2]; assumption)) hP hD hS (lv_sub hl [2, 3, 4, 5, 1, 0] rfl)
          · refine lv_iconst (v := 0) hx hb dX5_goOne_93 (by decide) ?_
            have hP := hP.sub (ws' := [(M, .inr (5, [.long mt, .ref Mt, .int (nI ty), .ref Mc, .ref Mp, .ref Mw, .ref My, .ref Mm, .ref Mh, .ref Mk, .ref Mo, .int (nI xa), .int (nI xs), .int (nI xo), .int (nI xv), .int xf, .int (nI xh), .ref Ms, .ref Mi, .ref Mb, .ref Me, .int (nI dy), .ref Md])), (Mw, .inl (g.2.1.1, 12, .inl (zf wy))), (My, .inl (g.2.1.1, 192, .inl (zf wa))), (Ms, .inl (g.2.1.1, 108, .inl (zf sd)))]) [2, 0, 1, 3] rfl
            have hD := hD.sub (ws' := [(M, .inr (5, [.long mt, .ref Mt, .int (nI ty), .ref Mc, .ref Mp, .ref Mw, .ref My, .ref Mm, .ref Mh, .ref Mk, .ref Mo, .int (nI xa), .int (nI xs), .int (nI xo), .int (nI xv), .int xf, .int (nI xh), .ref Ms, .ref Mi, .ref Mb, .ref Me, .int (nI dy), .ref Md])), (Mw, .inl (g.2.1.1, 12, .inl (zf wy))), (My, .inl (g.2.1.1, 192, .inl (zf wa))), (Ms, .inl (g.2.1.1, 108, .inl (zf sd)))]) [2, 0, 1, 3] (by decide) rfl
            exact hret 94 _ _ _ 0 sd dX5_goOne_94 rfl hP hD hS (show (zbit si p = 1 → 0 = 0 ∧ zRel q sd mi st si dn lf tk) ∧ (zbit si p ≠ 1 → 0 = nI (zTk wc wp dn lf mi hr p) ∧ zRel q sd mi st si (zu dn p (zDn wc wp dn lf mi hr p)) (zu lf p (zLf wc wp dn lf mi hr p)) (zu tk p (tk p + zTk wc wp dn lf mi hr p))) ∧ zOut q sd sd from by (refine ⟨fun q9 => absurd (show zbit (sd (q + 2)) p = 1 by rw [hr2]; exact q9) (by assumption), fun _ => ?_, zOut_r q sd⟩; obtain ⟨z1, z2, z3⟩ := zStay (wc := wc) (wp := wp) (dn := dn) (mi := mi) (hr := hr) (show lf p = 0 from by first | exact hro3 (by omega) | exact Classical.byContradiction fun h => by have := hlf0 h; omega) (fun h => by have h2 := h.2; first | (rw [if_pos (by omega)] at h2; omega) | (rw [if_neg (by omega)] at h2; omega)); rw [z1, z2, z3, Nat.add_zero, ← zu_id (f := dn) (k := p) rfl, ← zu_id (f := lf) (k := p) rfl, ← zu_id (f := tk) (k := p) rfl]; exact ⟨rfl, hrel⟩))
    · refine lv_iconst (v := 0) hx hb dX5_goOne_32 (by decide) ?_
      have hP := hP.sub (ws' := [(M, .inr (5, [.long mt, .ref Mt, .int (nI ty), .ref Mc, .ref Mp, .ref Mw, .ref My, .ref Mm, .ref Mh, .ref Mk, .ref Mo, .int (nI xa), .int (nI xs), .int (nI xo), .int (nI xv), .int xf, .int (nI xh), .ref Ms, .ref Mi, .ref Mb, .ref Me, .int (nI dy), .ref Md])), (Mw, .inl (g.2.1.1, 12, .inl (zf wy))), (My, .inl (g.2.1.1, 192, .inl (zf wa))), (Ms, .inl (g.2.1.1, 108, .inl (zf sd)))]) [2, 0, 1, 3] rfl
      have hD := hD.sub (ws' := [(M, .inr (5, [.long mt, .ref Mt, .int (nI ty), .ref Mc, .ref Mp, .ref Mw, .ref My, .ref Mm, .ref Mh, .ref Mk, .ref Mo, .int (nI xa), .int (nI xs), .int (nI xo), .int (nI xv), .int xf, .int (nI xh), .ref Ms, .ref Mi, .ref Mb, .ref Me, .int (nI dy), .ref Md])), (Mw, .inl (g.2.1.1, 12, .inl (zf wy))), (My, .inl (g.2.1.1, 192, .inl (zf wa))), (Ms, .inl (g.2.1.1, 108, .inl (zf sd)))]) [2, 0, 1, 3] (by decide) rfl
      exact hret 33 _ _ _ 0 sd dX5_goOne_33 rfl hP hD hS (show (zbit si p = 1 → 0 = 0 ∧ zRel q sd mi st si dn lf tk) ∧ (zbit si p ≠ 1 → 0 = nI (zTk wc wp dn lf mi hr p) ∧ zRel q sd mi st si (zu dn p (zDn wc wp dn lf mi hr p)) (zu lf p (zLf wc wp dn lf mi hr p)) (zu tk p (tk p + zTk wc wp dn lf mi hr p))) ∧ zOut q sd sd from by first | (exact ⟨fun _ => ⟨rfl, hrel⟩, fun q9 => absurd (show zbit si p = 1 by rw [← hr2]; assumption) q9, zOut_r q sd⟩) | (refine ⟨fun q9 => absurd (show zbit (sd (q + 2)) p = 1 by rw [hr2]; exact q9) (by assumption), fun _ => ?_, zOut_r q sd⟩; obtain ⟨z1, z2, z3⟩ := zStay (wc := wc) (wp := wp) (dn := dn) (mi := mi) (hr := hr) (show lf p = 0 from by first | exact hro3 (by omega) | exact Classical.byContradiction fun h => by have := hlf0 h; omega) (fun h => by have h1 := h.1; omega); rw [z1, z2, z3, Nat.add_zero, ← zu_id (f := dn) (k := p) rfl, ← zu_id (f := lf) (k := p) rfl, ← zu_id (f := tk) (k := p) rfl]; exact ⟨rfl, hrel⟩))
