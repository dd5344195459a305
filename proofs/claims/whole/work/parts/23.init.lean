set_option maxHeartbeats 4000000 in
set_option maxRecDepth 100000 in
theorem c_X0_init (l : Launch) (g : zG) (T : Nat) : zV l yX0_init wsX0_init 1 12 3 18 g [.ref T] [(T, .inr (0, [.null, .null, .null, .int 0, .int 0, .int 0]))] (fun (u : (Nat) × (Nat) × (Nat)) => True) (fun (u : (Nat) × (Nat) × (Nat)) => [(T, .inr (0, [.ref u.1, .ref u.2.1, .ref u.2.2, .int 0, .int 0, .int 0])), (u.1, .inl (g.2.1.1, 6, .inl (zf (fun _ => 0)))), (u.2.1, .inl (g.2.1.1, 6, .inl (zf (fun _ => 0)))), (u.2.2, .inl (g.2.1.1, 6, .inl (zf (fun _ => 0))))]) := by
  refine zz_bodyV (cc := cX0_init) (nL := 1) (own := RX0) (by decide) rfl rfl (Nat.le_of_ble_eq_true rfl) ?_
  intro pP eE s mM below meth cC A Q ls F hin hA hK hE hP hD hl hret
  have hS : va_S A s.heap s.heap [] := va_S.rf
  obtain ⟨hx, hb, hml, hown, hts⟩ := id F
  have hiX0 : ∀ w ∈ u_ws RX0 TX0 6, w ∈ wsX0_init := by decide +kernel
  have hf0 := hts (.methodLink RX0 3 objectInit) (by decide +kernel)
  have hf1 := hts (.instanceMethod objectInit) (by decide +kernel)
  have hf2 := hts (.code objectInit ⟨#[0xb1]⟩ 1 none) (by decide +kernel)
  have hf3 := hts (.arrayClass .int) (by decide +kernel)
  have hf4 := hts (.fieldLink RX0 9 "StepClock$Moment" "done" "[I") (by decide +kernel)
  have hf5 := hts (.fieldLink RX0 15 "StepClock$Moment" "left" "[I") (by decide +kernel)
  have hf6 := hts (.fieldLink RX0 18 "StepClock$Moment" "taken" "[I") (by decide +kernel)
  have hl : lv_has ls 1 [(0, .ref T)] := hl
  refine lv_aload_n hx hb dX0_init_0 rfl (lv_at hl 0 rfl) ?_
  refine W.objInit hx hb hown hf0 hf1 hf2 rfl (by rw [hml]; exact hl.1) rfl dX0_init_1 (Nat.le_of_ble_eq_true rfl) (Nat.le_of_ble_eq_true rfl) ?_
  refine W.eq (g2 := F0 mM 4 ls []) rfl ?_
  refine lv_aload_n hx hb dX0_init_4 rfl (lv_at hl 0 rfl) ?_
  refine lv_bipush (v := 6) hx hb dX0_init_5 (by decide) ?_
  refine zz_new_int (N2 := 6) hx hb hf3 hK.1 hP hD hS hA rfl (by decide) (by decide) (by decide) (Nat.le_of_ble_eq_true rfl) (Nat.le_of_ble_eq_true rfl) dX0_init_7 (fun q_1 H hP hD hS => ?_)
  have hP : va_P g.1 vwCl [(T, .inr (0, [.null, .null, .null, .int 0, .int 0, .int 0])), (q_1, .inl (g.2.1.1, 6, .inl (fun _ => 0)))] _ := hP
  have hD : va_D A [(T, .inr (0, [.null, .null, .null, .int 0, .int 0, .int 0])), (q_1, .inl (g.2.1.1, 6, .inl (fun _ => 0)))] := hD
  refine va_putF (D := g.1) (ci := 0) (v := .ref q_1) (ty := (.array .int)) (C := RX0) (T := TX0) (N := 6) hx hb hts hiX0 tyX0 tyX0_ok nmX0 hown hK.1 hP hD hS 0 rfl rfl 0 (by decide) hf4 (fun _ h9 => h9) rfl (hin rfl) rfl (by decide +kernel) rfl rfl (Nat.le_of_ble_eq_true rfl) dX0_init_9 (fun H locs hP hD hS => ?_)
  have hP : va_P g.1 vwCl [(T, .inr (0, [.ref q_1, .null, .null, .int 0, .int 0, .int 0])), (q_1, .inl (g.2.1.1, 6, .inl (fun _ => 0)))] _ := hP
  have hD : va_D A [(T, .inr (0, [.ref q_1, .null, .null, .int 0, .int 0, .int 0])), (q_1, .inl (g.2.1.1, 6, .inl (fun _ => 0)))] := hD
  refine lv_aload_n hx hb dX0_init_12 rfl (lv_at hl 0 rfl) ?_
  refine lv_bipush (v := 6) hx hb dX0_init_13 (by decide) ?_
  refine zz_new_int (N2 := 6) hx hb hf3 hK.1 hP hD hS hA rfl (by decide) (by decide) (by decide) (Nat.le_of_ble_eq_true rfl) (Nat.le_of_ble_eq_true rfl) dX0_init_15 (fun q_2 H hP hD hS => ?_)
  have hP : va_P g.1 vwCl [(T, .inr (0, [.ref q_1, .null, .null, .int 0, .int 0, .int 0])), (q_1, .inl (g.2.1.1, 6, .inl (fun _ => 0))), (q_2, .inl (g.2.1.1, 6, .inl (fun _ => 0)))] _ := hP
  have hD : va_D A [(T, .inr (0, [.ref q_1, .null, .null, .int 0, .int 0, .int 0])), (q_1, .inl (g.2.1.1, 6, .inl (fun _ => 0))), (q_2, .inl (g.2.1.1, 6, .inl (fun _ => 0)))] := hD
  refine va_putF (D := g.1) (ci := 0) (v := .ref q_2) (ty := (.array .int)) (C := RX0) (T := TX0) (N := 6) hx hb hts hiX0 tyX0 tyX0_ok nmX0 hown hK.1 hP hD hS 0 rfl rfl 1 (by decide) hf5 (fun _ h9 => h9) rfl (hin rfl) rfl (by decide +kernel) rfl rfl (Nat.le_of_ble_eq_true rfl) dX0_init_17 (fun H locs hP hD hS => ?_)
  have hP : va_P g.1 vwCl [(T, .inr (0, [.ref q_1, .ref q_2, .null, .int 0, .int 0, .int 0])), (q_1, .inl (g.2.1.1, 6, .inl (fun _ => 0))), (q_2, .inl (g.2.1.1, 6, .inl (fun _ => 0)))] _ := hP
  have hD : va_D A [(T, .inr (0, [.ref q_1, .ref q_2, .null, .int 0, .int 0, .int 0])), (q_1, .inl (g.2.1.1, 6, .inl (fun _ => 0))), (q_2, .inl (g.2.1.1, 6, .inl (fun _ => 0)))] := hD
  refine lv_aload_n hx hb dX0_init_20 rfl (lv_at hl 0 rfl) ?_
  refine lv_bipush (v := 6) hx hb dX0_init_21 (by decide) ?_
  refine zz_new_int (N2 := 6) hx hb hf3 hK.1 hP hD hS hA rfl (by decide) (by decide) (by decide) (Nat.le_of_ble_eq_true rfl) (Nat.le_of_ble_eq_true rfl) dX0_init_23 (fun q_3 H hP hD hS => ?_)
  have hP : va_P g.1 vwCl [(T, .inr (0, [.ref q_1, .ref q_2, .null, .int 0, .int 0, .int 0])), (q_1, .inl (g.2.1.1, 6, .inl (fun _ => 0))), (q_2, .inl (g.2.1.1, 6, .inl (fun _ => 0))), (q_3, .inl (g.2.1.1, 6, .inl (fun _ => 0)))] _ := hP
  have hD : va_D A [(T, .inr (0, [.ref q_1, .ref q_2, .null, .int 0, .int 0, .int 0])), (q_1, .inl (g.2.1.1, 6, .inl (fun _ => 0))), (q_2, .inl (g.2.1.1, 6, .inl (fun _ => 0))), (q_3, .inl (g.2.1.1, 6, .inl (fun _ => 0)))] := hD
  refine va_putF (D := g.1) (ci := 0) (v := .ref q_3) (ty := (.array .int)) (C := RX0) (T := TX0) (N := 6) hx hb hts hiX0 tyX0 tyX0_ok nmX0 hown hK.1 hP hD hS 0 rfl rfl 2 (by decide) hf6 (fun _ h9 => h9) rfl (hin rfl) rfl (by decide +kernel) rfl rfl (Nat.le_of_ble_eq_true rfl) dX0_init_25 (fun H locs hP hD hS => ?_)
  have hP : va_P g.1 vwCl [(T, .inr (0, [.ref q_1, .ref q_2, .ref q_3, .int 0, .int 0, .int 0])), (q_1, .inl (g.2.1.1, 6, .inl (fun _ => 0))), (q_2, .inl (g.2.1.1, 6, .inl (fun _ => 0))), (q_3, .inl (g.2.1.1, 6, .inl (fun _ => 0)))] _ := hP
  have hD : va_D A [(T, .inr (0, [.ref q_1, .ref q_2, .ref q_3, .int 0, .int 0, .int 0])), (q_1, .inl (g.2.1.1, 6, .inl (fun _ => 0))), (q_2, .inl (g.2.1.1, 6, .inl (fun _ => 0))), (q_3, .inl (g.2.1.1, 6, .inl (fun _ => 0)))] := hD
  have eq_4 : (fun _ => 0) = (zf (fun _ => 0)) := by rfl
  have hP : va_P g.1 vwCl [(T, .inr (0, [.ref q_1, .ref q_2, .ref q_3, .int 0, .int 0, .int 0])), (q_1, .inl (g.2.1.1, 6, .inl ((zf (fun _ => 0))))), (q_2, .inl (g.2.1.1, 6, .inl (fun _ => 0))), (q_3, .inl (g.2.1.1, 6, .inl (fun _ => 0)))] _ := Eq.mp (congrArg (fun z => va_P g.1 vwCl [(T, .inr (0, [.ref q_1, .ref q_2, .ref q_3, .int 0, .int 0, .int 0])), (q_1, .inl (g.2.1.1, 6, .inl (z))), (q_2, .inl (g.2.1.1, 6, .inl (fun _ => 0))), (q_3, .inl (g.2.1.1, 6, .inl (fun _ => 0)))] _) eq_4) hP
  have hD : va_D A [(T, .inr (0, [.ref q_1, .ref q_2, .ref q_3, .int 0, .int 0, .int 0])), (q_1, .inl (g.2.1.1, 6, .inl ((zf (fun _ => 0))))), (q_2, .inl (g.2.1.1, 6, .inl (fun _ => 0))), (q_3, .inl (g.2.1.1, 6, .inl (fun _ => 0)))] := Eq.mp (congrArg (fun z => va_D A [(T, .inr (0, [.ref q_1, .ref q_2, .ref q_3, .int 0, .int 0, .int 0])), (q_1, .inl (g.2.1.1, 6, .inl (z))), (q_2, .inl (g.2.1.1, 6, .inl (fun _ => 0))), (q_3, .inl (g.2.1.1, 6, .inl (fun _ => 0)))]) eq_4) hD
  have eq_5 : (fun _ => 0) = (zf (fun _ => 0)) := by rfl
  have hP : va_P g.1 vwCl [(T, .inr (0, [.ref q_1, .ref q_2, .ref q_3, .int 0, .int 0, .int 0])), (q_1, .inl (g.2.1.1, 6, .inl (zf (fun _ => 0)))), (q_2, .inl (g.2.1.1, 6, .inl ((zf (fun _ => 0))))), (q_3, .inl (g.2.1.1, 6, .inl (fun _ => 0)))] _ := Eq.mp (congrArg (fun z => va_P g.1 vwCl [(T, .inr (0, [.ref q_1, .ref q_2, .ref q_3, .int 0, .int 0, .int 0])), (q_1, .inl (g.2.1.1, 6, .inl (zf (fun _ => 0)))), (q_2, .inl (g.2.1.1, 6, .inl (z))), (q_3, .inl (g.2.1.1, 6, .inl (fun _ => 0)))] _) eq_5) hP
  have hD : va_D A [(T, .inr (0, [.ref q_1, .ref q_2, .ref q_3, .int 0, .int 0, .int 0])), (q_1, .inl (g.2.1.1, 6, .inl (zf (fun _ => 0)))), (q_2, .inl (g.2.1.1, 6, .inl ((zf (fun _ => 0))))), (q_3, .inl (g.2.1.1, 6, .inl (fun _ => 0)))] := Eq.mp (congrArg (fun z => va_D A [(T, .inr (0, [.ref q_1, .ref q_2, .ref q_3, .int 0, .int 0, .int 0])), (q_1, .inl (g.2.1.1, 6, .inl (zf (fun _ => 0)))), (q_2, .inl (g.2.1.1, 6, .inl (z))), (q_3, .inl (g.2.1.1, 6, .inl (fun _ => 0)))]) eq_5) hD
  have eq_6 : (fun _ => 0) = (zf (fun _ => 0)) := by rfl
  have hP : va_P g.1 vwCl [(T, .inr (0, [.ref q_1, .ref q_2, .ref q_3, .int 0, .int 0, .int 0])), (q_1, .inl (g.2.1.1, 6, .inl (zf (fun _ => 0)))), (q_2, .inl (g.2.1.1, 6, .inl (zf (fun _ => 0)))), (q_3, .inl (g.2.1.1, 6, .inl ((zf (fun _ => 0)))))] _ := Eq.mp (congrArg (fun z => va_P g.1 vwCl [(T, .inr (0, [.ref q_1, .ref q_2, .ref q_3, .int 0, .int 0, .int 0])), (q_1, .inl (g.2.1.1, 6, .inl (zf (fun _ => 0)))), (q_2, .inl (g.2.1.1, 6, .inl (zf (fun _ => 0)))), (q_3, .inl (g.2.1.1, 6, .inl (z)))] _) eq_6) hP
  have hD : va_D A [(T, .inr (0, [.ref q_1, .ref q_2, .ref q_3, .int 0, .int 0, .int 0])), (q_1, .inl (g.2.1.1, 6, .inl (zf (fun _ => 0)))), (q_2, .inl (g.2.1.1, 6, .inl (zf (fun _ => 0)))), (q_3, .inl (g.2.1.1, 6, .inl ((zf (fun _ => 0)))))] := Eq.mp (congrArg (fun z => va_D A [(T, .inr (0, [.ref q_1, .ref q_2, .ref q_3, .int 0, .int 0, .int 0])), (q_1, .inl (g.2.1.1, 6, .inl (zf (fun _ => 0)))), (q_2, .inl (g.2.1.1, 6, .inl (zf (fun _ => 0)))), (q_3, .inl (g.2.1.1, 6, .inl (z)))]) eq_6) hD
  exact hret 28 _ _ _ (q_1, q_2, q_3) dX0_init_28 hP hD hS (show True from by trivial)

set_option maxHeartbeats 4000000 in
set_option maxRecDepth 100000 in
theorem c_X1_init (l : Launch) (g : zG) (P : Nat) : zV l yX1_init wsX1_init 1 12 4 132 g [.ref P] [(P, .inr (1, [.null, .null, .null, .null, .int 0, .int 0, .int 0, .int 0]))] (fun (u : (Nat) × (Nat) × (Nat) × (Nat)) => True) (fun (u : (Nat) × (Nat) × (Nat) × (Nat)) => [(P, .inr (1, [.ref u.1, .ref u.2.1, .ref u.2.2.1, .ref u.2.2.2, .int (nI 90), .int 0, .int 0, .int 0])), (u.1, .inl (g.2.1.1, 6, .inl (zf (fun _ => 0)))), (u.2.1, .inl (g.2.1.1, 96, .inl (zf (fun _ => 0)))), (u.2.2.1, .inl (g.2.1.1, 12, .inl (zf (fun _ => 0)))), (u.2.2.2, .inl (g.2.1.1, 18, .inl (zf (fun _ => 0))))]) := by
  refine zz_bodyV (cc := cX1_init) (nL := 1) (own := RX1) (by decide) rfl rfl (Nat.le_of_ble_eq_true rfl) ?_
  intro pP eE s mM below meth cC A Q ls F hin hA hK hE hP hD hl hret
  have hS : va_S A s.heap s.heap [] := va_S.rf
  obtain ⟨hx, hb, hml, hown, hts⟩ := id F
  have hiX1 : ∀ w ∈ u_ws RX1 TX1 8, w ∈ wsX1_init := by decide +kernel
  have hf0 := hts (.methodLink RX1 3 objectInit) (by decide +kernel)
  have hf1 := hts (.instanceMethod objectInit) (by decide +kernel)
  have hf2 := hts (.code objectInit ⟨#[0xb1]⟩ 1 none) (by decide +kernel)
  have hf3 := hts (.arrayClass .int) (by decide +kernel)
  have hf4 := hts (.fieldLink RX1 9 "StepClock$Plan" "wayCounts" "[I") (by decide +kernel)
  have hf5 := hts (.fieldLink RX1 15 "StepClock$Plan" "wayParts" "[I") (by decide +kernel)
  have hf6 := hts (.fieldLink RX1 18 "StepClock$Plan" "marchParts" "[I") (by decide +kernel)
  have hf7 := hts (.fieldLink RX1 21 "StepClock$Plan" "workParts" "[I") (by decide +kernel)
  have hf8 := hts (.fieldLink RX1 24 "StepClock$Plan" "hourSteps" "I") (by decide +kernel)
  have hl : lv_has ls 1 [(0, .ref P)] := hl
  refine lv_aload_n hx hb dX1_init_0 rfl (lv_at hl 0 rfl) ?_
  refine W.objInit hx hb hown hf0 hf1 hf2 rfl (by rw [hml]; exact hl.1) rfl dX1_init_1 (Nat.le_of_ble_eq_true rfl) (Nat.le_of_ble_eq_true rfl) ?_
  refine W.eq (g2 := F0 mM 4 ls []) rfl ?_
  refine lv_aload_n hx hb dX1_init_4 rfl (lv_at hl 0 rfl) ?_
  refine lv_bipush (v := 6) hx hb dX1_init_5 (by decide) ?_
  refine zz_new_int (N2 := 6) hx hb hf3 hK.1 hP hD hS hA rfl (by decide) (by decide) (by decide) (Nat.le_of_ble_eq_true rfl) (Nat.le_of_ble_eq_true rfl) dX1_init_7 (fun q_1 H hP hD hS => ?_)
  have hP : va_P g.1 vwCl [(P, .inr (1, [.null, .null, .null, .null, .int 0, .int 0, .int 0, .int 0])), (q_1, .inl (g.2.1.1, 6, .inl (fun _ => 0)))] _ := hP
  have hD : va_D A [(P, .inr (1, [.null, .null, .null, .null, .int 0, .int 0, .int 0, .int 0])), (q_1, .inl (g.2.1.1, 6, .inl (fun _ => 0)))] := hD
  refine va_putF (D := g.1) (ci := 1) (v := .ref q_1) (ty := (.array .int)) (C := RX1) (T := TX1) (N := 8) hx hb hts hiX1 tyX1 tyX1_ok nmX1 hown hK.1 hP hD hS 0 rfl rfl 0 (by decide) hf4 (fun _ h9 => h9) rfl (hin rfl) rfl (by decide +kernel) rfl rfl (Nat.le_of_ble_eq_true rfl) dX1_init_9 (fun H locs hP hD hS => ?_)
  have hP : va_P g.1 vwCl [(P, .inr (1, [.ref q_1, .null, .null, .null, .int 0, .int 0, .int 0, .int 0])), (q_1, .inl (g.2.1.1, 6, .inl (fun _ => 0)))] _ := hP
  have hD : va_D A [(P, .inr (1, [.ref q_1, .null, .null, .null, .int 0, .int 0, .int 0, .int 0])), (q_1, .inl (g.2.1.1, 6, .inl (fun _ => 0)))] := hD
  refine lv_aload_n hx hb dX1_init_12 rfl (lv_at hl 0 rfl) ?_
  refine lv_bipush (v := 96) hx hb dX1_init_13 (by decide) ?_
  refine zz_new_int (N2 := 96) hx hb hf3 hK.1 hP hD hS hA rfl (by decide) (by decide) (by decide) (Nat.le_of_ble_eq_true rfl) (Nat.le_of_ble_eq_true rfl) dX1_init_15 (fun q_2 H hP hD hS => ?_)
  have hP : va_P g.1 vwCl [(P, .inr (1, [.ref q_1, .null, .null, .null, .int 0, .int 0, .int 0, .int 0])), (q_1, .inl (g.2.1.1, 6, .inl (fun _ => 0))), (q_2, .inl (g.2.1.1, 96, .inl (fun _ => 0)))] _ := hP
  have hD : va_D A [(P, .inr (1, [.ref q_1, .null, .null, .null, .int 0, .int 0, .int 0, .int 0])), (q_1, .inl (g.2.1.1, 6, .inl (fun _ => 0))), (q_2, .inl (g.2.1.1, 96, .inl (fun _ => 0)))] := hD
  refine va_putF (D := g.1) (ci := 1) (v := .ref q_2) (ty := (.array .int)) (C := RX1) (T := TX1) (N := 8) hx hb hts hiX1 tyX1 tyX1_ok nmX1 hown hK.1 hP hD hS 0 rfl rfl 1 (by decide) hf5 (fun _ h9 => h9) rfl (hin rfl) rfl (by decide +kernel) rfl rfl (Nat.le_of_ble_eq_true rfl) dX1_init_17 (fun H locs hP hD hS => ?_)
  have hP : va_P g.1 vwCl [(P, .inr (1, [.ref q_1, .ref q_2, .null, .null, .int 0, .int 0, .int 0, .int 0])), (q_1, .inl (g.2.1.1, 6, .inl (fun _ => 0))), (q_2, .inl (g.2.1.1, 96, .inl (fun _ => 0)))] _ := hP
  have hD : va_D A [(P, .inr (1, [.ref q_1, .ref q_2, .null, .null, .int 0, .int 0, .int 0, .int 0])), (q_1, .inl (g.2.1.1, 6, .inl (fun _ => 0))), (q_2, .inl (g.2.1.1, 96, .inl (fun _ => 0)))] := hD
  refine lv_aload_n hx hb dX1_init_20 rfl (lv_at hl 0 rfl) ?_
  refine lv_bipush (v := 12) hx hb dX1_init_21 (by decide) ?_
  refine zz_new_int (N2 := 12) hx hb hf3 hK.1 hP hD hS hA rfl (by decide) (by decide) (by decide) (Nat.le_of_ble_eq_true rfl) (Nat.le_of_ble_eq_true rfl) dX1_init_23 (fun q_3 H hP hD hS => ?_)
  have hP : va_P g.1 vwCl [(P, .inr (1, [.ref q_1, .ref q_2, .null, .null, .int 0, .int 0, .int 0, .int 0])), (q_1, .inl (g.2.1.1, 6, .inl (fun _ => 0))), (q_2, .inl (g.2.1.1, 96, .inl (fun _ => 0))), (q_3, .inl (g.2.1.1, 12, .inl (fun _ => 0)))] _ := hP
  have hD : va_D A [(P, .inr (1, [.ref q_1, .ref q_2, .null, .null, .int 0, .int 0, .int 0, .int 0])), (q_1, .inl (g.2.1.1, 6, .inl (fun _ => 0))), (q_2, .inl (g.2.1.1, 96, .inl (fun _ => 0))), (q_3, .inl (g.2.1.1, 12, .inl (fun _ => 0)))] := hD
  refine va_putF (D := g.1) (ci := 1) (v := .ref q_3) (ty := (.array .int)) (C := RX1) (T := TX1) (N := 8) hx hb hts hiX1 tyX1 tyX1_ok nmX1 hown hK.1 hP hD hS 0 rfl rfl 2 (by decide) hf6 (fun _ h9 => h9) rfl (hin rfl) rfl (by decide +kernel) rfl rfl (Nat.le_of_ble_eq_true rfl) dX1_init_25 (fun H locs hP hD hS => ?_)
  have hP : va_P g.1 vwCl [(P, .inr (1, [.ref q_1, .ref q_2, .ref q_3, .null, .int 0, .int 0, .int 0, .int 0])), (q_1, .inl (g.2.1.1, 6, .inl (fun _ => 0))), (q_2, .inl (g.2.1.1, 96, .inl (fun _ => 0))), (q_3, .inl (g.2.1.1, 12, .inl (fun _ => 0)))] _ := hP
  have hD : va_D A [(P, .inr (1, [.ref q_1, .ref q_2, .ref q_3, .null, .int 0, .int 0, .int 0, .int 0])), (q_1, .inl (g.2.1.1, 6, .inl (fun _ => 0))), (q_2, .inl (g.2.1.1, 96, .inl (fun _ => 0))), (q_3, .inl (g.2.1.1, 12, .inl (fun _ => 0)))] := hD
  refine lv_aload_n hx hb dX1_init_28 rfl (lv_at hl 0 rfl) ?_
  refine lv_bipush (v := 18) hx hb dX1_init_29 (by decide) ?_
  refine zz_new_int (N2 := 18) hx hb hf3 hK.1 hP hD hS hA rfl (by decide) (by decide) (by decide) (Nat.le_of_ble_eq_true rfl) (Nat.le_of_ble_eq_true rfl) dX1_init_31 (fun q_4 H hP hD hS => ?_)
  have hP : va_P g.1 vwCl [(P, .inr (1, [.ref q_1, .ref q_2, .ref q_3, .null, .int 0, .int 0, .int 0, .int 0])), (q_1, .inl (g.2.1.1, 6, .inl (fun _ => 0))), (q_2, .inl (g.2.1.1, 96, .inl (fun _ => 0))), (q_3, .inl (g.2.1.1, 12, .inl (fun _ => 0))), (q_4, .inl (g.2.1.1, 18, .inl (fun _ => 0)))] _ := hP
  have hD : va_D A [(P, .inr (1, [.ref q_1, .ref q_2, .ref q_3, .null, .int 0, .int 0, .int 0, .int 0])), (q_1, .inl (g.2.1.1, 6, .inl (fun _ => 0))), (q_2, .inl (g.2.1.1, 96, .inl (fun _ => 0))), (q_3, .inl (g.2.1.1, 12, .inl (fun _ => 0))), (q_4, .inl (g.2.1.1, 18, .inl (fun _ => 0)))] := hD
  refine va_putF (D := g.1) (ci := 1) (v := .ref q_4) (ty := (.array .int)) (C := RX1) (T := TX1) (N := 8) hx hb hts hiX1 tyX1 tyX1_ok nmX1 hown hK.1 hP hD hS 0 rfl rfl 3 (by decide) hf7 (fun _ h9 => h9) rfl (hin rfl) rfl (by decide +kernel) rfl rfl (Nat.le_of_ble_eq_true rfl) dX1_init_33 (fun H locs hP hD hS => ?_)
  have hP : va_P g.1 vwCl [(P, .inr (1, [.ref q_1, .ref q_2, .ref q_3, .ref q_4, .int 0, .int 0, .int 0, .int 0])), (q_1, .inl (g.2.1.1, 6, .inl (fun _ => 0))), (q_2, .inl (g.2.1.1, 96, .inl (fun _ => 0))), (q_3, .inl (g.2.1.1, 12, .inl (fun _ => 0))), (q_4, .inl (g.2.1.1, 18, .inl (fun _ => 0)))] _ := hP
  have hD : va_D A [(P, .inr (1, [.ref q_1, .ref q_2, .ref q_3, .ref q_4, .int 0, .int 0, .int 0, .int 0])), (q_1, .inl (g.2.1.1, 6, .inl (fun _ => 0))), (q_2, .inl (g.2.1.1, 96, .inl (fun _ => 0))), (q_3, .inl (g.2.1.1, 12, .inl (fun _ => 0))), (q_4, .inl (g.2.1.1, 18, .inl (fun _ => 0)))] := hD
  refine lv_aload_n hx hb dX1_init_36 rfl (lv_at hl 0 rfl) ?_
  refine lv_bipush (v := 90) hx hb dX1_init_37 (by decide) ?_
  refine va_put (D := g.1) (ci := 1) (v := .int 90) (ty := .int) (C := RX1) (T := TX1) (N := 8) hx hb hts hiX1 tyX1 tyX1_ok nmX1 hown hK.1 hP hD hS 0 rfl rfl 4 (by decide) hf8 (fun _ h9 => h9) rfl (by decide +kernel) rfl rfl (Nat.le_of_ble_eq_true rfl) dX1_init_39 (fun H locs hP hD hS => ?_)
  have hP : va_P g.1 vwCl [(P, .inr (1, [.ref q_1, .ref q_2, .ref q_3, .ref q_4, .int 90, .int 0, .int 0, .int 0])), (q_1, .inl (g.2.1.1, 6, .inl (fun _ => 0))), (q_2, .inl (g.2.1.1, 96, .inl (fun _ => 0))), (q_3, .inl (g.2.1.1, 12, .inl (fun _ => 0))), (q_4, .inl (g.2.1.1, 18, .inl (fun _ => 0)))] _ := hP
  have hD : va_D A [(P, .inr (1, [.ref q_1, .ref q_2, .ref q_3, .ref q_4, .int 90, .int 0, .int 0, .int 0])), (q_1, .inl (g.2.1.1, 6, .inl (fun _ => 0))), (q_2, .inl (g.2.1.1, 96, .inl (fun _ => 0))), (q_3, .inl (g.2.1.1, 12, .inl (fun _ => 0))), (q_4, .inl (g.2.1.1, 18, .inl (fun _ => 0)))] := hD
  have hP : va_P g.1 vwCl [(P, .inr (1, [.ref q_1, .ref q_2, .ref q_3, .ref q_4, .int (nI 90), .int 0, .int 0, .int 0])), (q_1, .inl (g.2.1.1, 6, .inl (fun _ => 0))), (q_2, .inl (g.2.1.1, 96, .inl (fun _ => 0))), (q_3, .inl (g.2.1.1, 12, .inl (fun _ => 0))), (q_4, .inl (g.2.1.1, 18, .inl (fun _ => 0)))] _ := hP
  have hD : va_D A [(P, .inr (1, [.ref q_1, .ref q_2, .ref q_3, .ref q_4, .int (nI 90), .int 0, .int 0, .int 0])), (q_1, .inl (g.2.1.1, 6, .inl (fun _ => 0))), (q_2, .inl (g.2.1.1, 96, .inl (fun _ => 0))), (q_3, .inl (g.2.1.1, 12, .inl (fun _ => 0))), (q_4, .inl (g.2.1.1, 18, .inl (fun _ => 0)))] := hD
  have eq_5 : (fun _ => 0) = (zf (fun _ => 0)) := by rfl
  have hP : va_P g.1 vwCl [(P, .inr (1, [.ref q_1, .ref q_2, .ref q_3, .ref q_4, .int (nI 90), .int 0, .int 0, .int 0])), (q_1, .inl (g.2.1.1, 6, .inl ((zf (fun _ => 0))))), (q_2, .inl (g.2.1.1, 96, .inl (fun _ => 0))), (q_3, .inl (g.2.1.1, 12, .inl (fun _ => 0))), (q_4, .inl (g.2.1.1, 18, .inl (fun _ => 0)))] _ := Eq.mp (congrArg (fun z => va_P g.1 vwCl [(P, .inr (1, [.ref q_1, .ref q_2, .ref q_3, .ref q_4, .int (nI 90), .int 0, .int 0, .int 0])), (q_1, .inl (g.2.1.1, 6, .inl (z))), (q_2, .inl (g.2.1.1, 96, .inl (fun _ => 0))), (q_3, .inl (g.2.1.1, 12, .inl (fun _ => 0))), (q_4, .inl (g.2.1.1, 18, .inl (fun _ => 0)))] _) eq_5) hP
  have hD : va_D A [(P, .inr (1, [.ref q_1, .ref q_2, .ref q_3, .ref q_4, .int (nI 90), .int 0, .int 0, .int 0])), (q_1, .inl (g.2.1.1, 6, .inl ((zf (fun _ => 0))))), (q_2, .inl (g.2.1.1, 96, .inl (fun _ => 0))), (q_3, .inl (g.2.1.1, 12, .inl (fun _ => 0))), (q_4, .inl (g.2.1.1, 18, .inl (fun _ => 0)))] := Eq.mp (congrArg (fun z => va_D A [(P, .inr (1, [.ref q_1, .ref q_2, .ref q_3, .ref q_4, .int (nI 90), .int 0, .int 0, .int 0])), (q_1, .inl (g.2.1.1, 6, .inl (z))), (q_2, .inl (g.2.1.1, 96, .inl (fun _ => 0))), (q_3, .inl (g.2.1.1, 12, .inl (fun _ => 0))), (q_4, .inl (g.2.1.1, 18, .inl (fun _ => 0)))]) eq_5) hD
  have eq_6 : (fun _ => 0) = (zf (fun _ => 0)) := by rfl
  have hP : va_P g.1 vwCl [(P, .inr (1, [.ref q_1, .ref q_2, .ref q_3, .ref q_4, .int (nI 90), .int 0, .int 0, .int 0])), (q_1, .inl (g.2.1.1, 6, .inl (zf (fun _ => 0)))), (q_2, .inl (g.2.1.1, 96, .inl ((zf (fun _ => 0))))), (q_3, .inl (g.2.1.1, 12, .inl (fun _ => 0))), (q_4, .inl (g.2.1.1, 18, .inl (fun _ => 0)))] _ := Eq.mp (congrArg (fun z => va_P g.1 vwCl [(P, .inr (1, [.ref q_1, .ref q_2, .ref q_3, .ref q_4, .int (nI 90), .int 0, .int 0, .int 0])), (q_1, .inl (g.2.1.1, 6, .inl (zf (fun _ => 0)))), (q_2, .inl (g.2.1.1, 96, .inl (z))), (q_3, .inl (g.2.1.1, 12, .inl (fun _ => 0))), (q_4, .inl (g.2.1.1, 18, .inl (fun _ => 0)))] _) eq_6) hP
  have hD : va_D A [(P, .inr (1, [.ref q_1, .ref q_2, .ref q_3, .ref q_4, .int (nI 90), .int 0, .int 0, .int 0])), (q_1, .inl (g.2.1.1, 6, .inl (zf (fun _ => 0)))), (q_2, .inl (g.2.1.1, 96, .inl ((zf (fun _ => 0))))), (q_3, .inl (g.2.1.1, 12, .inl (fun _ => 0))), (q_4, .inl (g.2.1.1, 18, .inl (fun _ => 0)))] := Eq.mp (congrArg (fun z => va_D A [(P, .inr (1, [.ref q_1, .ref q_2, .ref q_3, .ref q_4, .int (nI 90), .int 0, .int 0, .int 0])), (q_1, .inl (g.2.1.1, 6, .inl (zf (fun _ => 0)))), (q_2, .inl (g.2.1.1, 96, .inl (z))), (q_3, .inl (g.2.1.1, 12, .inl (fun _ => 0))), (q_4, .inl (g.2.1.1, 18, .inl (fun _ => 0)))]) eq_6) hD
  have eq_7 : (fun _ => 0) = (zf (fun _ => 0)) := by rfl
  have hP : va_P g.1 vwCl [(P, .inr (1, [.ref q_1, .ref q_2, .ref q_3, .ref q_4, .int (nI 90), .int 0, .int 0, .int 0])), (q_1, .inl (g.2.1.1, 6, .inl (zf (fun _ => 0)))), (q_2, .inl (g.2.1.1, 96, .inl (zf (fun _ => 0)))), (q_3, .inl (g.2.1.1, 12, .inl ((zf (fun _ => 0))))), (q_4, .inl (g.2.1.1, 18, .inl (fun _ => 0)))] _ := Eq.mp (congrArg (fun z => va_P g.1 vwCl [(P, .inr (1, [.ref q_1, .ref q_2, .ref q_3, .ref q_4, .int (nI 90), .int 0, .int 0, .int 0])), (q_1, .inl (g.2.1.1, 6, .inl (zf (fun _ => 0)))), (q_2, .inl (g.2.1.1, 96, .inl (zf (fun _ => 0)))), (q_3, .inl (g.2.1.1, 12, .inl (z))), (q_4, .inl (g.2.1.1, 18, .inl (fun _ => 0)))] _) eq_7) hP
  have hD : va_D A [(P, .inr (1, [.ref q_1, .ref q_2, .ref q_3, .ref q_4, .int (nI 90), .int 0, .int 0, .int 0])), (q_1, .inl (g.2.1.1, 6, .inl (zf (fun _ => 0)))), (q_2, .inl (g.2.1.1, 96, .inl (zf (fun _ => 0)))), (q_3, .inl (g.2.1.1, 12, .inl ((zf (fun _ => 0))))), (q_4, .inl (g.2.1.1, 18, .inl (fun _ => 0)))] := Eq.mp (congrArg (fun z => va_D A [(P, .inr (1, [.ref q_1, .ref q_2, .ref q_3, .ref q_4, .int (nI 90), .int 0, .int 0, .int 0])), (q_1, .inl (g.2.1.1, 6, .inl (zf (fun _ => 0)))), (q_2, .inl (g.2.1.1, 96, .inl (zf (fun _ => 0)))), (q_3, .inl (g.2.1.1, 12, .inl (z))), (q_4, .inl (g.2.1.1, 18, .inl (fun _ => 0)))]) eq_7) hD
  have eq_8 : (fun _ => 0) = (zf (fun _ => 0)) := by rfl
  have hP : va_P g.1 vwCl [(P, .inr (1, [.ref q_1, .ref q_2, .ref q_3, .ref q_4, .int (nI 90), .int 0, .int 0, .int 0])), (q_1, .inl (g.2.1.1, 6, .inl (zf (fun _ => 0)))), (q_2, .inl (g.2.1.1, 96, .inl (zf (fun _ => 0)))), (q_3, .inl (g.2.1.1, 12, .inl (zf (fun _ => 0)))), (q_4, .inl (g.2.1.1, 18, .inl ((zf (fun _ => 0)))))] _ := Eq.mp (congrArg (fun z => va_P g.1 vwCl [(P, .inr (1, [.ref q_1, .ref q_2, .ref q_3, .ref q_4, .int (nI 90), .int 0, .int 0, .int 0])), (q_1, .inl (g.2.1.1, 6, .inl (zf (fun _ => 0)))), (q_2, .inl (g.2.1.1, 96, .inl (zf (fun _ => 0)))), (q_3, .inl (g.2.1.1, 12, .inl (zf (fun _ => 0)))), (q_4, .inl (g.2.1.1, 18, .inl (z)))] _) eq_8) hP
  have hD : va_D A [(P, .inr (1, [.ref q_1, .ref q_2, .ref q_3, .ref q_4, .int (nI 90), .int 0, .int 0, .int 0])), (q_1, .inl (g.2.1.1, 6, .inl (zf (fun _ => 0)))), (q_2, .inl (g.2.1.1, 96, .inl (zf (fun _ => 0)))), (q_3, .inl (g.2.1.1, 12, .inl (zf (fun _ => 0)))), (q_4, .inl (g.2.1.1, 18, .inl ((zf (fun _ => 0)))))] := Eq.mp (congrArg (fun z => va_D A [(P, .inr (1, [.ref q_1, .ref q_2, .ref q_3, .ref q_4, .int (nI 90), .int 0, .int 0, .int 0])), (q_1, .inl (g.2.1.1, 6, .inl (zf (fun _ => 0)))), (q_2, .inl (g.2.1.1, 96, .inl (zf (fun _ => 0)))), (q_3, .inl (g.2.1.1, 12, .inl (zf (fun _ => 0)))), (q_4, .inl (g.2.1.1, 18, .inl (z)))]) eq_8) hD
  exact hret 42 _ _ _ (q_1, q_2, q_3, q_4) dX1_init_42 hP hD hS (show True from by trivial)

set_option maxHeartbeats 4000000 in
set_option maxRecDepth 100000 in
theorem c_X2_init (l : Launch) (g : zG) (S : Nat) : zV l yX2_init wsX2_init 1 12 1 20 g [.ref S] [(S, .inr (2, [.null, .int 0, .int 0, .int 0, .int 0]))] (fun (u : Nat) => True) (fun (u : Nat) => [(S, .inr (2, [.ref u, .int 0, .int 0, .int 0, .int 0])), (u, .inl (g.2.1.1, 20, .inl (zf (fun _ => 0))))]) := by
  refine zz_bodyV (cc := cX2_init) (nL := 1) (own := RX2) (by decide) rfl rfl (Nat.le_of_ble_eq_true rfl) ?_
  intro pP eE s mM below meth cC A Q ls F hin hA hK hE hP hD hl hret
  have hS : va_S A s.heap s.heap [] := va_S.rf
  obtain ⟨hx, hb, hml, hown, hts⟩ := id F
  have hiX2 : ∀ w ∈ u_ws RX2 TX2 5, w ∈ wsX2_init := by decide +kernel
  have hf0 := hts (.methodLink RX2 3 objectInit) (by decide +kernel)
  have hf1 := hts (.instanceMethod objectInit) (by decide +kernel)
  have hf2 := hts (.code objectInit ⟨#[0xb1]⟩ 1 none) (by decide +kernel)
  have hf3 := hts (.arrayClass .int) (by decide +kernel)
  have hf4 := hts (.fieldLink RX2 9 "StepClock$Stair" "wear" "[I") (by decide +kernel)
  have hl : lv_has ls 1 [(0, .ref S)] := hl
  refine lv_aload_n hx hb dX2_init_0 rfl (lv_at hl 0 rfl) ?_
  refine W.objInit hx hb hown hf0 hf1 hf2 rfl (by rw [hml]; exact hl.1) rfl dX2_init_1 (Nat.le_of_ble_eq_true rfl) (Nat.le_of_ble_eq_true rfl) ?_
  refine W.eq (g2 := F0 mM 4 ls []) rfl ?_
  refine lv_aload_n hx hb dX2_init_4 rfl (lv_at hl 0 rfl) ?_
  refine lv_bipush (v := 20) hx hb dX2_init_5 (by decide) ?_
  refine zz_new_int (N2 := 20) hx hb hf3 hK.1 hP hD hS hA rfl (by decide) (by decide) (by decide) (Nat.le_of_ble_eq_true rfl) (Nat.le_of_ble_eq_true rfl) dX2_init_7 (fun q_1 H hP hD hS => ?_)
  have hP : va_P g.1 vwCl [(S, .inr (2, [.null, .int 0, .int 0, .int 0, .int 0])), (q_1, .inl (g.2.1.1, 20, .inl (fun _ => 0)))] _ := hP
  have hD : va_D A [(S, .inr (2, [.null, .int 0, .int 0, .int 0, .int 0])), (q_1, .inl (g.2.1.1, 20, .inl (fun _ => 0)))] := hD
  refine va_putF (D := g.1) (ci := 2) (v := .ref q_1) (ty := (.array .int)) (C := RX2) (T := TX2) (N := 5) hx hb hts hiX2 tyX2 tyX2_ok nmX2 hown hK.1 hP hD hS 0 rfl rfl 0 (by decide) hf4 (fun _ h9 => h9) rfl (hin rfl) rfl (by decide +kernel) rfl rfl (Nat.le_of_ble_eq_true rfl) dX2_init_9 (fun H locs hP hD hS => ?_)
  have hP : va_P g.1 vwCl [(S, .inr (2, [.ref q_1, .int 0, .int 0, .int 0, .int 0])), (q_1, .inl (g.2.1.1, 20, .inl (fun _ => 0)))] _ := hP
  have hD : va_D A [(S, .inr (2, [.ref q_1, .int 0, .int 0, .int 0, .int 0])), (q_1, .inl (g.2.1.1, 20, .inl (fun _ => 0)))] := hD
  have eq_2 : (fun _ => 0) = (zf (fun _ => 0)) := by rfl
  have hP : va_P g.1 vwCl [(S, .inr (2, [.ref q_1, .int 0, .int 0, .int 0, .int 0])), (q_1, .inl (g.2.1.1, 20, .inl ((zf (fun _ => 0)))))] _ := Eq.mp (congrArg (fun z => va_P g.1 vwCl [(S, .inr (2, [.ref q_1, .int 0, .int 0, .int 0, .int 0])), (q_1, .inl (g.2.1.1, 20, .inl (z)))] _) eq_2) hP
  have hD : va_D A [(S, .inr (2, [.ref q_1, .int 0, .int 0, .int 0, .int 0])), (q_1, .inl (g.2.1.1, 20, .inl ((zf (fun _ => 0)))))] := Eq.mp (congrArg (fun z => va_D A [(S, .inr (2, [.ref q_1, .int 0, .int 0, .int 0, .int 0])), (q_1, .inl (g.2.1.1, 20, .inl (z)))]) eq_2) hD
  exact hret 12 _ _ _ q_1 dX2_init_12 hP hD hS (show True from by trivial)

set_option maxHeartbeats 4000000 in
set_option maxRecDepth 100000 in
theorem c_X3_init (l : Launch) (g : zG) (X : Nat) : zV l yX3_init wsX3_init 1 12 1 400 g [.ref X] [(X, .inr (3, [.null, .int 0, .int 0, .int 0, .int 0, .int 0, .int 0]))] (fun (u : Nat) => True) (fun (u : Nat) => [(X, .inr (3, [.ref u, .int 0, .int 0, .int 0, .int 0, .int 0, .int 0])), (u, .inl (g.2.1.1, 400, .inl (zf (fun _ => 0))))]) := by
  refine zz_bodyV (cc := cX3_init) (nL := 1) (own := RX3) (by decide) rfl rfl (Nat.le_of_ble_eq_true rfl) ?_
  intro pP eE s mM below meth cC A Q ls F hin hA hK hE hP hD hl hret
  have hS : va_S A s.heap s.heap [] := va_S.rf
  obtain ⟨hx, hb, hml, hown, hts⟩ := id F
  have hiX3 : ∀ w ∈ u_ws RX3 TX3 7, w ∈ wsX3_init := by decide +kernel
  have hf0 := hts (.methodLink RX3 3 objectInit) (by decide +kernel)
  have hf1 := hts (.instanceMethod objectInit) (by decide +kernel)
  have hf2 := hts (.code objectInit ⟨#[0xb1]⟩ 1 none) (by decide +kernel)
  have hf3 := hts (.arrayClass .int) (by decide +kernel)
  have hf4 := hts (.fieldLink RX3 9 "StepClock$Text" "bytes" "[I") (by decide +kernel)
  have hl : lv_has ls 1 [(0, .ref X)] := hl
  refine lv_aload_n hx hb dX3_init_0 rfl (lv_at hl 0 rfl) ?_
  refine W.objInit hx hb hown hf0 hf1 hf2 rfl (by rw [hml]; exact hl.1) rfl dX3_init_1 (Nat.le_of_ble_eq_true rfl) (Nat.le_of_ble_eq_true rfl) ?_
  refine W.eq (g2 := F0 mM 4 ls []) rfl ?_
  refine lv_aload_n hx hb dX3_init_4 rfl (lv_at hl 0 rfl) ?_
  refine lv_sipush (v := 400) hx hb dX3_init_5 (by decide) ?_
  refine zz_new_int (N2 := 400) hx hb hf3 hK.1 hP hD hS hA rfl (by decide) (by decide) (by decide) (Nat.le_of_ble_eq_true rfl) (Nat.le_of_ble_eq_true rfl) dX3_init_8 (fun q_1 H hP hD hS => ?_)
  have hP : va_P g.1 vwCl [(X, .inr (3, [.null, .int 0, .int 0, .int 0, .int 0, .int 0, .int 0])), (q_1, .inl (g.2.1.1, 400, .inl (fun _ => 0)))] _ := hP
  have hD : va_D A [(X, .inr (3, [.null, .int 0, .int 0, .int 0, .int 0, .int 0, .int 0])), (q_1, .inl (g.2.1.1, 400, .inl (fun _ => 0)))] := hD
  refine va_putF (D := g.1) (ci := 3) (v := .ref q_1) (ty := (.array .int)) (C := RX3) (T := TX3) (N := 7) hx hb hts hiX3 tyX3 tyX3_ok nmX3 hown hK.1 hP hD hS 0 rfl rfl 0 (by decide) hf4 (fun _ h9 => h9) rfl (hin rfl) rfl (by decide +kernel) rfl rfl (Nat.le_of_ble_eq_true rfl) dX3_init_10 (fun H locs hP hD hS => ?_)
  have hP : va_P g.1 vwCl [(X, .inr (3, [.ref q_1, .int 0, .int 0, .int 0, .int 0, .int 0, .int 0])), (q_1, .inl (g.2.1.1, 400, .inl (fun _ => 0)))] _ := hP
  have hD : va_D A [(X, .inr (3, [.ref q_1, .int 0, .int 0, .int 0, .int 0, .int 0, .int 0])), (q_1, .inl (g.2.1.1, 400, .inl (fun _ => 0)))] := hD
  have eq_2 : (fun _ => 0) = (zf (fun _ => 0)) := by rfl
  have hP : va_P g.1 vwCl [(X, .inr (3, [.ref q_1, .int 0, .int 0, .int 0, .int 0, .int 0, .int 0])), (q_1, .inl (g.2.1.1, 400, .inl ((zf (fun _ => 0)))))] _ := Eq.mp (congrArg (fun z => va_P g.1 vwCl [(X, .inr (3, [.ref q_1, .int 0, .int 0, .int 0, .int 0, .int 0, .int 0])), (q_1, .inl (g.2.1.1, 400, .inl (z)))] _) eq_2) hP
  have hD : va_D A [(X, .inr (3, [.ref q_1, .int 0, .int 0, .int 0, .int 0, .int 0, .int 0])), (q_1, .inl (g.2.1.1, 400, .inl ((zf (fun _ => 0)))))] := Eq.mp (congrArg (fun z => va_D A [(X, .inr (3, [.ref q_1, .int 0, .int 0, .int 0, .int 0, .int 0, .int 0])), (q_1, .inl (g.2.1.1, 400, .inl (z)))]) eq_2) hD
  exact hret 13 _ _ _ q_1 dX3_init_13 hP hD hS (show True from by trivial)
