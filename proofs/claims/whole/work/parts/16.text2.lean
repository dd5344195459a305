set_option maxHeartbeats 4000000 in
set_option maxRecDepth 100000 in
theorem c_X3_nextToken (l : Launch) (g : zG) (X : Nat) (Xa tx ct tn nu sa be : Nat) (tb : Nat → Nat) (htx : tx ≤ 400) (htb : ∀ k, tb k < 256) (hbe : be ≤ tx) : zV l yX3_nextToken wsX3_nextToken 1 21 0 0 g [.ref X] [(X, .inr (3, [.ref Xa, .int (nI tx), .int (nI ct), .int (nI tn), .int (nI nu), .int (nI sa), .int (nI be)])), (Xa, .inl (g.2.1.1, 400, .inl (zf tb)))] (fun (u : Nat) => (zTokK tb tx be) = 2 → u = (zTokN tb tx be)) (fun (u : Nat) => [(X, .inr (3, [.ref Xa, .int (nI tx), .int (nI ct), .int (nI (zTokK tb tx be)), .int (nI u), .int (nI (zTokS tb tx be)), .int (nI (zTokE tb tx be))])), (Xa, .inl (g.2.1.1, 400, .inl (zf tb)))]) := by
  refine zz_bodyV (cc := cX3_nextToken) (nL := 3) (own := RX3) (by decide) rfl rfl (Nat.le_of_ble_eq_true rfl) ?_
  intro pP eE s mM below meth cC A Q ls F hin hA hK hE hP hD hl hret
  have hS : va_S A s.heap s.heap [] := va_S.rf
  obtain ⟨hx, hb, hml, hown, hts⟩ := id F
  have hiX3 : ∀ w ∈ u_ws RX3 TX3 7, w ∈ wsX3_nextToken := by decide +kernel
  have hf0 := hts (.fieldLink RX3 28 "StepClock$Text" "behind" "I") (by decide +kernel)
  have hf1 := hts (.fieldLink RX3 41 "StepClock$Text" "start" "I") (by decide +kernel)
  have hf2 := hts (.fieldLink RX3 34 "StepClock$Text" "token" "I") (by decide +kernel)
  have hf3 := hts (.fieldLink RX3 15 "StepClock$Text" "length" "I") (by decide +kernel)
  have hf4 := hts (.fieldLink RX3 114 "StepClock$Text" "number" "I") (by decide +kernel)
  have hl : lv_has ls 3 [(0, .ref X)] := hl
  have hs1 : be ≤ (zTokS tb tx be) := zSkip_ge zBlank tb tx be
  have hs2 : (zTokS tb tx be) ≤ tx := zSkip_le (p := zBlank) (tb := tb) hbe
  have hs3 : (zTokS tb tx be) = zSkip zBlank tb tx be := rfl
  refine lv_aload_n hx hb dX3_nextToken_0 rfl (lv_at hl 0 rfl) ?_
  refine lv_aload_n hx hb dX3_nextToken_1 rfl (lv_at hl 0 rfl) ?_
  refine va_get (D := g.1) (ci := 3) (v := .int (nI be)) (C := RX3) (T := TX3) (N := 7) hx hb hts hiX3 hown hK.1 hP 0 rfl rfl 6 (by decide) hf0 (fun _ h9 => h9) rfl dX3_nextToken_2 ?_
  refine va_put (D := g.1) (ci := 3) (v := .int (nI be)) (ty := .int) (C := RX3) (T := TX3) (N := 7) hx hb hts hiX3 tyX3 tyX3_ok nmX3 hown hK.1 hP hD hS 0 rfl rfl 5 (by decide) hf1 (fun _ h9 => h9) rfl (by decide +kernel) rfl rfl (Nat.le_of_ble_eq_true rfl) dX3_nextToken_5 (fun H locs hP hD hS => ?_)
  have hP : va_P g.1 vwCl [(X, .inr (3, [.ref Xa, .int (nI tx), .int (nI ct), .int (nI tn), .int (nI nu), .int (nI be), .int (nI be)])), (Xa, .inl (g.2.1.1, 400, .inl (zf tb)))] _ := hP
  have hD : va_D A [(X, .inr (3, [.ref Xa, .int (nI tx), .int (nI ct), .int (nI tn), .int (nI nu), .int (nI be), .int (nI be)])), (Xa, .inl (g.2.1.1, 400, .inl (zf tb)))] := hD
  have hcut45 : ∀ (H : Heap) (locs : List Loc) (ls : Array Slot), va_P g.1 vwCl [(X, .inr (3, [.ref Xa, .int (nI tx), .int (nI ct), .int (nI tn), .int (nI nu), .int (nI (zTokS tb tx be)), .int (nI be)])), (Xa, .inl (g.2.1.1, 400, .inl (zf tb)))] H → va_D A [(X, .inr (3, [.ref Xa, .int (nI tx), .int (nI ct), .int (nI tn), .int (nI nu), .int (nI (zTokS tb tx be)), .int (nI be)])), (Xa, .inl (g.2.1.1, 400, .inl (zf tb)))] → va_S A s.heap H locs → lv_has ls 3 [(0, .ref X)] → W pP l eE { frames := 1, cells := 0, slots := 0, locals := 21 } s mM ([.ref X] : List Value).toArray below meth cC H locs 0 0 Q (F0 mM 45 ls []) := by
    intro H locs ls hP hD hS hl
    refine lv_aload_n hx hb dX3_nextToken_45 rfl (lv_at hl 0 rfl) ?_
    refine lv_aload_n hx hb dX3_nextToken_46 rfl (lv_at hl 0 rfl) ?_
    refine va_get (D := g.1) (ci := 3) (v := .int (nI (zTokS tb tx be))) (C := RX3) (T := TX3) (N := 7) hx hb hts hiX3 hown hK.1 hP 0 rfl rfl 5 (by decide) hf1 (fun _ h9 => h9) rfl dX3_nextToken_47 ?_
    refine va_put (D := g.1) (ci := 3) (v := .int (nI (zTokS tb tx be))) (ty := .int) (C := RX3) (T := TX3) (N := 7) hx hb hts hiX3 tyX3 tyX3_ok nmX3 hown hK.1 hP hD hS 0 rfl rfl 6 (by decide) hf0 (fun _ h9 => h9) rfl (by decide +kernel) rfl rfl (Nat.le_of_ble_eq_true rfl) dX3_nextToken_50 (fun H locs hP hD hS => ?_)
    have hP : va_P g.1 vwCl [(X, .inr (3, [.ref Xa, .int (nI tx), .int (nI ct), .int (nI tn), .int (nI nu), .int (nI (zTokS tb tx be)), .int (nI (zTokS tb tx be))])), (Xa, .inl (g.2.1.1, 400, .inl (zf tb)))] _ := hP
    have hD : va_D A [(X, .inr (3, [.ref Xa, .int (nI tx), .int (nI ct), .int (nI tn), .int (nI nu), .int (nI (zTokS tb tx be)), .int (nI (zTokS tb tx be))])), (Xa, .inl (g.2.1.1, 400, .inl (zf tb)))] := hD
    refine lv_aload_n hx hb dX3_nextToken_53 rfl (lv_at hl 0 rfl) ?_
    refine lv_aload_n hx hb dX3_nextToken_54 rfl (lv_at hl 0 rfl) ?_
    refine va_get (D := g.1) (ci := 3) (v := .int (nI (zTokS tb tx be))) (C := RX3) (T := TX3) (N := 7) hx hb hts hiX3 hown hK.1 hP 0 rfl rfl 5 (by decide) hf1 (fun _ h9 => h9) rfl dX3_nextToken_55 ?_
    refine zz_callI (wr := []) (wc := [(X, .inr (3, [.ref Xa, .int (nI tx), .int (nI ct), .int (nI tn), .int (nI nu), .int (nI (zTokS tb tx be)), .int (nI (zTokS tb tx be))])), (Xa, .inl (g.2.1.1, 400, .inl (zf tb)))]) (As := [.int (nI (zTokS tb tx be))]) (rest := []) F hK hE hA hP hD hS (c_X3_byteAt l g (X := X) (Xa := Xa) (tx := tx) (ct := ct) (tn := tn) (nu := nu) (sa := (zTokS tb tx be)) (be := (zTokS tb tx be)) (tb := tb) (i := (zTokS tb tx be)) (htx := by first | assumption | omega) (htb := by first | assumption | omega) (hi := by first | assumption | omega)) (cwV 1 hts gX3_nextToken_X3_byteAt rfl rfl rfl (by decide +kernel) ⟨Nat.le_of_ble_eq_true rfl, Nat.le_of_ble_eq_true rfl⟩) [0, 1] [] rfl rfl (by decide) (by decide) (by decide) 3 0 rfl rfl rfl rfl rfl hl.1 (Nat.le_of_ble_eq_true rfl) dX3_nextToken_58 ⟨Nat.le_of_ble_eq_true rfl, Nat.le_of_ble_eq_true rfl⟩ (fun r_1 u_1 H locs hw hP hD hS => ?_)
    have hP : va_P g.1 vwCl [(X, .inr (3, [.ref Xa, .int (nI tx), .int (nI ct), .int (nI tn), .int (nI nu), .int (nI (zTokS tb tx be)), .int (nI (zTokS tb tx be))])), (Xa, .inl (g.2.1.1, 400, .inl (zf tb)))] _ := hP
    have hD : va_D A [(X, .inr (3, [.ref Xa, .int (nI tx), .int (nI ct), .int (nI tn), .int (nI nu), .int (nI (zTokS tb tx be)), .int (nI (zTokS tb tx be))])), (Xa, .inl (g.2.1.1, 400, .inl (zf tb)))] := hD
    have hr_1 := hw
    have hr_1 : r_1 = zi (zAt tb tx (zTokS tb tx be)) := hr_1
    subst hr_1
    have hza_2 := zAt_s htb tx ((zTokS tb tx be))
    have hzt_3 := zi_t (a := zAt tb tx ((zTokS tb tx be))) (by omega) (by omega)
    refine lv_istore_n (lv' := [(1, .int (zi (zAt tb tx (zTokS tb tx be)))), (0, .ref X)]) hx hb dX3_nextToken_61 rfl hl (by decide) rfl (fun ls hl => ?_)
    refine lv_iload_n hx hb dX3_nextToken_62 rfl (lv_at hl 0 rfl) ?_
    refine lv_bipush (v := (-9)) hx hb dX3_nextToken_63 (by decide) ?_
    refine zz_icmp_ne (tgt := 76) hx hb dX3_nextToken_65 (by decide) rfl (zi_c (-9) rfl) (by omega) (by omega) (fun c_4 => ?_) (fun c_4 => ?_)
    · refine lv_iload_n hx hb dX3_nextToken_76 rfl (lv_at hl 0 rfl) ?_
      refine zz_callSI (wr := [(X, .inr (3, [.ref Xa, .int (nI tx), .int (nI ct), .int (nI tn), .int (nI nu), .int (nI (zTokS tb tx be)), .int (nI (zTokS tb tx be))])), (Xa, .inl (g.2.1.1, 400, .inl (zf tb)))]) (wc := []) (As := [.int (zi (zAt tb tx (zTokS tb tx be)))]) (rest := []) F hK hE hA hP hD hS (c_X3_isLetter l g (x := zi (zAt tb tx (zTokS tb tx be)))) (va_cwS 1 hts gX3_nextToken_X3_isLetter rfl rfl rfl (by decide +kernel) ⟨Nat.le_of_ble_eq_true rfl, Nat.le_of_ble_eq_true rfl⟩) [] [0, 1] rfl rfl (by decide) (by decide) (by decide) rfl rfl hl.1 (Nat.le_of_ble_eq_true rfl) dX3_nextToken_77 ⟨Nat.le_of_ble_eq_true rfl, Nat.le_of_ble_eq_true rfl⟩ (fun r_5 u_5 H locs hw hP hD hS => ?_)
      have hP : va_P g.1 vwCl [(X, .inr (3, [.ref Xa, .int (nI tx), .int (nI ct), .int (nI tn), .int (nI nu), .int (nI (zTokS tb tx be)), .int (nI (zTokS tb tx be))])), (Xa, .inl (g.2.1.1, 400, .inl (zf tb)))] _ := hP
      have hD : va_D A [(X, .inr (3, [.ref Xa, .int (nI tx), .int (nI ct), .int (nI tn), .int (nI nu), .int (nI (zTokS tb tx be)), .int (nI (zTokS tb tx be))])), (Xa, .inl (g.2.1.1, 400, .inl (zf tb)))] := hD
      have hr_5 := hw
      have hr_5 : r_5 = if 97 ≤ (zi (zAt tb tx (zTokS tb tx be))).toInt ∧ (zi (zAt tb tx (zTokS tb tx be))).toInt ≤ 122 then 1 else 0 := hr_5
      by_cases b_6 : 97 ≤ (zi (zAt tb tx (zTokS tb tx be))).toInt ∧ (zi (zAt tb tx (zTokS tb tx be))).toInt ≤ 122
      · rw [if_pos b_6] at hr_5
        subst hr_5
        refine zz_if_eq (tgt := 129) hx hb dX3_nextToken_80 (by decide) (zi_c 1 rfl) (by omega) (fun c_7 => (by exfalso; omega)) (fun c_7 => ?_)
        have hcut83 : ∀ (fu : Nat) (i : Nat) (H : Heap) (locs : List Loc) (ls : Array Slot), ((zTokS tb tx be) ≤ i ∧ i ≤ tx) → (zSkip zLetter tb tx (zTokS tb tx be) = zSkip zLetter tb tx i) → (tx - i) < fu → va_P g.1 vwCl [(X, .inr (3, [.ref Xa, .int (nI tx), .int (nI ct), .int (nI tn), .int (nI nu), .int (nI (zTokS tb tx be)), .int (nI i)])), (Xa, .inl (g.2.1.1, 400, .inl (zf tb)))] H → va_D A [(X, .inr (3, [.ref Xa, .int (nI tx), .int (nI ct), .int (nI tn), .int (nI nu), .int (nI (zTokS tb tx be)), .int (nI i)])), (Xa, .inl (g.2.1.1, 400, .inl (zf tb)))] → va_S A s.heap H locs → lv_has ls 3 [(0, .ref X), (1, .int (zi (zAt tb tx (zTokS tb tx be))))] → W pP l eE { frames := 1, cells := 0, slots := 0, locals := 21 } s mM ([.ref X] : List Value).toArray below meth cC H locs 0 0 Q (F0 mM 83 ls []) := by
          intro fu
          induction fu with
          | zero =>
            intro i H locs ls hi hR hm
            exact absurd hm (Nat.not_lt_zero _)
          | succ fu ih83 =>
            intro i H locs ls hi hR hm hP hD hS hl
            have hcut121 : ∀ (i : Nat) (H : Heap) (locs : List Loc) (ls : Array Slot), ((zTokE tb tx be) = i) → ((zTokK tb tx be) = 3) → (i ≤ tx) → va_P g.1 vwCl [(X, .inr (3, [.ref Xa, .int (nI tx), .int (nI ct), .int (nI tn), .int (nI nu), .int (nI (zTokS tb tx be)), .int (nI i)])), (Xa, .inl (g.2.1.1, 400, .inl (zf tb)))] H → va_D A [(X, .inr (3, [.ref Xa, .int (nI tx), .int (nI ct), .int (nI tn), .int (nI nu), .int (nI (zTokS tb tx be)), .int (nI i)])), (Xa, .inl (g.2.1.1, 400, .inl (zf tb)))] → va_S A s.heap H locs → lv_has ls 3 [(0, .ref X), (1, .int (zi (zAt tb tx (zTokS tb tx be))))] → W pP l eE { frames := 1, cells := 0, slots := 0, locals := 21 } s mM ([.ref X] : List Value).toArray below meth cC H locs 0 0 Q (F0 mM 121 ls []) := by
              intro i H locs ls hE9 hTk hi2 hP hD hS hl
              refine lv_aload_n hx hb dX3_nextToken_121 rfl (lv_at hl 0 rfl) ?_
              refine lv_iconst (v := 3) hx hb dX3_nextToken_122 (by decide) ?_
              refine va_put (D := g.1) (ci := 3) (v := .int 3) (ty := .int) (C := RX3) (T := TX3) (N := 7) hx hb hts hiX3 tyX3 tyX3_ok nmX3 hown hK.1 hP hD hS 0 rfl rfl 3 (by decide) hf2 (fun _ h9 => h9) rfl (by decide +kernel) rfl rfl (Nat.le_of_ble_eq_true rfl) dX3_nextToken_123 (fun H locs hP hD hS => ?_)
              have hP : va_P g.1 vwCl [(X, .inr (3, [.ref Xa, .int (nI tx), .int (nI ct), .int 3, .int (nI nu), .int (nI (zTokS tb tx be)), .int (nI i)])), (Xa, .inl (g.2.1.1, 400, .inl (zf tb)))] _ := hP
              have hD : va_D A [(X, .inr (3, [.ref Xa, .int (nI tx), .int (nI ct), .int 3, .int (nI nu), .int (nI (zTokS tb tx be)), .int (nI i)])), (Xa, .inl (g.2.1.1, 400, .inl (zf tb)))] := hD
              refine lv_goto (tgt := 295) hx hb dX3_nextToken_126 (by decide) ?_
              have eq_8 : (3 : Int32) = nI (zTokK tb tx be) := by (rw [hTk]; rfl)
              have hP : va_P g.1 vwCl [(X, .inr (3, [.ref Xa, .int (nI tx), .int (nI ct), .int ((nI (zTokK tb tx be))), .int (nI nu), .int (nI (zTokS tb tx be)), .int (nI i)])), (Xa, .inl (g.2.1.1, 400, .inl (zf tb)))] _ := Eq.mp (congrArg (fun z => va_P g.1 vwCl [(X, .inr (3, [.ref Xa, .int (nI tx), .int (nI ct), .int (z), .int (nI nu), .int (nI (zTokS tb tx be)), .int (nI i)])), (Xa, .inl (g.2.1.1, 400, .inl (zf tb)))] _) eq_8) hP
              have hD : va_D A [(X, .inr (3, [.ref Xa, .int (nI tx), .int (nI ct), .int ((nI (zTokK tb tx be))), .int (nI nu), .int (nI (zTokS tb tx be)), .int (nI i)])), (Xa, .inl (g.2.1.1, 400, .inl (zf tb)))] := Eq.mp (congrArg (fun z => va_D A [(X, .inr (3, [.ref Xa, .int (nI tx), .int (nI ct), .int (z), .int (nI nu), .int (nI (zTokS tb tx be)), .int (nI i)])), (Xa, .inl (g.2.1.1, 400, .inl (zf tb)))]) eq_8) hD
              have eq_9 : nI i = nI (zTokE tb tx be) := by (rw [hE9]; done)
              have hP : va_P g.1 vwCl [(X, .inr (3, [.ref Xa, .int (nI tx), .int (nI ct), .int (nI (zTokK tb tx be)), .int (nI nu), .int (nI (zTokS tb tx be)), .int ((nI (zTokE tb tx be)))])), (Xa, .inl (g.2.1.1, 400, .inl (zf tb)))] _ := Eq.mp (congrArg (fun z => va_P g.1 vwCl [(X, .inr (3, [.ref Xa, .int (nI tx), .int (nI ct), .int (nI (zTokK tb tx be)), .int (nI nu), .int (nI (zTokS tb tx be)), .int (z)])), (Xa, .inl (g.2.1.1, 400, .inl (zf tb)))] _) eq_9) hP
              have hD : va_D A [(X, .inr (3, [.ref Xa, .int (nI tx), .int (nI ct), .int (nI (zTokK tb tx be)), .int (nI nu), .int (nI (zTokS tb tx be)), .int ((nI (zTokE tb tx be)))])), (Xa, .inl (g.2.1.1, 400, .inl (zf tb)))] := Eq.mp (congrArg (fun z => va_D A [(X, .inr (3, [.ref Xa, .int (nI tx), .int (nI ct), .int (nI (zTokK tb tx be)), .int (nI nu), .int (nI (zTokS tb tx be)), .int (z)])), (Xa, .inl (g.2.1.1, 400, .inl (zf tb)))]) eq_9) hD
              exact hret 295 _ _ _ nu dX3_nextToken_295 hP hD hS (show (zTokK tb tx be) = 2 → nu = (zTokN tb tx be) from by first | (exact fun q => absurd (hTk.symm.trans q) (by decide)) | (exact fun _ => hN9.symm))
            refine lv_aload_n hx hb dX3_nextToken_83 rfl (lv_at hl 0 rfl) ?_
            refine va_get (D := g.1) (ci := 3) (v := .int (nI i)) (C := RX3) (T := TX3) (N := 7) hx hb hts hiX3 hown hK.1 hP 0 rfl rfl 6 (by decide) hf0 (fun _ h9 => h9) rfl dX3_nextToken_84 ?_
            refine lv_aload_n hx hb dX3_nextToken_87 rfl (lv_at hl 0 rfl) ?_
            refine va_get (D := g.1) (ci := 3) (v := .int (nI tx)) (C := RX3) (T := TX3) (N := 7) hx hb hts hiX3 hown hK.1 hP 0 rfl rfl 1 (by decide) hf3 (fun _ h9 => h9) rfl dX3_nextToken_88 ?_
            refine zz_icmp_ge (tgt := 121) hx hb dX3_nextToken_91 (by decide) (zi_n i) (zi_n tx) (by omega) (by omega) (fun c_10 => ?_) (fun c_10 => ?_)
            · have hz : zSkip zLetter tb tx i = i := zSkip_n (fun q => by have q1 := q.1; have q2 : 97 ≤ tb i ∧ tb i ≤ 122 := of_decide_eq_true q.2; omega)
              have hTk : (zTokK tb tx be) = 3 := by rw [zTokK, if_pos (by omega), if_pos (show zLetter (tb (zTokS tb tx be)) = true from decide_eq_true (by omega))]
              have hE9 : (zTokE tb tx be) = i := by rw [zTokE, if_pos (by omega), if_pos (show zLetter (tb (zTokS tb tx be)) = true from decide_eq_true (by omega)), hR, hz]
              exact hcut121 i _ _ _ (show (zTokE tb tx be) = i from by omega) (show (zTokK tb tx be) = 3 from by omega) (show i ≤ tx from by omega) hP hD hS (lv_sub hl [0, 1] rfl)
            · refine lv_aload_n hx hb dX3_nextToken_94 rfl (lv_at hl 0 rfl) ?_
              refine lv_aload_n hx hb dX3_nextToken_95 rfl (lv_at hl 0 rfl) ?_
              refine va_get (D := g.1) (ci := 3) (v := .int (nI i)) (C := RX3) (T := TX3) (N := 7) hx hb hts hiX3 hown hK.1 hP 0 rfl rfl 6 (by decide) hf0 (fun _ h9 => h9) rfl dX3_nextToken_96 ?_
              refine zz_callI (wr := []) (wc := [(X, .inr (3, [.ref Xa, .int (nI tx), .int (nI ct), .int (nI tn), .int (nI nu), .int (nI (zTokS tb tx be)), .int (nI i)])), (Xa, .inl (g.2.1.1, 400, .inl (zf tb)))]) (As := [.int (nI i)]) (rest := []) F hK hE hA hP hD hS (c_X3_byteAt l g (X := X) (Xa := Xa) (tx := tx) (ct := ct) (tn := tn) (nu := nu) (sa := (zTokS tb tx be)) (be := i) (tb := tb) (i := i) (htx := by first | assumption | omega) (htb := by first | assumption | omega) (hi := by first | assumption | omega)) (cwV 1 hts gX3_nextToken_X3_byteAt rfl rfl rfl (by decide +kernel) ⟨Nat.le_of_ble_eq_true rfl, Nat.le_of_ble_eq_true rfl⟩) [0, 1] [] rfl rfl (by decide) (by decide) (by decide) 3 0 rfl rfl rfl rfl rfl hl.1 (Nat.le_of_ble_eq_true rfl) dX3_nextToken_99 ⟨Nat.le_of_ble_eq_true rfl, Nat.le_of_ble_eq_true rfl⟩ (fun r_11 u_11 H locs hw hP hD hS => ?_)
              have hP : va_P g.1 vwCl [(X, .inr (3, [.ref Xa, .int (nI tx), .int (nI ct), .int (nI tn), .int (nI nu), .int (nI (zTokS tb tx be)), .int (nI i)])), (Xa, .inl (g.2.1.1, 400, .inl (zf tb)))] _ := hP
              have hD : va_D A [(X, .inr (3, [.ref Xa, .int (nI tx), .int (nI ct), .int (nI tn), .int (nI nu), .int (nI (zTokS tb tx be)), .int (nI i)])), (Xa, .inl (g.2.1.1, 400, .inl (zf tb)))] := hD
              have hr_11 := hw
              have hr_11 : r_11 = zi (zAt tb tx i) := hr_11
              subst hr_11
              have hza_12 := zAt_s htb tx (i)
              have hzt_13 := zi_t (a := zAt tb tx (i)) (by omega) (by omega)
              refine zz_callSI (wr := [(X, .inr (3, [.ref Xa, .int (nI tx), .int (nI ct), .int (nI tn), .int (nI nu), .int (nI (zTokS tb tx be)), .int (nI i)])), (Xa, .inl (g.2.1.1, 400, .inl (zf tb)))]) (wc := []) (As := [.int (zi (zAt tb tx i))]) (rest := []) F hK hE hA hP hD hS (c_X3_isLetter l g (x := zi (zAt tb tx i))) (va_cwS 1 hts gX3_nextToken_X3_isLetter rfl rfl rfl (by decide +kernel) ⟨Nat.le_of_ble_eq_true rfl, Nat.le_of_ble_eq_true rfl⟩) [] [0, 1] rfl rfl (by decide) (by decide) (by decide) rfl rfl hl.1 (Nat.le_of_ble_eq_true rfl) dX3_nextToken_102 ⟨Nat.le_of_ble_eq_true rfl, Nat.le_of_ble_eq_true rfl⟩ (fun r_14 u_14 H locs hw hP hD hS => ?_)
              have hP : va_P g.1 vwCl [(X, .inr (3, [.ref Xa, .int (nI tx), .int (nI ct), .int (nI tn), .int (nI nu), .int (nI (zTokS tb tx be)), .int (nI i)])), (Xa, .inl (g.2.1.1, 400, .inl (zf tb)))] _ := hP
              have hD : va_D A [(X, .inr (3, [.ref Xa, .int (nI tx), .int (nI ct), .int (nI tn), .int (nI nu), .int (nI (zTokS tb tx be)), .int (nI i)])), (Xa, .inl (g.2.1.1, 400, .inl (zf tb)))] := hD
              have hr_14 := hw
              have hr_14 : r_14 = if 97 ≤ (zi (zAt tb tx i)).toInt ∧ (zi (zAt tb tx i)).toInt ≤ 122 then 1 else 0 := hr_14
              by_cases b_15 : 97 ≤ (zi (zAt tb tx i)).toInt ∧ (zi (zAt tb tx i)).toInt ≤ 122
              · rw [if_pos b_15] at hr_14
                subst hr_14
                refine zz_if_eq (tgt := 121) hx hb dX3_nextToken_105 (by decide) (zi_c 1 rfl) (by omega) (fun c_16 => (by exfalso; omega)) (fun c_16 => ?_)
                refine lv_aload_n hx hb dX3_nextToken_108 rfl (lv_at hl 0 rfl) ?_
                refine lv_dup hx hb dX3_nextToken_109 rfl ?_
                refine va_get (D := g.1) (ci := 3) (v := .int (nI i)) (C := RX3) (T := TX3) (N := 7) hx hb hts hiX3 hown hK.1 hP 0 rfl rfl 6 (by decide) hf0 (fun _ h9 => h9) rfl dX3_nextToken_110 ?_
                refine lv_iconst (v := 1) hx hb dX3_nextToken_113 (by decide) ?_
                refine lv_iadd hx hb dX3_nextToken_114 ?_
                refine zz_topi (y := nI (i + 1)) (zi_eq (zi_add (zi_n i) (zi_c 1 rfl)) (zi_n (i + 1)) (by omega)) ?_
                refine va_put (D := g.1) (ci := 3) (v := .int (nI (i + 1))) (ty := .int) (C := RX3) (T := TX3) (N := 7) hx hb hts hiX3 tyX3 tyX3_ok nmX3 hown hK.1 hP hD hS 0 rfl rfl 6 (by decide) hf0 (fun _ h9 => h9) rfl (by decide +kernel) rfl rfl (Nat.le_of_ble_eq_true rfl) dX3_nextToken_115 (fun H locs hP hD hS => ?_)
                have hP : va_P g.1 vwCl [(X, .inr (3, [.ref Xa, .int (nI tx), .int (nI ct), .int (nI tn), .int (nI nu), .int (nI (zTokS tb tx be)), .int (nI (i + 1))])), (Xa, .inl (g.2.1.1, 400, .inl (zf tb)))] _ := hP
                have hD : va_D A [(X, .inr (3, [.ref Xa, .int (nI tx), .int (nI ct), .int (nI tn), .int (nI nu), .int (nI (zTokS tb tx be)), .int (nI (i + 1))])), (Xa, .inl (g.2.1.1, 400, .inl (zf tb)))] := hD
                refine lv_goto (tgt := 83) hx hb dX3_nextToken_118 (by decide) ?_
                exact ih83 (i + 1) _ _ _ (show (zTokS tb tx be) ≤ (i + 1) ∧ (i + 1) ≤ tx from by omega) (show zSkip zLetter tb tx (zTokS tb tx be) = zSkip zLetter tb tx (i + 1) from by (rw [hR]; exact zSkip_y (by omega) (decide_eq_true (by omega)))) (by omega) hP hD hS (lv_sub hl [0, 1] rfl)
              · rw [if_neg b_15] at hr_14
                subst hr_14
                refine zz_if_eq (tgt := 121) hx hb dX3_nextToken_105 (by decide) (zi_c 0 rfl) (by omega) (fun c_17 => ?_) (fun c_17 => (by exfalso; omega))
                have hz : zSkip zLetter tb tx i = i := zSkip_n (fun q => by have q1 := q.1; have q2 : 97 ≤ tb i ∧ tb i ≤ 122 := of_decide_eq_true q.2; omega)
                have hTk : (zTokK tb tx be) = 3 := by rw [zTokK, if_pos (by omega), if_pos (show zLetter (tb (zTokS tb tx be)) = true from decide_eq_true (by omega))]
                have hE9 : (zTokE tb tx be) = i := by rw [zTokE, if_pos (by omega), if_pos (show zLetter (tb (zTokS tb tx be)) = true from decide_eq_true (by omega)), hR, hz]
                exact hcut121 i _ _ _ (show (zTokE tb tx be) = i from by omega) (show (zTokK tb tx be) = 3 from by omega) (show i ≤ tx from by omega) hP hD hS (lv_sub hl [0, 1] rfl)
        exact hcut83 ((tx - (zTokS tb tx be)) + 1) (zTokS tb tx be) _ _ _ (show (zTokS tb tx be) ≤ (zTokS tb tx be) ∧ (zTokS tb tx be) ≤ tx from by omega) (show zSkip zLetter tb tx (zTokS tb tx be) = zSkip zLetter tb tx (zTokS tb tx be) from by rfl) (by omega) hP hD hS (lv_sub hl [1, 0] rfl)
      · rw [if_neg b_6] at hr_5
        subst hr_5
        refine zz_if_eq (tgt := 129) hx hb dX3_nextToken_80 (by decide) (zi_c 0 rfl) (by omega) (fun c_18 => ?_) (fun c_18 => (by exfalso; omega))
        refine lv_iload_n hx hb dX3_nextToken_129 rfl (lv_at hl 0 rfl) ?_
        refine zz_callSI (wr := [(X, .inr (3, [.ref Xa, .int (nI tx), .int (nI ct), .int (nI tn), .int (nI nu), .int (nI (zTokS tb tx be)), .int (nI (zTokS tb tx be))])), (Xa, .inl (g.2.1.1, 400, .inl (zf tb)))]) (wc := []) (As := [.int (zi (zAt tb tx (zTokS tb tx be)))]) (rest := []) F hK hE hA hP hD hS (c_X3_isDigit l g (x := zi (zAt tb tx (zTokS tb tx be)))) (va_cwS 1 hts gX3_nextToken_X3_isDigit rfl rfl rfl (by decide +kernel) ⟨Nat.le_of_ble_eq_true rfl, Nat.le_of_ble_eq_true rfl⟩) [] [0, 1] rfl rfl (by decide) (by decide) (by decide) rfl rfl hl.1 (Nat.le_of_ble_eq_true rfl) dX3_nextToken_130 ⟨Nat.le_of_ble_eq_true rfl, Nat.le_of_ble_eq_true rfl⟩ (fun r_19 u_19 H locs hw hP hD hS => ?_)
        have hP : va_P g.1 vwCl [(X, .inr (3, [.ref Xa, .int (nI tx), .int (nI ct), .int (nI tn), .int (nI nu), .int (nI (zTokS tb tx be)), .int (nI (zTokS tb tx be))])), (Xa, .inl (g.2.1.1, 400, .inl (zf tb)))] _ := hP
        have hD : va_D A [(X, .inr (3, [.ref Xa, .int (nI tx), .int (nI ct), .int (nI tn), .int (nI nu), .int (nI (zTokS tb tx be)), .int (nI (zTokS tb tx be))])), (Xa, .inl (g.2.1.1, 400, .inl (zf tb)))] := hD
        have hr_19 := hw
        have hr_19 : r_19 = if 48 ≤ (zi (zAt tb tx (zTokS tb tx be))).toInt ∧ (zi (zAt tb tx (zTokS tb tx be))).toInt ≤ 57 then 1 else 0 := hr_19
        by_cases b_20 : 48 ≤ (zi (zAt tb tx (zTokS tb tx be))).toInt ∧ (zi (zAt tb tx (zTokS tb tx be))).toInt ≤ 57
        · rw [if_pos b_20] at hr_19
          subst hr_19
          refine zz_if_eq (tgt := 270) hx hb dX3_nextToken_133 (by decide) (zi_c 1 rfl) (by omega) (fun c_21 => (by exfalso; omega)) (fun c_21 => ?_)
          refine lv_aload_n hx hb dX3_nextToken_136 rfl (lv_at hl 1 rfl) ?_
          refine lv_iconst (v := 0) hx hb dX3_nextToken_137 (by decide) ?_
          refine va_put (D := g.1) (ci := 3) (v := .int 0) (ty := .int) (C := RX3) (T := TX3) (N := 7) hx hb hts hiX3 tyX3 tyX3_ok nmX3 hown hK.1 hP hD hS 0 rfl rfl 4 (by decide) hf4 (fun _ h9 => h9) rfl (by decide +kernel) rfl rfl (Nat.le_of_ble_eq_true rfl) dX3_nextToken_138 (fun H locs hP hD hS => ?_)
          have hP : va_P g.1 vwCl [(X, .inr (3, [.ref Xa, .int (nI tx), .int (nI ct), .int (nI tn), .int 0, .int (nI (zTokS tb tx be)), .int (nI (zTokS tb tx be))])), (Xa, .inl (g.2.1.1, 400, .inl (zf tb)))] _ := hP
          have hD : va_D A [(X, .inr (3, [.ref Xa, .int (nI tx), .int (nI ct), .int (nI tn), .int 0, .int (nI (zTokS tb tx be)), .int (nI (zTokS tb tx be))])), (Xa, .inl (g.2.1.1, 400, .inl (zf tb)))] := hD
          have hcut141 : ∀ (fu : Nat) (i : Nat) (v : Nat) (H : Heap) (locs : List Loc) (ls : Array Slot), ((zTokS tb tx be) ≤ i ∧ i ≤ tx) → (zSkip zDigit tb tx (zTokS tb tx be) = zSkip zDigit tb tx i) → (v = zNum tb (zTokS tb tx be) (i - (zTokS tb tx be)) ∧ v < 10010) → (tx - i) < fu → va_P g.1 vwCl [(X, .inr (3, [.ref Xa, .int (nI tx), .int (nI ct), .int (nI tn), .int (nI v), .int (nI (zTokS tb tx be)), .int (nI i)])), (Xa, .inl (g.2.1.1, 400, .inl (zf tb)))] H → va_D A [(X, .inr (3, [.ref Xa, .int (nI tx), .int (nI ct), .int (nI tn), .int (nI v), .int (nI (zTokS tb tx be)), .int (nI i)])), (Xa, .inl (g.2.1.1, 400, .inl (zf tb)))] → va_S A s.heap H locs → lv_has ls 3 [(0, .ref X), (1, .int (zi (zAt tb tx (zTokS tb tx be))))] → W pP l eE { frames := 1, cells := 0, slots := 0, locals := 21 } s mM ([.ref X] : List Value).toArray below meth cC H locs 0 0 Q (F0 mM 141 ls []) := by
            intro fu
            induction fu with
            | zero =>
              intro i v H locs ls hi hR hv hm
              exact absurd hm (Nat.not_lt_zero _)
            | succ fu ih141 =>
              intro i v H locs ls hi hR hv hm hP hD hS hl
              have hcut219 : ∀ (i : Nat) (v : Nat) (H : Heap) (locs : List Loc) (ls : Array Slot), ((zTokE tb tx be) = i) → ((zTokN tb tx be) = v) → ((zTokS tb tx be) ≤ i ∧ i ≤ tx ∧ v < 10010) → va_P g.1 vwCl [(X, .inr (3, [.ref Xa, .int (nI tx), .int (nI ct), .int (nI tn), .int (nI v), .int (nI (zTokS tb tx be)), .int (nI i)])), (Xa, .inl (g.2.1.1, 400, .inl (zf tb)))] H → va_D A [(X, .inr (3, [.ref Xa, .int (nI tx), .int (nI ct), .int (nI tn), .int (nI v), .int (nI (zTokS tb tx be)), .int (nI i)])), (Xa, .inl (g.2.1.1, 400, .inl (zf tb)))] → va_S A s.heap H locs → lv_has ls 3 [(0, .ref X), (1, .int (zi (zAt tb tx (zTokS tb tx be))))] → W pP l eE { frames := 1, cells := 0, slots := 0, locals := 21 } s mM ([.ref X] : List Value).toArray below meth cC H locs 0 0 Q (F0 mM 219 ls []) := by
                intro i v H locs ls hE9 hN9 hi2 hP hD hS hl
                refine lv_iload_n hx hb dX3_nextToken_219 rfl (lv_at hl 1 rfl) ?_
                refine lv_bipush (v := 48) hx hb dX3_nextToken_220 (by decide) ?_
                refine zz_icmp_ne (tgt := 242) hx hb dX3_nextToken_222 (by decide) rfl (zi_c 48 rfl) (by omega) (by omega) (fun c_22 => ?_) (fun c_22 => ?_)
                · refine lv_iconst (v := 0) hx hb dX3_nextToken_242 (by decide) ?_
                  refine lv_istore_n (lv' := [(2, .int 0), (0, .ref X), (1, .int (zi (zAt tb tx (zTokS tb tx be))))]) hx hb dX3_nextToken_243 rfl hl (by decide) rfl (fun ls hl => ?_)
                  refine lv_aload_n hx hb dX3_nextToken_244 rfl (lv_at hl 1 rfl) ?_
                  refine lv_iload_n hx hb dX3_nextToken_245 rfl (lv_at hl 0 rfl) ?_
                  refine zz_if_ne (tgt := 259) hx hb dX3_nextToken_246 (by decide) (zi_c 0 rfl) (by omega) (fun c_23 => (by exfalso; omega)) (fun c_23 => ?_)
                  refine lv_aload_n hx hb dX3_nextToken_249 rfl (lv_at hl 1 rfl) ?_
                  refine va_get (D := g.1) (ci := 3) (v := .int (nI v)) (C := RX3) (T := TX3) (N := 7) hx hb hts hiX3 hown hK.1 hP 0 rfl rfl 4 (by decide) hf4 (fun _ h9 => h9) rfl dX3_nextToken_250 ?_
                  refine lv_sipush (v := 999) hx hb dX3_nextToken_253 (by decide) ?_
                  refine zz_icmp_le (tgt := 263) hx hb dX3_nextToken_256 (by decide) (zi_n v) (zi_c 999 rfl) (by omega) (by omega) (fun c_24 => ?_) (fun c_24 => ?_)
                  · refine lv_iconst (v := 2) hx hb dX3_nextToken_263 (by decide) ?_
                    have hTk : (zTokK tb tx be) = 2 := by rw [zTokK, if_pos (by omega), if_neg (show ¬ zLetter (tb (zTokS tb tx be)) = true from fun q => by have q1 : 97 ≤ tb (zTokS tb tx be) ∧ tb (zTokS tb tx be) ≤ 122 := of_decide_eq_true q; omega), if_pos (show zDigit (tb (zTokS tb tx be)) = true from decide_eq_true (by omega)), hE9, hN9, if_neg (by omega)]
                    refine va_put (D := g.1) (ci := 3) (v := .int 2) (ty := .int) (C := RX3) (T := TX3) (N := 7) hx hb hts hiX3 tyX3 tyX3_ok nmX3 hown hK.1 hP hD hS 0 rfl rfl 3 (by decide) hf2 (fun _ h9 => h9) rfl (by decide +kernel) rfl rfl (Nat.le_of_ble_eq_true rfl) dX3_nextToken_264 (fun H locs hP hD hS => ?_)
                    have hP : va_P g.1 vwCl [(X, .inr (3, [.ref Xa, .int (nI tx), .int (nI ct), .int 2, .int (nI v), .int (nI (zTokS tb tx be)), .int (nI i)])), (Xa, .inl (g.2.1.1, 400, .inl (zf tb)))] _ := hP
                    have hD : va_D A [(X, .inr (3, [.ref Xa, .int (nI tx), .int (nI ct), .int 2, .int (nI v), .int (nI (zTokS tb tx be)), .int (nI i)])), (Xa, .inl (g.2.1.1, 400, .inl (zf tb)))] := hD
                    refine lv_goto (tgt := 295) hx hb dX3_nextToken_267 (by decide) ?_
                    have eq_25 : (2 : Int32) = nI (zTokK tb tx be) := by (rw [hTk]; rfl)
                    have hP : va_P g.1 vwCl [(X, .inr (3, [.ref Xa, .int (nI tx), .int (nI ct), .int ((nI (zTokK tb tx be))), .int (nI v), .int (nI (zTokS tb tx be)), .int (nI i)])), (Xa, .inl (g.2.1.1, 400, .inl (zf tb)))] _ := Eq.mp (congrArg (fun z => va_P g.1 vwCl [(X, .inr (3, [.ref Xa, .int (nI tx), .int (nI ct), .int (z), .int (nI v), .int (nI (zTokS tb tx be)), .int (nI i)])), (Xa, .inl (g.2.1.1, 400, .inl (zf tb)))] _) eq_25) hP
                    have hD : va_D A [(X, .inr (3, [.ref Xa, .int (nI tx), .int (nI ct), .int ((nI (zTokK tb tx be))), .int (nI v), .int (nI (zTokS tb tx be)), .int (nI i)])), (Xa, .inl (g.2.1.1, 400, .inl (zf tb)))] := Eq.mp (congrArg (fun z => va_D A [(X, .inr (3, [.ref Xa, .int (nI tx), .int (nI ct), .int (z), .int (nI v), .int (nI (zTokS tb tx be)), .int (nI i)])), (Xa, .inl (g.2.1.1, 400, .inl (zf tb)))]) eq_25) hD
                    have eq_26 : nI i = nI (zTokE tb tx be) := by (rw [hE9]; done)
                    have hP : va_P g.1 vwCl [(X, .inr (3, [.ref Xa, .int (nI tx), .int (nI ct), .int (nI (zTokK tb tx be)), .int (nI v), .int (nI (zTokS tb tx be)), .int ((nI (zTokE tb tx be)))])), (Xa, .inl (g.2.1.1, 400, .inl (zf tb)))] _ := Eq.mp (congrArg (fun z => va_P g.1 vwCl [(X, .inr (3, [.ref Xa, .int (nI tx), .int (nI ct), .int (nI (zTokK tb tx be)), .int (nI v), .int (nI (zTokS tb tx be)), .int (z)])), (Xa, .inl (g.2.1.1, 400, .inl (zf tb)))] _) eq_26) hP
                    have hD : va_D A [(X, .inr (3, [.ref Xa, .int (nI tx), .int (nI ct), .int (nI (zTokK tb tx be)), .int (nI v), .int (nI (zTokS tb tx be)), .int ((nI (zTokE tb tx be)))])), (Xa, .inl (g.2.1.1, 400, .inl (zf tb)))] := Eq.mp (congrArg (fun z => va_D A [(X, .inr (3, [.ref Xa, .int (nI tx), .int (nI ct), .int (nI (zTokK tb tx be)), .int (nI v), .int (nI (zTokS tb tx be)), .int (z)])), (Xa, .inl (g.2.1.1, 400, .inl (zf tb)))]) eq_26) hD
                    exact hret 295 _ _ _ v dX3_nextToken_295 hP hD hS (show (zTokK tb tx be) = 2 → v = (zTokN tb tx be) from by first | (exact fun q => absurd (hTk.symm.trans q) (by decide)) | (exact fun _ => hN9.symm))
                  · refine lv_iconst (v := 4) hx hb dX3_nextToken_259 (by decide) ?_
                    refine lv_goto (tgt := 264) hx hb dX3_nextToken_260 (by decide) ?_
                    have hTk : (zTokK tb tx be) = 4 := by rw [zTokK, if_pos (by omega), if_neg (show ¬ zLetter (tb (zTokS tb tx be)) = true from fun q => by have q1 : 97 ≤ tb (zTokS tb tx be) ∧ tb (zTokS tb tx be) ≤ 122 := of_decide_eq_true q; omega), if_pos (show zDigit (tb (zTokS tb tx be)) = true from decide_eq_true (by omega)), hE9, hN9, if_pos (by omega)]
                    refine va_put (D := g.1) (ci := 3) (v := .int 4) (ty := .int) (C := RX3) (T := TX3) (N := 7) hx hb hts hiX3 tyX3 tyX3_ok nmX3 hown hK.1 hP hD hS 0 rfl rfl 3 (by decide) hf2 (fun _ h9 => h9) rfl (by decide +kernel) rfl rfl (Nat.le_of_ble_eq_true rfl) dX3_nextToken_264 (fun H locs hP hD hS => ?_)
                    have hP : va_P g.1 vwCl [(X, .inr (3, [.ref Xa, .int (nI tx), .int (nI ct), .int 4, .int (nI v), .int (nI (zTokS tb tx be)), .int (nI i)])), (Xa, .inl (g.2.1.1, 400, .inl (zf tb)))] _ := hP
                    have hD : va_D A [(X, .inr (3, [.ref Xa, .int (nI tx), .int (nI ct), .int 4, .int (nI v), .int (nI (zTokS tb tx be)), .int (nI i)])), (Xa, .inl (g.2.1.1, 400, .inl (zf tb)))] := hD
                    refine lv_goto (tgt := 295) hx hb dX3_nextToken_267 (by decide) ?_
                    have eq_27 : (4 : Int32) = nI (zTokK tb tx be) := by (rw [hTk]; rfl)
                    have hP : va_P g.1 vwCl [(X, .inr (3, [.ref Xa, .int (nI tx), .int (nI ct), .int ((nI (zTokK tb tx be))), .int (nI v), .int (nI (zTokS tb tx be)), .int (nI i)])), (Xa, .inl (g.2.1.1, 400, .inl (zf tb)))] _ := Eq.mp (congrArg (fun z => va_P g.1 vwCl [(X, .inr (3, [.ref Xa, .int (nI tx), .int (nI ct), .int (z), .int (nI v), .int (nI (zTokS tb tx be)), .int (nI i)])), (Xa, .inl (g.2.1.1, 400, .inl (zf tb)))] _) eq_27) hP
                    have hD : va_D A [(X, .inr (3, [.ref Xa, .int (nI tx), .int (nI ct), .int ((nI (zTokK tb tx be))), .int (nI v), .int (nI (zTokS tb tx be)), .int (nI i)])), (Xa, .inl (g.2.1.1, 400, .inl (zf tb)))] := Eq.mp (congrArg (fun z => va_D A [(X, .inr (3, [.ref Xa, .int (nI tx), .int (nI ct), .int (z), .int (nI v), .int (nI (zTokS tb tx be)), .int (nI i)])), (Xa, .inl (g.2.1.1, 400, .inl (zf tb)))]) eq_27) hD
                    have eq_28 : nI i = nI (zTokE tb tx be) := by (rw [hE9]; done)
                    have hP : va_P g.1 vwCl [(X, .inr (3, [.ref Xa, .int (nI tx), .int (nI ct), .int (nI (zTokK tb tx be)), .int (nI v), .int (nI (zTokS tb tx be)), .int ((nI (zTokE tb tx be)))])), (Xa, .inl (g.2.1.1, 400, .inl (zf tb)))] _ := Eq.mp (congrArg (fun z => va_P g.1 vwCl [(X, .inr (3, [.ref Xa, .int (nI tx), .int (nI ct), .int (nI (zTokK tb tx be)), .int (nI v), .int (nI (zTokS tb tx be)), .int (z)])), (Xa, .inl (g.2.1.1, 400, .inl (zf tb)))] _) eq_28) hP
                    have hD : va_D A [(X, .inr (3, [.ref Xa, .int (nI tx), .int (nI ct), .int (nI (zTokK tb tx be)), .int (nI v), .int (nI (zTokS tb tx be)), .int ((nI (zTokE tb tx be)))])), (Xa, .inl (g.2.1.1, 400, .inl (zf tb)))] := Eq.mp (congrArg (fun z => va_D A [(X, .inr (3, [.ref Xa, .int (nI tx), .int (nI ct), .int (nI (zTokK tb tx be)), .int (nI v), .int (nI (zTokS tb tx be)), .int (z)])), (Xa, .inl (g.2.1.1, 400, .inl (zf tb)))]) eq_28) hD
                    exact hret 295 _ _ _ v dX3_nextToken_295 hP hD hS (show (zTokK tb tx be) = 2 → v = (zTokN tb tx be) from by first | (exact fun q => absurd (hTk.symm.trans q) (by decide)) | (exact fun _ => hN9.symm))
                · refine lv_aload_n hx hb dX3_nextToken_225 rfl (lv_at hl 0 rfl) ?_
                  refine va_get (D := g.1) (ci := 3) (v := .int (nI i)) (C := RX3) (T := TX3) (N := 7) hx hb hts hiX3 hown hK.1 hP 0 rfl rfl 6 (by decide) hf0 (fun _ h9 => h9) rfl dX3_nextToken_226 ?_
                  refine lv_aload_n hx hb dX3_nextToken_229 rfl (lv_at hl 0 rfl) ?_
                  refine va_get (D := g.1) (ci := 3) (v := .int (nI (zTokS tb tx be))) (C := RX3) (T := TX3) (N := 7) hx hb hts hiX3 hown hK.1 hP 0 rfl rfl 5 (by decide) hf1 (fun _ h9 => h9) rfl dX3_nextToken_230 ?_
                  refine lv_isub hx hb dX3_nextToken_233 ?_
                  refine lv_iconst (v := 1) hx hb dX3_nextToken_234 (by decide) ?_
                  refine zz_icmp_le (tgt := 242) hx hb dX3_nextToken_235 (by decide) (zi_sub (zi_n i) (zi_n (zTokS tb tx be))) (zi_c 1 rfl) (by omega) (by omega) (fun c_29 => ?_) (fun c_29 => ?_)
                  · refine lv_iconst (v := 0) hx hb dX3_nextToken_242 (by decide) ?_
                    refine lv_istore_n (lv' := [(2, .int 0), (0, .ref X), (1, .int (zi (zAt tb tx (zTokS tb tx be))))]) hx hb dX3_nextToken_243 rfl hl (by decide) rfl (fun ls hl => ?_)
                    refine lv_aload_n hx hb dX3_nextToken_244 rfl (lv_at hl 1 rfl) ?_
                    refine lv_iload_n hx hb dX3_nextToken_245 rfl (lv_at hl 0 rfl) ?_
                    refine zz_if_ne (tgt := 259) hx hb dX3_nextToken_246 (by decide) (zi_c 0 rfl) (by omega) (fun c_30 => (by exfalso; omega)) (fun c_30 => ?_)
                    refine lv_aload_n hx hb dX3_nextToken_249 rfl (lv_at hl 1 rfl) ?_
                    refine va_get (D := g.1) (ci := 3) (v := .int (nI v)) (C := RX3) (T := TX3) (N := 7) hx hb hts hiX3 hown hK.1 hP 0 rfl rfl 4 (by decide) hf4 (fun _ h9 => h9) rfl dX3_nextToken_250 ?_
                    refine lv_sipush (v := 999) hx hb dX3_nextToken_253 (by decide) ?_
                    refine zz_icmp_le (tgt := 263) hx hb dX3_nextToken_256 (by decide) (zi_n v) (zi_c 999 rfl) (by omega) (by omega) (fun c_31 => ?_) (fun c_31 => ?_)
                    · refine lv_iconst (v := 2) hx hb dX3_nextToken_263 (by decide) ?_
                      have hTk : (zTokK tb tx be) = 2 := by rw [zTokK, if_pos (by omega), if_neg (show ¬ zLetter (tb (zTokS tb tx be)) = true from fun q => by have q1 : 97 ≤ tb (zTokS tb tx be) ∧ tb (zTokS tb tx be) ≤ 122 := of_decide_eq_true q; omega), if_pos (show zDigit (tb (zTokS tb tx be)) = true from decide_eq_true (by omega)), hE9, hN9, if_neg (by omega)]
                      refine va_put (D := g.1) (ci := 3) (v := .int 2) (ty := .int) (C := RX3) (T := TX3) (N := 7) hx hb hts hiX3 tyX3 tyX3_ok nmX3 hown hK.1 hP hD hS 0 rfl rfl 3 (by decide) hf2 (fun _ h9 => h9) rfl (by decide +kernel) rfl rfl (Nat.le_of_ble_eq_true rfl) dX3_nextToken_264 (fun H locs hP hD hS => ?_)
                      have hP : va_P g.1 vwCl [(X, .inr (3, [.ref Xa, .int (nI tx), .int (nI ct), .int 2, .int (nI v), .int (nI (zTokS tb tx be)), .int (nI i)])), (Xa, .inl (g.2.1.1, 400, .inl (zf tb)))] _ := hP
                      have hD : va_D A [(X, .inr (3, [.ref Xa, .int (nI tx), .int (nI ct), .int 2, .int (nI v), .int (nI (zTokS tb tx be)), .int (nI i)])), (Xa, .inl (g.2.1.1, 400, .inl (zf tb)))] := hD
                      refine lv_goto (tgt := 295) hx hb dX3_nextToken_267 (by decide) ?_
                      have eq_32 : (2 : Int32) = nI (zTokK tb tx be) := by (rw [hTk]; rfl)
                      have hP : va_P g.1 vwCl [(X, .inr (3, [.ref Xa, .int (nI tx), .int (nI ct), .int ((nI (zTokK tb tx be))), .int (nI v), .int (nI (zTokS tb tx be)), .int (nI i)])), (Xa, .inl (g.2.1.1, 400, .inl (zf tb)))] _ := Eq.mp (congrArg (fun z => va_P g.1 vwCl [(X, .inr (3, [.ref Xa, .int (nI tx), .int (nI ct), .int (z), .int (nI v), .int (nI (zTokS tb tx be)), .int (nI i)])), (Xa, .inl (g.2.1.1, 400, .inl (zf tb)))] _) eq_32) hP
                      have hD : va_D A [(X, .inr (3, [.ref Xa, .int (nI tx), .int (nI ct), .int ((nI (zTokK tb tx be))), .int (nI v), .int (nI (zTokS tb tx be)), .int (nI i)])), (Xa, .inl (g.2.1.1, 400, .inl (zf tb)))] := Eq.mp (congrArg (fun z => va_D A [(X, .inr (3, [.ref Xa, .int (nI tx), .int (nI ct), .int (z), .int (nI v), .int (nI (zTokS tb tx be)), .int (nI i)])), (Xa, .inl (g.2.1.1, 400, .inl (zf tb)))]) eq_32) hD
                      have eq_33 : nI i = nI (zTokE tb tx be) := by (rw [hE9]; done)
                      have hP : va_P g.1 vwCl [(X, .inr (3, [.ref Xa, .int (nI tx), .int (nI ct), .int (nI (zTokK tb tx be)), .int (nI v), .int (nI (zTokS tb tx be)), .int ((nI (zTokE tb tx be)))])), (Xa, .inl (g.2.1.1, 400, .inl (zf tb)))] _ := Eq.mp (congrArg (fun z => va_P g.1 vwCl [(X, .inr (3, [.ref Xa, .int (nI tx), .int (nI ct), .int (nI (zTokK tb tx be)), .int (nI v), .int (nI (zTokS tb tx be)), .int (z)])), (Xa, .inl (g.2.1.1, 400, .inl (zf tb)))] _) eq_33) hP
                      have hD : va_D A [(X, .inr (3, [.ref Xa, .int (nI tx), .int (nI ct), .int (nI (zTokK tb tx be)), .int (nI v), .int (nI (zTokS tb tx be)), .int ((nI (zTokE tb tx be)))])), (Xa, .inl (g.2.1.1, 400, .inl (zf tb)))] := Eq.mp (congrArg (fun z => va_D A [(X, .inr (3, [.ref Xa, .int (nI tx), .int (nI ct), .int (nI (zTokK tb tx be)), .int (nI v), .int (nI (zTokS tb tx be)), .int (z)])), (Xa, .inl (g.2.1.1, 400, .inl (zf tb)))]) eq_33) hD
                      exact hret 295 _ _ _ v dX3_nextToken_295 hP hD hS (show (zTokK tb tx be) = 2 → v = (zTokN tb tx be) from by first | (exact fun q => absurd (hTk.symm.trans q) (by decide)) | (exact fun _ => hN9.symm))
                    · refine lv_iconst (v := 4) hx hb dX3_nextToken_259 (by decide) ?_
                      refine lv_goto (tgt := 264) hx hb dX3_nextToken_260 (by decide) ?_
                      have hTk : (zTokK tb tx be) = 4 := by rw [zTokK, if_pos (by omega), if_neg (show ¬ zLetter (tb (zTokS tb tx be)) = true from fun q => by have q1 : 97 ≤ tb (zTokS tb tx be) ∧ tb (zTokS tb tx be) ≤ 122 := of_decide_eq_true q; omega), if_pos (show zDigit (tb (zTokS tb tx be)) = true from decide_eq_true (by omega)), hE9, hN9, if_pos (by omega)]
                      refine va_put (D := g.1) (ci := 3) (v := .int 4) (ty := .int) (C := RX3) (T := TX3) (N := 7) hx hb hts hiX3 tyX3 tyX3_ok nmX3 hown hK.1 hP hD hS 0 rfl rfl 3 (by decide) hf2 (fun _ h9 => h9) rfl (by decide +kernel) rfl rfl (Nat.le_of_ble_eq_true rfl) dX3_nextToken_264 (fun H locs hP hD hS => ?_)
                      have hP : va_P g.1 vwCl [(X, .inr (3, [.ref Xa, .int (nI tx), .int (nI ct), .int 4, .int (nI v), .int (nI (zTokS tb tx be)), .int (nI i)])), (Xa, .inl (g.2.1.1, 400, .inl (zf tb)))] _ := hP
                      have hD : va_D A [(X, .inr (3, [.ref Xa, .int (nI tx), .int (nI ct), .int 4, .int (nI v), .int (nI (zTokS tb tx be)), .int (nI i)])), (Xa, .inl (g.2.1.1, 400, .inl (zf tb)))] := hD
                      refine lv_goto (tgt := 295) hx hb dX3_nextToken_267 (by decide) ?_
                      have eq_34 : (4 : Int32) = nI (zTokK tb tx be) := by (rw [hTk]; rfl)
                      have hP : va_P g.1 vwCl [(X, .inr (3, [.ref Xa, .int (nI tx), .int (nI ct), .int ((nI (zTokK tb tx be))), .int (nI v), .int (nI (zTokS tb tx be)), .int (nI i)])), (Xa, .inl (g.2.1.1, 400, .inl (zf tb)))] _ := Eq.mp (congrArg (fun z => va_P g.1 vwCl [(X, .inr (3, [.ref Xa, .int (nI tx), .int (nI ct), .int (z), .int (nI v), .int (nI (zTokS tb tx be)), .int (nI i)])), (Xa, .inl (g.2.1.1, 400, .inl (zf tb)))] _) eq_34) hP
                      have hD : va_D A [(X, .inr (3, [.ref Xa, .int (nI tx), .int (nI ct), .int ((nI (zTokK tb tx be))), .int (nI v), .int (nI (zTokS tb tx be)), .int (nI i)])), (Xa, .inl (g.2.1.1, 400, .inl (zf tb)))] := Eq.mp (congrArg (fun z => va_D A [(X, .inr (3, [.ref Xa, .int (nI tx), .int (nI ct), .int (z), .int (nI v), .int (nI (zTokS tb tx be)), .int (nI i)])), (Xa, .inl (g.2.1.1, 400, .inl (zf tb)))]) eq_34) hD
                      have eq_35 : nI i = nI (zTokE tb tx be) := by (rw [hE9]; done)
                      have hP : va_P g.1 vwCl [(X, .inr (3, [.ref Xa, .int (nI tx), .int (nI ct), .int (nI (zTokK tb tx be)), .int (nI v), .int (nI (zTokS tb tx be)), .int ((nI (zTokE tb tx be)))])), (Xa, .inl (g.2.1.1, 400, .inl (zf tb)))] _ := Eq.mp (congrArg (fun z => va_P g.1 vwCl [(X, .inr (3, [.ref Xa, .int (nI tx), .int (nI ct), .int (nI (zTokK tb tx be)), .int (nI v), .int (nI (zTokS tb tx be)), .int (z)])), (Xa, .inl (g.2.1.1, 400, .inl (zf tb)))] _) eq_35) hP
                      have hD : va_D A [(X, .inr (3, [.ref Xa, .int (nI tx), .int (nI ct), .int (nI (zTokK tb tx be)), .int (nI v), .int (nI (zTokS tb tx be)), .int ((nI (zTokE tb tx be)))])), (Xa, .inl (g.2.1.1, 400, .inl (zf tb)))] := Eq.mp (congrArg (fun z => va_D A [(X, .inr (3, [.ref Xa, .int (nI tx), .int (nI ct), .int (nI (zTokK tb tx be)), .int (nI v), .int (nI (zTokS tb tx be)), .int (z)])), (Xa, .inl (g.2.1.1, 400, .inl (zf tb)))]) eq_35) hD
                      exact hret 295 _ _ _ v dX3_nextToken_295 hP hD hS (show (zTokK tb tx be) = 2 → v = (zTokN tb tx be) from by first | (exact fun q => absurd (hTk.symm.trans q) (by decide)) | (exact fun _ => hN9.symm))
                  · refine lv_iconst (v := 1) hx hb dX3_nextToken_238 (by decide) ?_
                    refine lv_goto (tgt := 243) hx hb dX3_nextToken_239 (by decide) ?_
                    refine lv_istore_n (lv' := [(2, .int 1), (0, .ref X), (1, .int (zi (zAt tb tx (zTokS tb tx be))))]) hx hb dX3_nextToken_243 rfl hl (by decide) rfl (fun ls hl => ?_)
                    refine lv_aload_n hx hb dX3_nextToken_244 rfl (lv_at hl 1 rfl) ?_
                    refine lv_iload_n hx hb dX3_nextToken_245 rfl (lv_at hl 0 rfl) ?_
                    refine zz_if_ne (tgt := 259) hx hb dX3_nextToken_246 (by decide) (zi_c 1 rfl) (by omega) (fun c_36 => ?_) (fun c_36 => (by exfalso; omega))
                    refine lv_iconst (v := 4) hx hb dX3_nextToken_259 (by decide) ?_
                    refine lv_goto (tgt := 264) hx hb dX3_nextToken_260 (by decide) ?_
                    have hTk : (zTokK tb tx be) = 4 := by rw [zTokK, if_pos (by omega), if_neg (show ¬ zLetter (tb (zTokS tb tx be)) = true from fun q => by have q1 : 97 ≤ tb (zTokS tb tx be) ∧ tb (zTokS tb tx be) ≤ 122 := of_decide_eq_true q; omega), if_pos (show zDigit (tb (zTokS tb tx be)) = true from decide_eq_true (by omega)), hE9, hN9, if_pos (by omega)]
                    refine va_put (D := g.1) (ci := 3) (v := .int 4) (ty := .int) (C := RX3) (T := TX3) (N := 7) hx hb hts hiX3 tyX3 tyX3_ok nmX3 hown hK.1 hP hD hS 0 rfl rfl 3 (by decide) hf2 (fun _ h9 => h9) rfl (by decide +kernel) rfl rfl (Nat.le_of_ble_eq_true rfl) dX3_nextToken_264 (fun H locs hP hD hS => ?_)
                    have hP : va_P g.1 vwCl [(X, .inr (3, [.ref Xa, .int (nI tx), .int (nI ct), .int 4, .int (nI v), .int (nI (zTokS tb tx be)), .int (nI i)])), (Xa, .inl (g.2.1.1, 400, .inl (zf tb)))] _ := hP
                    have hD : va_D A [(X, .inr (3, [.ref Xa, .int (nI tx), .int (nI ct), .int 4, .int (nI v), .int (nI (zTokS tb tx be)), .int (nI i)])), (Xa, .inl (g.2.1.1, 400, .inl (zf tb)))] := hD
                    refine lv_goto (tgt := 295) hx hb dX3_nextToken_267 (by decide) ?_
                    have eq_37 : (4 : Int32) = nI (zTokK tb tx be) := by (rw [hTk]; rfl)
                    have hP : va_P g.1 vwCl [(X, .inr (3, [.ref Xa, .int (nI tx), .int (nI ct), .int ((nI (zTokK tb tx be))), .int (nI v), .int (nI (zTokS tb tx be)), .int (nI i)])), (Xa, .inl (g.2.1.1, 400, .inl (zf tb)))] _ := Eq.mp (congrArg (fun z => va_P g.1 vwCl [(X, .inr (3, [.ref Xa, .int (nI tx), .int (nI ct), .int (z), .int (nI v), .int (nI (zTokS tb tx be)), .int (nI i)])), (Xa, .inl (g.2.1.1, 400, .inl (zf tb)))] _) eq_37) hP
                    have hD : va_D A [(X, .inr (3, [.ref Xa, .int (nI tx), .int (nI ct), .int ((nI (zTokK tb tx be))), .int (nI v), .int (nI (zTokS tb tx be)), .int (nI i)])), (Xa, .inl (g.2.1.1, 400, .inl (zf tb)))] := Eq.mp (congrArg (fun z => va_D A [(X, .inr (3, [.ref Xa, .int (nI tx), .int (nI ct), .int (z), .int (nI v), .int (nI (zTokS tb tx be)), .int (nI i)])), (Xa, .inl (g.2.1.1, 400, .inl (zf tb)))]) eq_37) hD
                    have eq_38 : nI i = nI (zTokE tb tx be) := by (rw [hE9]; done)
                    have hP : va_P g.1 vwCl [(X, .inr (3, [.ref Xa, .int (nI tx), .int (nI ct), .int (nI (zTokK tb tx be)), .int (nI v), .int (nI (zTokS tb tx be)), .int ((nI (zTokE tb tx be)))])), (Xa, .inl (g.2.1.1, 400, .inl (zf tb)))] _ := Eq.mp (congrArg (fun z => va_P g.1 vwCl [(X, .inr (3, [.ref Xa, .int (nI tx), .int (nI ct), .int (nI (zTokK tb tx be)), .int (nI v), .int (nI (zTokS tb tx be)), .int (z)])), (Xa, .inl (g.2.1.1, 400, .inl (zf tb)))] _) eq_38) hP
                    have hD : va_D A [(X, .inr (3, [.ref Xa, .int (nI tx), .int (nI ct), .int (nI (zTokK tb tx be)), .int (nI v), .int (nI (zTokS tb tx be)), .int ((nI (zTokE tb tx be)))])), (Xa, .inl (g.2.1.1, 400, .inl (zf tb)))] := Eq.mp (congrArg (fun z => va_D A [(X, .inr (3, [.ref Xa, .int (nI tx), .int (nI ct), .int (nI (zTokK tb tx be)), .int (nI v), .int (nI (zTokS tb tx be)), .int (z)])), (Xa, .inl (g.2.1.1, 400, .inl (zf tb)))]) eq_38) hD
                    exact hret 295 _ _ _ v dX3_nextToken_295 hP hD hS (show (zTokK tb tx be) = 2 → v = (zTokN tb tx be) from by first | (exact fun q => absurd (hTk.symm.trans q) (by decide)) | (exact fun _ => hN9.symm))
              refine lv_aload_n hx hb dX3_nextToken_141 rfl (lv_at hl 0 rfl) ?_
              refine va_get (D := g.1) (ci := 3) (v := .int (nI i)) (C := RX3) (T := TX3) (N := 7) hx hb hts hiX3 hown hK.1 hP 0 rfl rfl 6 (by decide) hf0 (fun _ h9 => h9) rfl dX3_nextToken_142 ?_
              refine lv_aload_n hx hb dX3_nextToken_145 rfl (lv_at hl 0 rfl) ?_
              refine va_get (D := g.1) (ci := 3) (v := .int (nI tx)) (C := RX3) (T := TX3) (N := 7) hx hb hts hiX3 hown hK.1 hP 0 rfl rfl 1 (by decide) hf3 (fun _ h9 => h9) rfl dX3_nextToken_146 ?_
              refine zz_icmp_ge (tgt := 219) hx hb dX3_nextToken_149 (by decide) (zi_n i) (zi_n tx) (by omega) (by omega) (fun c_39 => ?_) (fun c_39 => ?_)
              · have hz : zSkip zDigit tb tx i = i := zSkip_n (fun q => by have q1 := q.1; have q2 : 48 ≤ tb i ∧ tb i ≤ 57 := of_decide_eq_true q.2; omega)
                have hE9 : (zTokE tb tx be) = i := by rw [zTokE, if_pos (by omega), if_neg (show ¬ zLetter (tb (zTokS tb tx be)) = true from fun q => by have q1 : 97 ≤ tb (zTokS tb tx be) ∧ tb (zTokS tb tx be) ≤ 122 := of_decide_eq_true q; omega), if_pos (show zDigit (tb (zTokS tb tx be)) = true from decide_eq_true (by omega)), hR, hz]
                have hN9 : (zTokN tb tx be) = v := by rw [zTokN, hE9]; exact hv.1.symm
                exact hcut219 i v _ _ _ (show (zTokE tb tx be) = i from by omega) (show (zTokN tb tx be) = v from by omega) (show (zTokS tb tx be) ≤ i ∧ i ≤ tx ∧ v < 10010 from by omega) hP hD hS (lv_sub hl [0, 1] rfl)
              · refine lv_aload_n hx hb dX3_nextToken_152 rfl (lv_at hl 0 rfl) ?_
                refine lv_aload_n hx hb dX3_nextToken_153 rfl (lv_at hl 0 rfl) ?_
                refine va_get (D := g.1) (ci := 3) (v := .int (nI i)) (C := RX3) (T := TX3) (N := 7) hx hb hts hiX3 hown hK.1 hP 0 rfl rfl 6 (by decide) hf0 (fun _ h9 => h9) rfl dX3_nextToken_154 ?_
                refine zz_callI (wr := []) (wc := [(X, .inr (3, [.ref Xa, .int (nI tx), .int (nI ct), .int (nI tn), .int (nI v), .int (nI (zTokS tb tx be)), .int (nI i)])), (Xa, .inl (g.2.1.1, 400, .inl (zf tb)))]) (As := [.int (nI i)]) (rest := []) F hK hE hA hP hD hS (c_X3_byteAt l g (X := X) (Xa := Xa) (tx := tx) (ct := ct) (tn := tn) (nu := v) (sa := (zTokS tb tx be)) (be := i) (tb := tb) (i := i) (htx := by first | assumption | omega) (htb := by first | assumption | omega) (hi := by first | assumption | omega)) (cwV 1 hts gX3_nextToken_X3_byteAt rfl rfl rfl (by decide +kernel) ⟨Nat.le_of_ble_eq_true rfl, Nat.le_of_ble_eq_true rfl⟩) [0, 1] [] rfl rfl (by decide) (by decide) (by decide) 3 0 rfl rfl rfl rfl rfl hl.1 (Nat.le_of_ble_eq_true rfl) dX3_nextToken_157 ⟨Nat.le_of_ble_eq_true rfl, Nat.le_of_ble_eq_true rfl⟩ (fun r_40 u_40 H locs hw hP hD hS => ?_)
                have hP : va_P g.1 vwCl [(X, .inr (3, [.ref Xa, .int (nI tx), .int (nI ct), .int (nI tn), .int (nI v), .int (nI (zTokS tb tx be)), .int (nI i)])), (Xa, .inl (g.2.1.1, 400, .inl (zf tb)))] _ := hP
                have hD : va_D A [(X, .inr (3, [.ref Xa, .int (nI tx), .int (nI ct), .int (nI tn), .int (nI v), .int (nI (zTokS tb tx be)), .int (nI i)])), (Xa, .inl (g.2.1.1, 400, .inl (zf tb)))] := hD
                have hr_40 := hw
                have hr_40 : r_40 = zi (zAt tb tx i) := hr_40
                subst hr_40
                have hza_41 := zAt_s htb tx (i)
                have hzt_42 := zi_t (a := zAt tb tx (i)) (by omega) (by omega)
                refine zz_callSI (wr := [(X, .inr (3, [.ref Xa, .int (nI tx), .int (nI ct), .int (nI tn), .int (nI v), .int (nI (zTokS tb tx be)), .int (nI i)])), (Xa, .inl (g.2.1.1, 400, .inl (zf tb)))]) (wc := []) (As := [.int (zi (zAt tb tx i))]) (rest := []) F hK hE hA hP hD hS (c_X3_isDigit l g (x := zi (zAt tb tx i))) (va_cwS 1 hts gX3_nextToken_X3_isDigit rfl rfl rfl (by decide +kernel) ⟨Nat.le_of_ble_eq_true rfl, Nat.le_of_ble_eq_true rfl⟩) [] [0, 1] rfl rfl (by decide) (by decide) (by decide) rfl rfl hl.1 (Nat.le_of_ble_eq_true rfl) dX3_nextToken_160 ⟨Nat.le_of_ble_eq_true rfl, Nat.le_of_ble_eq_true rfl⟩ (fun r_43 u_43 H locs hw hP hD hS => ?_)
                have hP : va_P g.1 vwCl [(X, .inr (3, [.ref Xa, .int (nI tx), .int (nI ct), .int (nI tn), .int (nI v), .int (nI (zTokS tb tx be)), .int (nI i)])), (Xa, .inl (g.2.1.1, 400, .inl (zf tb)))] _ := hP
                have hD : va_D A [(X, .inr (3, [.ref Xa, .int (nI tx), .int (nI ct), .int (nI tn), .int (nI v), .int (nI (zTokS tb tx be)), .int (nI i)])), (Xa, .inl (g.2.1.1, 400, .inl (zf tb)))] := hD
                have hr_43 := hw
                have hr_43 : r_43 = if 48 ≤ (zi (zAt tb tx i)).toInt ∧ (zi (zAt tb tx i)).toInt ≤ 57 then 1 else 0 := hr_43
                by_cases b_44 : 48 ≤ (zi (zAt tb tx i)).toInt ∧ (zi (zAt tb tx i)).toInt ≤ 57
                · rw [if_pos b_44] at hr_43
                  subst hr_43
                  refine zz_if_eq (tgt := 219) hx hb dX3_nextToken_163 (by decide) (zi_c 1 rfl) (by omega) (fun c_45 => (by exfalso; omega)) (fun c_45 => ?_)
                  refine lv_aload_n hx hb dX3_nextToken_166 rfl (lv_at hl 0 rfl) ?_
                  refine lv_aload_n hx hb dX3_nextToken_167 rfl (lv_at hl 0 rfl) ?_
                  refine va_get (D := g.1) (ci := 3) (v := .int (nI v)) (C := RX3) (T := TX3) (N := 7) hx hb hts hiX3 hown hK.1 hP 0 rfl rfl 4 (by decide) hf4 (fun _ h9 => h9) rfl dX3_nextToken_168 ?_
                  refine lv_sipush (v := 999) hx hb dX3_nextToken_171 (by decide) ?_
                  refine zz_icmp_le (tgt := 184) hx hb dX3_nextToken_174 (by decide) (zi_n v) (zi_c 999 rfl) (by omega) (by omega) (fun c_46 => ?_) (fun c_46 => ?_)
                  · refine lv_aload_n hx hb dX3_nextToken_184 rfl (lv_at hl 0 rfl) ?_
                    refine va_get (D := g.1) (ci := 3) (v := .int (nI v)) (C := RX3) (T := TX3) (N := 7) hx hb hts hiX3 hown hK.1 hP 0 rfl rfl 4 (by decide) hf4 (fun _ h9 => h9) rfl dX3_nextToken_185 ?_
                    refine lv_bipush (v := 10) hx hb dX3_nextToken_188 (by decide) ?_
                    refine lv_imul hx hb dX3_nextToken_190 ?_
                    refine lv_aload_n hx hb dX3_nextToken_191 rfl (lv_at hl 0 rfl) ?_
                    refine lv_aload_n hx hb dX3_nextToken_192 rfl (lv_at hl 0 rfl) ?_
                    refine va_get (D := g.1) (ci := 3) (v := .int (nI i)) (C := RX3) (T := TX3) (N := 7) hx hb hts hiX3 hown hK.1 hP 0 rfl rfl 6 (by decide) hf0 (fun _ h9 => h9) rfl dX3_nextToken_193 ?_
                    refine zz_callI (wr := []) (wc := [(X, .inr (3, [.ref Xa, .int (nI tx), .int (nI ct), .int (nI tn), .int (nI v), .int (nI (zTokS tb tx be)), .int (nI i)])), (Xa, .inl (g.2.1.1, 400, .inl (zf tb)))]) (As := [.int (nI i)]) (rest := [.int ((nI v) * 10), .ref X]) F hK hE hA hP hD hS (c_X3_byteAt l g (X := X) (Xa := Xa) (tx := tx) (ct := ct) (tn := tn) (nu := v) (sa := (zTokS tb tx be)) (be := i) (tb := tb) (i := i) (htx := by first | assumption | omega) (htb := by first | assumption | omega) (hi := by first | assumption | omega)) (cwV 1 hts gX3_nextToken_X3_byteAt rfl rfl rfl (by decide +kernel) ⟨Nat.le_of_ble_eq_true rfl, Nat.le_of_ble_eq_true rfl⟩) [0, 1] [] rfl rfl (by decide) (by decide) (by decide) 3 0 rfl rfl rfl rfl rfl hl.1 (Nat.le_of_ble_eq_true rfl) dX3_nextToken_196 ⟨Nat.le_of_ble_eq_true rfl, Nat.le_of_ble_eq_true rfl⟩ (fun r_47 u_47 H locs hw hP hD hS => ?_)
                    have hP : va_P g.1 vwCl [(X, .inr (3, [.ref Xa, .int (nI tx), .int (nI ct), .int (nI tn), .int (nI v), .int (nI (zTokS tb tx be)), .int (nI i)])), (Xa, .inl (g.2.1.1, 400, .inl (zf tb)))] _ := hP
                    have hD : va_D A [(X, .inr (3, [.ref Xa, .int (nI tx), .int (nI ct), .int (nI tn), .int (nI v), .int (nI (zTokS tb tx be)), .int (nI i)])), (Xa, .inl (g.2.1.1, 400, .inl (zf tb)))] := hD
                    have hr_47 := hw
                    have hr_47 : r_47 = zi (zAt tb tx i) := hr_47
                    subst hr_47
                    refine zz_topi (y := nI (tb i)) (by rw [zAt, if_pos (by omega)]; exact (zi_n (tb i)).symm) ?_
                    have hdg : 48 ≤ tb i ∧ tb i ≤ 57 := by omega
                    refine lv_iadd hx hb dX3_nextToken_199 ?_
                    refine lv_bipush (v := 48) hx hb dX3_nextToken_200 (by decide) ?_
                    refine lv_isub hx hb dX3_nextToken_202 ?_
                    refine zz_topi (y := nI (((v * 10) + (tb i)) - 48)) (zi_eq (zi_sub (zi_add (zi_mul (zi_n v) (zi_c 10 rfl)) (zi_n (tb i))) (zi_c 48 rfl)) (zi_n (((v * 10) + (tb i)) - 48)) (by omega)) ?_
                    refine va_put (D := g.1) (ci := 3) (v := .int (nI (((v * 10) + (tb i)) - 48))) (ty := .int) (C := RX3) (T := TX3) (N := 7) hx hb hts hiX3 tyX3 tyX3_ok nmX3 hown hK.1 hP hD hS 0 rfl rfl 4 (by decide) hf4 (fun _ h9 => h9) rfl (by decide +kernel) rfl rfl (Nat.le_of_ble_eq_true rfl) dX3_nextToken_203 (fun H locs hP hD hS => ?_)
                    have hP : va_P g.1 vwCl [(X, .inr (3, [.ref Xa, .int (nI tx), .int (nI ct), .int (nI tn), .int (nI (((v * 10) + (tb i)) - 48)), .int (nI (zTokS tb tx be)), .int (nI i)])), (Xa, .inl (g.2.1.1, 400, .inl (zf tb)))] _ := hP
                    have hD : va_D A [(X, .inr (3, [.ref Xa, .int (nI tx), .int (nI ct), .int (nI tn), .int (nI (((v * 10) + (tb i)) - 48)), .int (nI (zTokS tb tx be)), .int (nI i)])), (Xa, .inl (g.2.1.1, 400, .inl (zf tb)))] := hD
                    refine lv_aload_n hx hb dX3_nextToken_206 rfl (lv_at hl 0 rfl) ?_
                    refine lv_dup hx hb dX3_nextToken_207 rfl ?_
                    refine va_get (D := g.1) (ci := 3) (v := .int (nI i)) (C := RX3) (T := TX3) (N := 7) hx hb hts hiX3 hown hK.1 hP 0 rfl rfl 6 (by decide) hf0 (fun _ h9 => h9) rfl dX3_nextToken_208 ?_
                    refine lv_iconst (v := 1) hx hb dX3_nextToken_211 (by decide) ?_
                    refine lv_iadd hx hb dX3_nextToken_212 ?_
                    refine zz_topi (y := nI (i + 1)) (zi_eq (zi_add (zi_n i) (zi_c 1 rfl)) (zi_n (i + 1)) (by omega)) ?_
                    refine va_put (D := g.1) (ci := 3) (v := .int (nI (i + 1))) (ty := .int) (C := RX3) (T := TX3) (N := 7) hx hb hts hiX3 tyX3 tyX3_ok nmX3 hown hK.1 hP hD hS 0 rfl rfl 6 (by decide) hf0 (fun _ h9 => h9) rfl (by decide +kernel) rfl rfl (Nat.le_of_ble_eq_true rfl) dX3_nextToken_213 (fun H locs hP hD hS => ?_)
                    have hP : va_P g.1 vwCl [(X, .inr (3, [.ref Xa, .int (nI tx), .int (nI ct), .int (nI tn), .int (nI (((v * 10) + (tb i)) - 48)), .int (nI (zTokS tb tx be)), .int (nI (i + 1))])), (Xa, .inl (g.2.1.1, 400, .inl (zf tb)))] _ := hP
                    have hD : va_D A [(X, .inr (3, [.ref Xa, .int (nI tx), .int (nI ct), .int (nI tn), .int (nI (((v * 10) + (tb i)) - 48)), .int (nI (zTokS tb tx be)), .int (nI (i + 1))])), (Xa, .inl (g.2.1.1, 400, .inl (zf tb)))] := hD
                    refine lv_goto (tgt := 141) hx hb dX3_nextToken_216 (by decide) ?_
                    exact ih141 (i + 1) (((v * 10) + (tb i)) - 48) _ _ _ (show (zTokS tb tx be) ≤ (i + 1) ∧ (i + 1) ≤ tx from by omega) (show zSkip zDigit tb tx (zTokS tb tx be) = zSkip zDigit tb tx (i + 1) from by (rw [hR]; exact zSkip_y (by omega) (decide_eq_true (by omega)))) (show (((v * 10) + (tb i)) - 48) = zNum tb (zTokS tb tx be) ((i + 1) - (zTokS tb tx be)) ∧ (((v * 10) + (tb i)) - 48) < 10010 from by (rw [show i + 1 - (zTokS tb tx be) = (i - (zTokS tb tx be)) + 1 by omega, zNum, ← hv.1, show (zTokS tb tx be) + (i - (zTokS tb tx be)) = i by omega]; first | (rw [if_pos (by omega)]; exact ⟨by omega, by omega⟩) | (rw [if_neg (by omega)]; exact ⟨by omega, by omega⟩))) (by omega) hP hD hS (lv_sub hl [0, 1] rfl)
                  · refine lv_aload_n hx hb dX3_nextToken_177 rfl (lv_at hl 0 rfl) ?_
                    refine va_get (D := g.1) (ci := 3) (v := .int (nI v)) (C := RX3) (T := TX3) (N := 7) hx hb hts hiX3 hown hK.1 hP 0 rfl rfl 4 (by decide) hf4 (fun _ h9 => h9) rfl dX3_nextToken_178 ?_
                    refine lv_goto (tgt := 203) hx hb dX3_nextToken_181 (by decide) ?_
                    refine va_put (D := g.1) (ci := 3) (v := .int (nI v)) (ty := .int) (C := RX3) (T := TX3) (N := 7) hx hb hts hiX3 tyX3 tyX3_ok nmX3 hown hK.1 hP hD hS 0 rfl rfl 4 (by decide) hf4 (fun _ h9 => h9) rfl (by decide +kernel) rfl rfl (Nat.le_of_ble_eq_true rfl) dX3_nextToken_203 (fun H locs hP hD hS => ?_)
                    have hP : va_P g.1 vwCl [(X, .inr (3, [.ref Xa, .int (nI tx), .int (nI ct), .int (nI tn), .int (nI v), .int (nI (zTokS tb tx be)), .int (nI i)])), (Xa, .inl (g.2.1.1, 400, .inl (zf tb)))] _ := hP
                    have hD : va_D A [(X, .inr (3, [.ref Xa, .int (nI tx), .int (nI ct), .int (nI tn), .int (nI v), .int (nI (zTokS tb tx be)), .int (nI i)])), (Xa, .inl (g.2.1.1, 400, .inl (zf tb)))] := hD
                    refine lv_aload_n hx hb dX3_nextToken_206 rfl (lv_at hl 0 rfl) ?_
                    refine lv_dup hx hb dX3_nextToken_207 rfl ?_
                    refine va_get (D := g.1) (ci := 3) (v := .int (nI i)) (C := RX3) (T := TX3) (N := 7) hx hb hts hiX3 hown hK.1 hP 0 rfl rfl 6 (by decide) hf0 (fun _ h9 => h9) rfl dX3_nextToken_208 ?_
                    refine lv_iconst (v := 1) hx hb dX3_nextToken_211 (by decide) ?_
                    refine lv_iadd hx hb dX3_nextToken_212 ?_
                    refine zz_topi (y := nI (i + 1)) (zi_eq (zi_add (zi_n i) (zi_c 1 rfl)) (zi_n (i + 1)) (by omega)) ?_
                    refine va_put (D := g.1) (ci := 3) (v := .int (nI (i + 1))) (ty := .int) (C := RX3) (T := TX3) (N := 7) hx hb hts hiX3 tyX3 tyX3_ok nmX3 hown hK.1 hP hD hS 0 rfl rfl 6 (by decide) hf0 (fun _ h9 => h9) rfl (by decide +kernel) rfl rfl (Nat.le_of_ble_eq_true rfl) dX3_nextToken_213 (fun H locs hP hD hS => ?_)
                    have hP : va_P g.1 vwCl [(X, .inr (3, [.ref Xa, .int (nI tx), .int (nI ct), .int (nI tn), .int (nI v), .int (nI (zTokS tb tx be)), .int (nI (i + 1))])), (Xa, .inl (g.2.1.1, 400, .inl (zf tb)))] _ := hP
                    have hD : va_D A [(X, .inr (3, [.ref Xa, .int (nI tx), .int (nI ct), .int (nI tn), .int (nI v), .int (nI (zTokS tb tx be)), .int (nI (i + 1))])), (Xa, .inl (g.2.1.1, 400, .inl (zf tb)))] := hD
                    refine lv_goto (tgt := 141) hx hb dX3_nextToken_216 (by decide) ?_
                    exact ih141 (i + 1) v _ _ _ (show (zTokS tb tx be) ≤ (i + 1) ∧ (i + 1) ≤ tx from by omega) (show zSkip zDigit tb tx (zTokS tb tx be) = zSkip zDigit tb tx (i + 1) from by (rw [hR]; exact zSkip_y (by omega) (decide_eq_true (by omega)))) (show v = zNum tb (zTokS tb tx be) ((i + 1) - (zTokS tb tx be)) ∧ v < 10010 from by (rw [show i + 1 - (zTokS tb tx be) = (i - (zTokS tb tx be)) + 1 by omega, zNum, ← hv.1, show (zTokS tb tx be) + (i - (zTokS tb tx be)) = i by omega]; first | (rw [if_pos (by omega)]; exact ⟨by omega, by omega⟩) | (rw [if_neg (by omega)]; exact ⟨by omega, by omega⟩))) (by omega) hP hD hS (lv_sub hl [0, 1] rfl)
                · rw [if_neg b_44] at hr_43
                  subst hr_43
                  refine zz_if_eq (tgt := 219) hx hb dX3_nextToken_163 (by decide) (zi_c 0 rfl) (by omega) (fun c_48 => ?_) (fun c_48 => (by exfalso; omega))
                  have hz : zSkip zDigit tb tx i = i := zSkip_n (fun q => by have q1 := q.1; have q2 : 48 ≤ tb i ∧ tb i ≤ 57 := of_decide_eq_true q.2; omega)
                  have hE9 : (zTokE tb tx be) = i := by rw [zTokE, if_pos (by omega), if_neg (show ¬ zLetter (tb (zTokS tb tx be)) = true from fun q => by have q1 : 97 ≤ tb (zTokS tb tx be) ∧ tb (zTokS tb tx be) ≤ 122 := of_decide_eq_true q; omega), if_pos (show zDigit (tb (zTokS tb tx be)) = true from decide_eq_true (by omega)), hR, hz]
                  have hN9 : (zTokN tb tx be) = v := by rw [zTokN, hE9]; exact hv.1.symm
                  exact hcut219 i v _ _ _ (show (zTokE tb tx be) = i from by omega) (show (zTokN tb tx be) = v from by omega) (show (zTokS tb tx be) ≤ i ∧ i ≤ tx ∧ v < 10010 from by omega) hP hD hS (lv_sub hl [0, 1] rfl)
          have hP : va_P g.1 vwCl [(X, .inr (3, [.ref Xa, .int (nI tx), .int (nI ct), .int (nI tn), .int (nI 0), .int (nI (zTokS tb tx be)), .int (nI (zTokS tb tx be))])), (Xa, .inl (g.2.1.1, 400, .inl (zf tb)))] _ := hP
          have hD : va_D A [(X, .inr (3, [.ref Xa, .int (nI tx), .int (nI ct), .int (nI tn), .int (nI 0), .int (nI (zTokS tb tx be)), .int (nI (zTokS tb tx be))])), (Xa, .inl (g.2.1.1, 400, .inl (zf tb)))] := hD
          exact hcut141 ((tx - (zTokS tb tx be)) + 1) (zTokS tb tx be) 0 _ _ _ (show (zTokS tb tx be) ≤ (zTokS tb tx be) ∧ (zTokS tb tx be) ≤ tx from by omega) (show zSkip zDigit tb tx (zTokS tb tx be) = zSkip zDigit tb tx (zTokS tb tx be) from by rfl) (show 0 = zNum tb (zTokS tb tx be) ((zTokS tb tx be) - (zTokS tb tx be)) ∧ 0 < 10010 from by (rw [Nat.sub_self]; exact ⟨rfl, by omega⟩)) (by omega) hP hD hS (lv_sub hl [1, 0] rfl)
        · rw [if_neg b_20] at hr_19
          subst hr_19
          refine zz_if_eq (tgt := 270) hx hb dX3_nextToken_133 (by decide) (zi_c 0 rfl) (by omega) (fun c_49 => ?_) (fun c_49 => (by exfalso; omega))
          have hE9 : (zTokE tb tx be) = (zTokS tb tx be) + 1 := by rw [zTokE, if_pos (by omega), if_neg (show ¬ zLetter (tb (zTokS tb tx be)) = true from fun q => by have q1 : 97 ≤ tb (zTokS tb tx be) ∧ tb (zTokS tb tx be) ≤ 122 := of_decide_eq_true q; omega), if_neg (show ¬ zDigit (tb (zTokS tb tx be)) = true from fun q => by have q1 : 48 ≤ tb (zTokS tb tx be) ∧ tb (zTokS tb tx be) ≤ 57 := of_decide_eq_true q; omega)]
          refine lv_aload_n hx hb dX3_nextToken_270 rfl (lv_at hl 1 rfl) ?_
          refine lv_dup hx hb dX3_nextToken_271 rfl ?_
          refine va_get (D := g.1) (ci := 3) (v := .int (nI (zTokS tb tx be))) (C := RX3) (T := TX3) (N := 7) hx hb hts hiX3 hown hK.1 hP 0 rfl rfl 6 (by decide) hf0 (fun _ h9 => h9) rfl dX3_nextToken_272 ?_
          refine lv_iconst (v := 1) hx hb dX3_nextToken_275 (by decide) ?_
          refine lv_iadd hx hb dX3_nextToken_276 ?_
          refine zz_topi (y := nI ((zTokS tb tx be) + 1)) (zi_eq (zi_add (zi_n (zTokS tb tx be)) (zi_c 1 rfl)) (zi_n ((zTokS tb tx be) + 1)) (by omega)) ?_
          refine va_put (D := g.1) (ci := 3) (v := .int (nI ((zTokS tb tx be) + 1))) (ty := .int) (C := RX3) (T := TX3) (N := 7) hx hb hts hiX3 tyX3 tyX3_ok nmX3 hown hK.1 hP hD hS 0 rfl rfl 6 (by decide) hf0 (fun _ h9 => h9) rfl (by decide +kernel) rfl rfl (Nat.le_of_ble_eq_true rfl) dX3_nextToken_277 (fun H locs hP hD hS => ?_)
          have hP : va_P g.1 vwCl [(X, .inr (3, [.ref Xa, .int (nI tx), .int (nI ct), .int (nI tn), .int (nI nu), .int (nI (zTokS tb tx be)), .int (nI ((zTokS tb tx be) + 1))])), (Xa, .inl (g.2.1.1, 400, .inl (zf tb)))] _ := hP
          have hD : va_D A [(X, .inr (3, [.ref Xa, .int (nI tx), .int (nI ct), .int (nI tn), .int (nI nu), .int (nI (zTokS tb tx be)), .int (nI ((zTokS tb tx be) + 1))])), (Xa, .inl (g.2.1.1, 400, .inl (zf tb)))] := hD
          refine lv_aload_n hx hb dX3_nextToken_280 rfl (lv_at hl 1 rfl) ?_
          refine lv_iload_n hx hb dX3_nextToken_281 rfl (lv_at hl 0 rfl) ?_
          refine lv_bipush (v := 59) hx hb dX3_nextToken_282 (by decide) ?_
          refine zz_icmp_ne (tgt := 291) hx hb dX3_nextToken_284 (by decide) rfl (zi_c 59 rfl) (by omega) (by omega) (fun c_50 => ?_) (fun c_50 => ?_)
          · refine lv_iconst (v := 4) hx hb dX3_nextToken_291 (by decide) ?_
            have hTk : (zTokK tb tx be) = 4 := by rw [zTokK, if_pos (by omega), if_neg (show ¬ zLetter (tb (zTokS tb tx be)) = true from fun q => by have q1 : 97 ≤ tb (zTokS tb tx be) ∧ tb (zTokS tb tx be) ≤ 122 := of_decide_eq_true q; omega), if_neg (show ¬ zDigit (tb (zTokS tb tx be)) = true from fun q => by have q1 : 48 ≤ tb (zTokS tb tx be) ∧ tb (zTokS tb tx be) ≤ 57 := of_decide_eq_true q; omega), if_neg (by omega)]
            refine va_put (D := g.1) (ci := 3) (v := .int 4) (ty := .int) (C := RX3) (T := TX3) (N := 7) hx hb hts hiX3 tyX3 tyX3_ok nmX3 hown hK.1 hP hD hS 0 rfl rfl 3 (by decide) hf2 (fun _ h9 => h9) rfl (by decide +kernel) rfl rfl (Nat.le_of_ble_eq_true rfl) dX3_nextToken_292 (fun H locs hP hD hS => ?_)
            have hP : va_P g.1 vwCl [(X, .inr (3, [.ref Xa, .int (nI tx), .int (nI ct), .int 4, .int (nI nu), .int (nI (zTokS tb tx be)), .int (nI ((zTokS tb tx be) + 1))])), (Xa, .inl (g.2.1.1, 400, .inl (zf tb)))] _ := hP
            have hD : va_D A [(X, .inr (3, [.ref Xa, .int (nI tx), .int (nI ct), .int 4, .int (nI nu), .int (nI (zTokS tb tx be)), .int (nI ((zTokS tb tx be) + 1))])), (Xa, .inl (g.2.1.1, 400, .inl (zf tb)))] := hD
            have eq_51 : (4 : Int32) = nI (zTokK tb tx be) := by (rw [hTk]; rfl)
            have hP : va_P g.1 vwCl [(X, .inr (3, [.ref Xa, .int (nI tx), .int (nI ct), .int ((nI (zTokK tb tx be))), .int (nI nu), .int (nI (zTokS tb tx be)), .int (nI ((zTokS tb tx be) + 1))])), (Xa, .inl (g.2.1.1, 400, .inl (zf tb)))] _ := Eq.mp (congrArg (fun z => va_P g.1 vwCl [(X, .inr (3, [.ref Xa, .int (nI tx), .int (nI ct), .int (z), .int (nI nu), .int (nI (zTokS tb tx be)), .int (nI ((zTokS tb tx be) + 1))])), (Xa, .inl (g.2.1.1, 400, .inl (zf tb)))] _) eq_51) hP
            have hD : va_D A [(X, .inr (3, [.ref Xa, .int (nI tx), .int (nI ct), .int ((nI (zTokK tb tx be))), .int (nI nu), .int (nI (zTokS tb tx be)), .int (nI ((zTokS tb tx be) + 1))])), (Xa, .inl (g.2.1.1, 400, .inl (zf tb)))] := Eq.mp (congrArg (fun z => va_D A [(X, .inr (3, [.ref Xa, .int (nI tx), .int (nI ct), .int (z), .int (nI nu), .int (nI (zTokS tb tx be)), .int (nI ((zTokS tb tx be) + 1))])), (Xa, .inl (g.2.1.1, 400, .inl (zf tb)))]) eq_51) hD
            have eq_52 : nI ((zTokS tb tx be) + 1) = nI (zTokE tb tx be) := by (rw [hE9]; done)
            have hP : va_P g.1 vwCl [(X, .inr (3, [.ref Xa, .int (nI tx), .int (nI ct), .int (nI (zTokK tb tx be)), .int (nI nu), .int (nI (zTokS tb tx be)), .int ((nI (zTokE tb tx be)))])), (Xa, .inl (g.2.1.1, 400, .inl (zf tb)))] _ := Eq.mp (congrArg (fun z => va_P g.1 vwCl [(X, .inr (3, [.ref Xa, .int (nI tx), .int (nI ct), .int (nI (zTokK tb tx be)), .int (nI nu), .int (nI (zTokS tb tx be)), .int (z)])), (Xa, .inl (g.2.1.1, 400, .inl (zf tb)))] _) eq_52) hP
            have hD : va_D A [(X, .inr (3, [.ref Xa, .int (nI tx), .int (nI ct), .int (nI (zTokK tb tx be)), .int (nI nu), .int (nI (zTokS tb tx be)), .int ((nI (zTokE tb tx be)))])), (Xa, .inl (g.2.1.1, 400, .inl (zf tb)))] := Eq.mp (congrArg (fun z => va_D A [(X, .inr (3, [.ref Xa, .int (nI tx), .int (nI ct), .int (nI (zTokK tb tx be)), .int (nI nu), .int (nI (zTokS tb tx be)), .int (z)])), (Xa, .inl (g.2.1.1, 400, .inl (zf tb)))]) eq_52) hD
            exact hret 295 _ _ _ nu dX3_nextToken_295 hP hD hS (show (zTokK tb tx be) = 2 → nu = (zTokN tb tx be) from by first | (exact fun q => absurd (hTk.symm.trans q) (by decide)) | (exact fun _ => hN9.symm))
          · refine lv_iconst (v := 1) hx hb dX3_nextToken_287 (by decide) ?_
            refine lv_goto (tgt := 292) hx hb dX3_nextToken_288 (by decide) ?_
            have hTk : (zTokK tb tx be) = 1 := by rw [zTokK, if_pos (by omega), if_neg (show ¬ zLetter (tb (zTokS tb tx be)) = true from fun q => by have q1 : 97 ≤ tb (zTokS tb tx be) ∧ tb (zTokS tb tx be) ≤ 122 := of_decide_eq_true q; omega), if_neg (show ¬ zDigit (tb (zTokS tb tx be)) = true from fun q => by have q1 : 48 ≤ tb (zTokS tb tx be) ∧ tb (zTokS tb tx be) ≤ 57 := of_decide_eq_true q; omega), if_pos (by omega)]
            refine va_put (D := g.1) (ci := 3) (v := .int 1) (ty := .int) (C := RX3) (T := TX3) (N := 7) hx hb hts hiX3 tyX3 tyX3_ok nmX3 hown hK.1 hP hD hS 0 rfl rfl 3 (by decide) hf2 (fun _ h9 => h9) rfl (by decide +kernel) rfl rfl (Nat.le_of_ble_eq_true rfl) dX3_nextToken_292 (fun H locs hP hD hS => ?_)
            have hP : va_P g.1 vwCl [(X, .inr (3, [.ref Xa, .int (nI tx), .int (nI ct), .int 1, .int (nI nu), .int (nI (zTokS tb tx be)), .int (nI ((zTokS tb tx be) + 1))])), (Xa, .inl (g.2.1.1, 400, .inl (zf tb)))] _ := hP
            have hD : va_D A [(X, .inr (3, [.ref Xa, .int (nI tx), .int (nI ct), .int 1, .int (nI nu), .int (nI (zTokS tb tx be)), .int (nI ((zTokS tb tx be) + 1))])), (Xa, .inl (g.2.1.1, 400, .inl (zf tb)))] := hD
            have eq_53 : (1 : Int32) = nI (zTokK tb tx be) := by (rw [hTk]; rfl)
            have hP : va_P g.1 vwCl [(X, .inr (3, [.ref Xa, .int (nI tx), .int (nI ct), .int ((nI (zTokK tb tx be))), .int (nI nu), .int (nI (zTokS tb tx be)), .int (nI ((zTokS tb tx be) + 1))])), (Xa, .inl (g.2.1.1, 400, .inl (zf tb)))] _ := Eq.mp (congrArg (fun z => va_P g.1 vwCl [(X, .inr (3, [.ref Xa, .int (nI tx), .int (nI ct), .int (z), .int (nI nu), .int (nI (zTokS tb tx be)), .int (nI ((zTokS tb tx be) + 1))])), (Xa, .inl (g.2.1.1, 400, .inl (zf tb)))] _) eq_53) hP
            have hD : va_D A [(X, .inr (3, [.ref Xa, .int (nI tx), .int (nI ct), .int ((nI (zTokK tb tx be))), .int (nI nu), .int (nI (zTokS tb tx be)), .int (nI ((zTokS tb tx be) + 1))])), (Xa, .inl (g.2.1.1, 400, .inl (zf tb)))] := Eq.mp (congrArg (fun z => va_D A [(X, .inr (3, [.ref Xa, .int (nI tx), .int (nI ct), .int (z), .int (nI nu), .int (nI (zTokS tb tx be)), .int (nI ((zTokS tb tx be) + 1))])), (Xa, .inl (g.2.1.1, 400, .inl (zf tb)))]) eq_53) hD
            have eq_54 : nI ((zTokS tb tx be) + 1) = nI (zTokE tb tx be) := by (rw [hE9]; done)
            have hP : va_P g.1 vwCl [(X, .inr (3, [.ref Xa, .int (nI tx), .int (nI ct), .int (nI (zTokK tb tx be)), .int (nI nu), .int (nI (zTokS tb tx be)), .int ((nI (zTokE tb tx be)))])), (Xa, .inl (g.2.1.1, 400, .inl (zf tb)))] _ := Eq.mp (congrArg (fun z => va_P g.1 vwCl [(X, .inr (3, [.ref Xa, .int (nI tx), .int (nI ct), .int (nI (zTokK tb tx be)), .int (nI nu), .int (nI (zTokS tb tx be)), .int (z)])), (Xa, .inl (g.2.1.1, 400, .inl (zf tb)))] _) eq_54) hP
            have hD : va_D A [(X, .inr (3, [.ref Xa, .int (nI tx), .int (nI ct), .int (nI (zTokK tb tx be)), .int (nI nu), .int (nI (zTokS tb tx be)), .int ((nI (zTokE tb tx be)))])), (Xa, .inl (g.2.1.1, 400, .inl (zf tb)))] := Eq.mp (congrArg (fun z => va_D A [(X, .inr (3, [.ref Xa, .int (nI tx), .int (nI ct), .int (nI (zTokK tb tx be)), .int (nI nu), .int (nI (zTokS tb tx be)), .int (z)])), (Xa, .inl (g.2.1.1, 400, .inl (zf tb)))]) eq_54) hD
            exact hret 295 _ _ _ nu dX3_nextToken_295 hP hD hS (show (zTokK tb tx be) = 2 → nu = (zTokN tb tx be) from by first | (exact fun q => absurd (hTk.symm.trans q) (by decide)) | (exact fun _ => hN9.symm))
    · have hTk : (zTokK tb tx be) = 0 := by rw [zTokK, if_neg (by omega)]
      have hE9 : (zTokE tb tx be) = (zTokS tb tx be) := by rw [zTokE, if_neg (by omega)]
      refine lv_aload_n hx hb dX3_nextToken_68 rfl (lv_at hl 1 rfl) ?_
      refine lv_iconst (v := 0) hx hb dX3_nextToken_69 (by decide) ?_
      refine va_put (D := g.1) (ci := 3) (v := .int 0) (ty := .int) (C := RX3) (T := TX3) (N := 7) hx hb hts hiX3 tyX3 tyX3_ok nmX3 hown hK.1 hP hD hS 0 rfl rfl 3 (by decide) hf2 (fun _ h9 => h9) rfl (by decide +kernel) rfl rfl (Nat.le_of_ble_eq_true rfl) dX3_nextToken_70 (fun H locs hP hD hS => ?_)
      have hP : va_P g.1 vwCl [(X, .inr (3, [.ref Xa, .int (nI tx), .int (nI ct), .int 0, .int (nI nu), .int (nI (zTokS tb tx be)), .int (nI (zTokS tb tx be))])), (Xa, .inl (g.2.1.1, 400, .inl (zf tb)))] _ := hP
      have hD : va_D A [(X, .inr (3, [.ref Xa, .int (nI tx), .int (nI ct), .int 0, .int (nI nu), .int (nI (zTokS tb tx be)), .int (nI (zTokS tb tx be))])), (Xa, .inl (g.2.1.1, 400, .inl (zf tb)))] := hD
      refine lv_goto (tgt := 295) hx hb dX3_nextToken_73 (by decide) ?_
      have eq_55 : (0 : Int32) = nI (zTokK tb tx be) := by (rw [hTk]; rfl)
      have hP : va_P g.1 vwCl [(X, .inr (3, [.ref Xa, .int (nI tx), .int (nI ct), .int ((nI (zTokK tb tx be))), .int (nI nu), .int (nI (zTokS tb tx be)), .int (nI (zTokS tb tx be))])), (Xa, .inl (g.2.1.1, 400, .inl (zf tb)))] _ := Eq.mp (congrArg (fun z => va_P g.1 vwCl [(X, .inr (3, [.ref Xa, .int (nI tx), .int (nI ct), .int (z), .int (nI nu), .int (nI (zTokS tb tx be)), .int (nI (zTokS tb tx be))])), (Xa, .inl (g.2.1.1, 400, .inl (zf tb)))] _) eq_55) hP
      have hD : va_D A [(X, .inr (3, [.ref Xa, .int (nI tx), .int (nI ct), .int ((nI (zTokK tb tx be))), .int (nI nu), .int (nI (zTokS tb tx be)), .int (nI (zTokS tb tx be))])), (Xa, .inl (g.2.1.1, 400, .inl (zf tb)))] := Eq.mp (congrArg (fun z => va_D A [(X, .inr (3, [.ref Xa, .int (nI tx), .int (nI ct), .int (z), .int (nI nu), .int (nI (zTokS tb tx be)), .int (nI (zTokS tb tx be))])), (Xa, .inl (g.2.1.1, 400, .inl (zf tb)))]) eq_55) hD
      have eq_56 : nI (zTokS tb tx be) = nI (zTokE tb tx be) := by (rw [hE9]; done)
      have hP : va_P g.1 vwCl [(X, .inr (3, [.ref Xa, .int (nI tx), .int (nI ct), .int (nI (zTokK tb tx be)), .int (nI nu), .int (nI (zTokS tb tx be)), .int ((nI (zTokE tb tx be)))])), (Xa, .inl (g.2.1.1, 400, .inl (zf tb)))] _ := Eq.mp (congrArg (fun z => va_P g.1 vwCl [(X, .inr (3, [.ref Xa, .int (nI tx), .int (nI ct), .int (nI (zTokK tb tx be)), .int (nI nu), .int (nI (zTokS tb tx be)), .int (z)])), (Xa, .inl (g.2.1.1, 400, .inl (zf tb)))] _) eq_56) hP
      have hD : va_D A [(X, .inr (3, [.ref Xa, .int (nI tx), .int (nI ct), .int (nI (zTokK tb tx be)), .int (nI nu), .int (nI (zTokS tb tx be)), .int ((nI (zTokE tb tx be)))])), (Xa, .inl (g.2.1.1, 400, .inl (zf tb)))] := Eq.mp (congrArg (fun z => va_D A [(X, .inr (3, [.ref Xa, .int (nI tx), .int (nI ct), .int (nI (zTokK tb tx be)), .int (nI nu), .int (nI (zTokS tb tx be)), .int (z)])), (Xa, .inl (g.2.1.1, 400, .inl (zf tb)))]) eq_56) hD
      exact hret 295 _ _ _ nu dX3_nextToken_295 hP hD hS (show (zTokK tb tx be) = 2 → nu = (zTokN tb tx be) from by first | (exact fun q => absurd (hTk.symm.trans q) (by decide)) | (exact fun _ => hN9.symm))
  have hcut8 : ∀ (fu : Nat) (i : Nat) (H : Heap) (locs : List Loc) (ls : Array Slot), (be ≤ i ∧ i ≤ tx) → (zSkip zBlank tb tx be = zSkip zBlank tb tx i) → (tx - i) < fu → va_P g.1 vwCl [(X, .inr (3, [.ref Xa, .int (nI tx), .int (nI ct), .int (nI tn), .int (nI nu), .int (nI i), .int (nI be)])), (Xa, .inl (g.2.1.1, 400, .inl (zf tb)))] H → va_D A [(X, .inr (3, [.ref Xa, .int (nI tx), .int (nI ct), .int (nI tn), .int (nI nu), .int (nI i), .int (nI be)])), (Xa, .inl (g.2.1.1, 400, .inl (zf tb)))] → va_S A s.heap H locs → lv_has ls 3 [(0, .ref X)] → W pP l eE { frames := 1, cells := 0, slots := 0, locals := 21 } s mM ([.ref X] : List Value).toArray below meth cC H locs 0 0 Q (F0 mM 8 ls []) := by
    intro fu
    induction fu with
    | zero =>
      intro i H locs ls hi hR hm
      exact absurd hm (Nat.not_lt_zero _)
    | succ fu ih8 =>
      intro i H locs ls hi hR hm hP hD hS hl
      refine lv_aload_n hx hb dX3_nextToken_8 rfl (lv_at hl 0 rfl) ?_
      refine va_get (D := g.1) (ci := 3) (v := .int (nI i)) (C := RX3) (T := TX3) (N := 7) hx hb hts hiX3 hown hK.1 hP 0 rfl rfl 5 (by decide) hf1 (fun _ h9 => h9) rfl dX3_nextToken_9 ?_
      refine lv_aload_n hx hb dX3_nextToken_12 rfl (lv_at hl 0 rfl) ?_
      refine va_get (D := g.1) (ci := 3) (v := .int (nI tx)) (C := RX3) (T := TX3) (N := 7) hx hb hts hiX3 hown hK.1 hP 0 rfl rfl 1 (by decide) hf3 (fun _ h9 => h9) rfl dX3_nextToken_13 ?_
      refine zz_icmp_ge (tgt := 45) hx hb dX3_nextToken_16 (by decide) (zi_n i) (zi_n tx) (by omega) (by omega) (fun c_57 => ?_) (fun c_57 => ?_)
      · have eq_58 : nI i = nI (zTokS tb tx be) := by exact congrArg nI (hs3.trans (hR.trans (zSkip_n (fun q => by have q1 := q.1; have q2 : tb i = 32 := of_decide_eq_true q.2; omega)))).symm
        have hP : va_P g.1 vwCl [(X, .inr (3, [.ref Xa, .int (nI tx), .int (nI ct), .int (nI tn), .int (nI nu), .int ((nI (zTokS tb tx be))), .int (nI be)])), (Xa, .inl (g.2.1.1, 400, .inl (zf tb)))] _ := Eq.mp (congrArg (fun z => va_P g.1 vwCl [(X, .inr (3, [.ref Xa, .int (nI tx), .int (nI ct), .int (nI tn), .int (nI nu), .int (z), .int (nI be)])), (Xa, .inl (g.2.1.1, 400, .inl (zf tb)))] _) eq_58) hP
        have hD : va_D A [(X, .inr (3, [.ref Xa, .int (nI tx), .int (nI ct), .int (nI tn), .int (nI nu), .int ((nI (zTokS tb tx be))), .int (nI be)])), (Xa, .inl (g.2.1.1, 400, .inl (zf tb)))] := Eq.mp (congrArg (fun z => va_D A [(X, .inr (3, [.ref Xa, .int (nI tx), .int (nI ct), .int (nI tn), .int (nI nu), .int (z), .int (nI be)])), (Xa, .inl (g.2.1.1, 400, .inl (zf tb)))]) eq_58) hD
        exact hcut45  _ _ _  hP hD hS (lv_sub hl [0] rfl)
      · refine lv_aload_n hx hb dX3_nextToken_19 rfl (lv_at hl 0 rfl) ?_
        refine lv_aload_n hx hb dX3_nextToken_20 rfl (lv_at hl 0 rfl) ?_
        refine va_get (D := g.1) (ci := 3) (v := .int (nI i)) (C := RX3) (T := TX3) (N := 7) hx hb hts hiX3 hown hK.1 hP 0 rfl rfl 5 (by decide) hf1 (fun _ h9 => h9) rfl dX3_nextToken_21 ?_
        refine zz_callI (wr := []) (wc := [(X, .inr (3, [.ref Xa, .int (nI tx), .int (nI ct), .int (nI tn), .int (nI nu), .int (nI i), .int (nI be)])), (Xa, .inl (g.2.1.1, 400, .inl (zf tb)))]) (As := [.int (nI i)]) (rest := []) F hK hE hA hP hD hS (c_X3_byteAt l g (X := X) (Xa := Xa) (tx := tx) (ct := ct) (tn := tn) (nu := nu) (sa := i) (be := be) (tb := tb) (i := i) (htx := by first | assumption | omega) (htb := by first | assumption | omega) (hi := by first | assumption | omega)) (cwV 1 hts gX3_nextToken_X3_byteAt rfl rfl rfl (by decide +kernel) ⟨Nat.le_of_ble_eq_true rfl, Nat.le_of_ble_eq_true rfl⟩) [0, 1] [] rfl rfl (by decide) (by decide) (by decide) 3 0 rfl rfl rfl rfl rfl hl.1 (Nat.le_of_ble_eq_true rfl) dX3_nextToken_24 ⟨Nat.le_of_ble_eq_true rfl, Nat.le_of_ble_eq_true rfl⟩ (fun r_59 u_59 H locs hw hP hD hS => ?_)
        have hP : va_P g.1 vwCl [(X, .inr (3, [.ref Xa, .int (nI tx), .int (nI ct), .int (nI tn), .int (nI nu), .int (nI i), .int (nI be)])), (Xa, .inl (g.2.1.1, 400, .inl (zf tb)))] _ := hP
        have hD : va_D A [(X, .inr (3, [.ref Xa, .int (nI tx), .int (nI ct), .int (nI tn), .int (nI nu), .int (nI i), .int (nI be)])), (Xa, .inl (g.2.1.1, 400, .inl (zf tb)))] := hD
        have hr_59 := hw
        have hr_59 : r_59 = zi (zAt tb tx i) := hr_59
        subst hr_59
        have hza_60 := zAt_s htb tx (i)
        have hzt_61 := zi_t (a := zAt tb tx (i)) (by omega) (by omega)
        refine lv_bipush (v := 32) hx hb dX3_nextToken_27 (by decide) ?_
        refine zz_icmp_ne (tgt := 45) hx hb dX3_nextToken_29 (by decide) rfl (zi_c 32 rfl) (by omega) (by omega) (fun c_62 => ?_) (fun c_62 => ?_)
        · have eq_63 : nI i = nI (zTokS tb tx be) := by exact congrArg nI (hs3.trans (hR.trans (zSkip_n (fun q => by have q1 := q.1; have q2 : tb i = 32 := of_decide_eq_true q.2; omega)))).symm
          have hP : va_P g.1 vwCl [(X, .inr (3, [.ref Xa, .int (nI tx), .int (nI ct), .int (nI tn), .int (nI nu), .int ((nI (zTokS tb tx be))), .int (nI be)])), (Xa, .inl (g.2.1.1, 400, .inl (zf tb)))] _ := Eq.mp (congrArg (fun z => va_P g.1 vwCl [(X, .inr (3, [.ref Xa, .int (nI tx), .int (nI ct), .int (nI tn), .int (nI nu), .int (z), .int (nI be)])), (Xa, .inl (g.2.1.1, 400, .inl (zf tb)))] _) eq_63) hP
          have hD : va_D A [(X, .inr (3, [.ref Xa, .int (nI tx), .int (nI ct), .int (nI tn), .int (nI nu), .int ((nI (zTokS tb tx be))), .int (nI be)])), (Xa, .inl (g.2.1.1, 400, .inl (zf tb)))] := Eq.mp (congrArg (fun z => va_D A [(X, .inr (3, [.ref Xa, .int (nI tx), .int (nI ct), .int (nI tn), .int (nI nu), .int (z), .int (nI be)])), (Xa, .inl (g.2.1.1, 400, .inl (zf tb)))]) eq_63) hD
          exact hcut45  _ _ _  hP hD hS (lv_sub hl [0] rfl)
        · refine lv_aload_n hx hb dX3_nextToken_32 rfl (lv_at hl 0 rfl) ?_
          refine lv_dup hx hb dX3_nextToken_33 rfl ?_
          refine va_get (D := g.1) (ci := 3) (v := .int (nI i)) (C := RX3) (T := TX3) (N := 7) hx hb hts hiX3 hown hK.1 hP 0 rfl rfl 5 (by decide) hf1 (fun _ h9 => h9) rfl dX3_nextToken_34 ?_
          refine lv_iconst (v := 1) hx hb dX3_nextToken_37 (by decide) ?_
          refine lv_iadd hx hb dX3_nextToken_38 ?_
          refine zz_topi (y := nI (i + 1)) (zi_eq (zi_add (zi_n i) (zi_c 1 rfl)) (zi_n (i + 1)) (by omega)) ?_
          refine va_put (D := g.1) (ci := 3) (v := .int (nI (i + 1))) (ty := .int) (C := RX3) (T := TX3) (N := 7) hx hb hts hiX3 tyX3 tyX3_ok nmX3 hown hK.1 hP hD hS 0 rfl rfl 5 (by decide) hf1 (fun _ h9 => h9) rfl (by decide +kernel) rfl rfl (Nat.le_of_ble_eq_true rfl) dX3_nextToken_39 (fun H locs hP hD hS => ?_)
          have hP : va_P g.1 vwCl [(X, .inr (3, [.ref Xa, .int (nI tx), .int (nI ct), .int (nI tn), .int (nI nu), .int (nI (i + 1)), .int (nI be)])), (Xa, .inl (g.2.1.1, 400, .inl (zf tb)))] _ := hP
          have hD : va_D A [(X, .inr (3, [.ref Xa, .int (nI tx), .int (nI ct), .int (nI tn), .int (nI nu), .int (nI (i + 1)), .int (nI be)])), (Xa, .inl (g.2.1.1, 400, .inl (zf tb)))] := hD
          refine lv_goto (tgt := 8) hx hb dX3_nextToken_42 (by decide) ?_
          exact ih8 (i + 1) _ _ _ (show be ≤ (i + 1) ∧ (i + 1) ≤ tx from by omega) (show zSkip zBlank tb tx be = zSkip zBlank tb tx (i + 1) from by (rw [hR]; exact zSkip_y (by omega) (decide_eq_true (by omega)))) (by omega) hP hD hS (lv_sub hl [0] rfl)
  exact hcut8 ((tx - be) + 1) be _ _ _ (show be ≤ be ∧ be ≤ tx from by omega) (show zSkip zBlank tb tx be = zSkip zBlank tb tx be from by rfl) (by omega) hP hD hS (lv_sub hl [0] rfl)
