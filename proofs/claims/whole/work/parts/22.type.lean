set_option maxHeartbeats 4000000 in
set_option maxRecDepth 100000 in
theorem c_X4_type_b (l : Launch) (g : zG) (C X P O T U V Y S D E : Nat) (hg : Int32) (k0 k1 : Nat) (tr : Int64) (Xa tx ct tn nu sa be : Nat) (v : Int64) (x : Int32) (hx9 : ¬ (1 ≤ x.toInt ∧ x.toInt ≤ 8)) : zI l yX4_type wsX4_type 1 22 g [.ref C, .long v, .int x] [(C, .inr (4, [.ref X, .ref P, .ref O, .ref T, .ref U, .ref V, .ref Y, .ref S, .ref D, .ref E, .int hg, .int (nI k0), .int (nI k1), .long tr])), (X, .inr (3, [.ref Xa, .int (nI tx), .int (nI ct), .int (nI tn), .int (nI nu), .int (nI sa), .int (nI be)]))] (fun (r : Int32) (u : Unit) => r = -1) (fun (u : Unit) => [(C, .inr (4, [.ref X, .ref P, .ref O, .ref T, .ref U, .ref V, .ref Y, .ref S, .ref D, .ref E, .int hg, .int (nI k0), .int (nI k1), .long tr])), (X, .inr (3, [.ref Xa, .int (nI tx), .int (nI ct), .int (nI tn), .int (nI nu), .int (nI sa), .int (nI be)]))]) := by
  refine zz_bodyI (cc := cX4_type) (nL := 5) (own := RX4) (ty := .int) (by decide) rfl rfl (Nat.le_of_ble_eq_true rfl) ?_
  intro pP eE s mM below meth cC A Q ls F hA hK hE hP hD hl hret
  have hS : va_S A s.heap s.heap [] := va_S.rf
  obtain ⟨hx, hb, hml, hown, hts⟩ := id F
  have hl : lv_has ls 5 [(0, .ref C), (1, .long v), (3, .int x)] := hl
  have hlox := zi_lo x
  have hhix := zi_hi x
  refine lv_iload_n hx hb dX4_type_0 rfl (lv_at hl 2 rfl) ?_
  refine lv_iconst (v := 1) hx hb dX4_type_1 (by decide) ?_
  refine lv_bipush (v := 8) hx hb dX4_type_2 (by decide) ?_
  refine zz_callSI (wr := [(C, .inr (4, [.ref X, .ref P, .ref O, .ref T, .ref U, .ref V, .ref Y, .ref S, .ref D, .ref E, .int hg, .int (nI k0), .int (nI k1), .long tr])), (X, .inr (3, [.ref Xa, .int (nI tx), .int (nI ct), .int (nI tn), .int (nI nu), .int (nI sa), .int (nI be)]))]) (wc := []) (As := [.int x, .int (nI 1), .int (nI 8)]) (rest := []) F hK hE hA hP hD hS (c_X4_within l g (x := x) (a := 1) (b := 8) (hab := by first | assumption | omega)) (va_cwS 3 hts gX4_type_X4_within rfl rfl rfl (by decide +kernel) ⟨Nat.le_of_ble_eq_true rfl, Nat.le_of_ble_eq_true rfl⟩) [] [0, 1] rfl rfl (by decide) (by decide) (by decide) rfl rfl hl.1 (Nat.le_of_ble_eq_true rfl) dX4_type_4 ⟨Nat.le_of_ble_eq_true rfl, Nat.le_of_ble_eq_true rfl⟩ (fun r_1 u_1 H locs hw hP hD hS => ?_)
  have hP : va_P g.1 vwCl [(C, .inr (4, [.ref X, .ref P, .ref O, .ref T, .ref U, .ref V, .ref Y, .ref S, .ref D, .ref E, .int hg, .int (nI k0), .int (nI k1), .long tr])), (X, .inr (3, [.ref Xa, .int (nI tx), .int (nI ct), .int (nI tn), .int (nI nu), .int (nI sa), .int (nI be)]))] _ := hP
  have hD : va_D A [(C, .inr (4, [.ref X, .ref P, .ref O, .ref T, .ref U, .ref V, .ref Y, .ref S, .ref D, .ref E, .int hg, .int (nI k0), .int (nI k1), .long tr])), (X, .inr (3, [.ref Xa, .int (nI tx), .int (nI ct), .int (nI tn), .int (nI nu), .int (nI sa), .int (nI be)]))] := hD
  have hr_1 := hw
  have hr_1 : r_1 = if (1 : Int) ≤ x.toInt ∧ x.toInt ≤ (8 : Int) then 1 else 0 := hr_1
  rw [if_neg (show ¬ ((1 : Int) ≤ x.toInt ∧ x.toInt ≤ (8 : Int)) from by omega)] at hr_1
  subst hr_1
  refine zz_if_ne (tgt := 12) hx hb dX4_type_7 (by decide) (zi_c 0 rfl) (by omega) (fun c_3 => (by exfalso; omega)) (fun c_3 => ?_)
  refine lv_iconst (v := (-1)) hx hb dX4_type_10 (by decide) ?_
  exact hret 11 _ _ _ (-1) () dX4_type_11 rfl hP hD hS (show (-1) = -1 from by rfl)

set_option maxHeartbeats 4000000 in
set_option maxRecDepth 100000 in
theorem c_X4_type_f (l : Launch) (g : zG) (C X P O T U V Y S D E : Nat) (hg : Int32) (k0 k1 : Nat) (tr : Int64) (Xa tx ct tn nu sa be : Nat) (v : Int64) (n : Nat) (hn9 : 1 ≤ n ∧ n ≤ 8) (htx : tx ≤ 400) (hf9 : 400 < tx + n) : zI l yX4_type wsX4_type 1 22 g [.ref C, .long v, .int (nI n)] [(C, .inr (4, [.ref X, .ref P, .ref O, .ref T, .ref U, .ref V, .ref Y, .ref S, .ref D, .ref E, .int hg, .int (nI k0), .int (nI k1), .long tr])), (X, .inr (3, [.ref Xa, .int (nI tx), .int (nI ct), .int (nI tn), .int (nI nu), .int (nI sa), .int (nI be)]))] (fun (r : Int32) (u : Unit) => r = -3) (fun (u : Unit) => [(C, .inr (4, [.ref X, .ref P, .ref O, .ref T, .ref U, .ref V, .ref Y, .ref S, .ref D, .ref E, .int hg, .int (nI k0), .int (nI k1), .long tr])), (X, .inr (3, [.ref Xa, .int (nI tx), .int (nI ct), .int (nI tn), .int (nI nu), .int (nI sa), .int (nI be)]))]) := by
  refine zz_bodyI (cc := cX4_type) (nL := 5) (own := RX4) (ty := .int) (by decide) rfl rfl (Nat.le_of_ble_eq_true rfl) ?_
  intro pP eE s mM below meth cC A Q ls F hA hK hE hP hD hl hret
  have hS : va_S A s.heap s.heap [] := va_S.rf
  obtain ⟨hx, hb, hml, hown, hts⟩ := id F
  have hiX3 : ∀ w ∈ u_ws RX3 TX3 7, w ∈ wsX4_type := by decide +kernel
  have hiX4 : ∀ w ∈ u_ws RX4 TX4 14, w ∈ wsX4_type := by decide +kernel
  have hf0 := hts (.fieldLink RX4 12 "StepClock" "text" "LStepClock$Text;") (by decide +kernel)
  have hl : lv_has ls 5 [(0, .ref C), (1, .long v), (3, .int (nI n))] := hl
  have hqt : (nI n).toInt = (n : Int) := by rw [zi_n n, zi_t (by omega) (by omega)]
  refine lv_iload_n hx hb dX4_type_0 rfl (lv_at hl 2 rfl) ?_
  refine lv_iconst (v := 1) hx hb dX4_type_1 (by decide) ?_
  refine lv_bipush (v := 8) hx hb dX4_type_2 (by decide) ?_
  refine zz_callSI (wr := [(C, .inr (4, [.ref X, .ref P, .ref O, .ref T, .ref U, .ref V, .ref Y, .ref S, .ref D, .ref E, .int hg, .int (nI k0), .int (nI k1), .long tr])), (X, .inr (3, [.ref Xa, .int (nI tx), .int (nI ct), .int (nI tn), .int (nI nu), .int (nI sa), .int (nI be)]))]) (wc := []) (As := [.int (nI n), .int (nI 1), .int (nI 8)]) (rest := []) F hK hE hA hP hD hS (c_X4_within l g (x := nI n) (a := 1) (b := 8) (hab := by first | assumption | omega)) (va_cwS 3 hts gX4_type_X4_within rfl rfl rfl (by decide +kernel) ⟨Nat.le_of_ble_eq_true rfl, Nat.le_of_ble_eq_true rfl⟩) [] [0, 1] rfl rfl (by decide) (by decide) (by decide) rfl rfl hl.1 (Nat.le_of_ble_eq_true rfl) dX4_type_4 ⟨Nat.le_of_ble_eq_true rfl, Nat.le_of_ble_eq_true rfl⟩ (fun r_1 u_1 H locs hw hP hD hS => ?_)
  have hP : va_P g.1 vwCl [(C, .inr (4, [.ref X, .ref P, .ref O, .ref T, .ref U, .ref V, .ref Y, .ref S, .ref D, .ref E, .int hg, .int (nI k0), .int (nI k1), .long tr])), (X, .inr (3, [.ref Xa, .int (nI tx), .int (nI ct), .int (nI tn), .int (nI nu), .int (nI sa), .int (nI be)]))] _ := hP
  have hD : va_D A [(C, .inr (4, [.ref X, .ref P, .ref O, .ref T, .ref U, .ref V, .ref Y, .ref S, .ref D, .ref E, .int hg, .int (nI k0), .int (nI k1), .long tr])), (X, .inr (3, [.ref Xa, .int (nI tx), .int (nI ct), .int (nI tn), .int (nI nu), .int (nI sa), .int (nI be)]))] := hD
  have hr_1 := hw
  have hr_1 : r_1 = if (1 : Int) ≤ (nI n).toInt ∧ (nI n).toInt ≤ (8 : Int) then 1 else 0 := hr_1
  rw [if_pos (show (1 : Int) ≤ (nI n).toInt ∧ (nI n).toInt ≤ (8 : Int) from by omega)] at hr_1
  subst hr_1
  refine zz_if_ne (tgt := 12) hx hb dX4_type_7 (by decide) (zi_c 1 rfl) (by omega) (fun c_3 => ?_) (fun c_3 => (by exfalso; omega))
  refine lv_aload_n hx hb dX4_type_12 rfl (lv_at hl 0 rfl) ?_
  refine va_get (D := g.1) (ci := 4) (v := .ref X) (C := RX4) (T := TX4) (N := 14) hx hb hts hiX4 hown hK.1 hP 0 rfl rfl 0 (by decide) hf0 (fun _ h9 => h9) rfl dX4_type_13 ?_
  refine va_getN (D := g.1) (ci := 3) (v := .int (nI tx)) (C := RX3) (T := TX3) (N := 7) (host := RX4) (ref := RX3) hx hb hts hiX3 hown hK.1 hP 1 rfl rfl 1 (by decide) (va_Nw.use rfl (hK.2.1 (.fieldLinkNest RX4 60 RX3 "length" "I" RX4) (by decide +kernel))) (fun _ h9 => h9) rfl dX4_type_16 ?_
  refine lv_iload_n hx hb dX4_type_19 rfl (lv_at hl 2 rfl) ?_
  refine lv_iadd hx hb dX4_type_20 ?_
  refine lv_sipush (v := 400) hx hb dX4_type_21 (by decide) ?_
  refine zz_icmp_le (tgt := 30) hx hb dX4_type_24 (by decide) (zi_add (zi_n tx) (zi_n n)) (zi_c 400 rfl) (by omega) (by omega) (fun c_4 => (by exfalso; omega)) (fun c_4 => ?_)
  refine lv_bipush (v := (-3)) hx hb dX4_type_27 (by decide) ?_
  exact hret 29 _ _ _ (-3) () dX4_type_29 rfl hP hD hS (show (-3) = -3 from by rfl)

set_option maxHeartbeats 4000000 in
set_option maxRecDepth 100000 in
theorem c_X4_type (l : Launch) (g : zG) (C X P O T U V Y S D E : Nat) (hg : Int32) (k0 k1 : Nat) (tr : Int64) (Xa tx ct tn nu sa be : Nat) (v : Int64) (tb : Nat → Nat) (n : Nat) (hn9 : 1 ≤ n ∧ n ≤ 8) (htx : tx + n ≤ 400) : zI l yX4_type wsX4_type 1 22 g [.ref C, .long v, .int (nI n)] [(C, .inr (4, [.ref X, .ref P, .ref O, .ref T, .ref U, .ref V, .ref Y, .ref S, .ref D, .ref E, .int hg, .int (nI k0), .int (nI k1), .long tr])), (X, .inr (3, [.ref Xa, .int (nI tx), .int (nI ct), .int (nI tn), .int (nI nu), .int (nI sa), .int (nI be)])), (Xa, .inl (g.2.1.1, 400, .inl (zf tb)))] (fun (r : Int32) (u : Unit) => r = nI (tx + n)) (fun (u : Unit) => [(C, .inr (4, [.ref X, .ref P, .ref O, .ref T, .ref U, .ref V, .ref Y, .ref S, .ref D, .ref E, .int hg, .int (nI k0), .int (nI k1), .long tr])), (X, .inr (3, [.ref Xa, .int (nI (tx + n)), .int (nI ct), .int (nI tn), .int (nI nu), .int (nI sa), .int (nI be)])), (Xa, .inl (g.2.1.1, 400, .inl (zf (zTyp tb tx n v 0))))]) := by
  refine zz_bodyI (cc := cX4_type) (nL := 5) (own := RX4) (ty := .int) (by decide) rfl rfl (Nat.le_of_ble_eq_true rfl) ?_
  intro pP eE s mM below meth cC A Q ls F hA hK hE hP hD hl hret
  have hS : va_S A s.heap s.heap [] := va_S.rf
  obtain ⟨hx, hb, hml, hown, hts⟩ := id F
  have hiX3 : ∀ w ∈ u_ws RX3 TX3 7, w ∈ wsX4_type := by decide +kernel
  have hiX4 : ∀ w ∈ u_ws RX4 TX4 14, w ∈ wsX4_type := by decide +kernel
  have hf0 := hts (.fieldLink RX4 12 "StepClock" "text" "LStepClock$Text;") (by decide +kernel)
  have hl : lv_has ls 5 [(0, .ref C), (1, .long v), (3, .int (nI n))] := hl
  have hqt : (nI n).toInt = (n : Int) := by rw [zi_n n, zi_t (by omega) (by omega)]
  refine lv_iload_n hx hb dX4_type_0 rfl (lv_at hl 2 rfl) ?_
  refine lv_iconst (v := 1) hx hb dX4_type_1 (by decide) ?_
  refine lv_bipush (v := 8) hx hb dX4_type_2 (by decide) ?_
  refine zz_callSI (wr := [(C, .inr (4, [.ref X, .ref P, .ref O, .ref T, .ref U, .ref V, .ref Y, .ref S, .ref D, .ref E, .int hg, .int (nI k0), .int (nI k1), .long tr])), (X, .inr (3, [.ref Xa, .int (nI tx), .int (nI ct), .int (nI tn), .int (nI nu), .int (nI sa), .int (nI be)])), (Xa, .inl (g.2.1.1, 400, .inl (zf tb)))]) (wc := []) (As := [.int (nI n), .int (nI 1), .int (nI 8)]) (rest := []) F hK hE hA hP hD hS (c_X4_within l g (x := nI n) (a := 1) (b := 8) (hab := by first | assumption | omega)) (va_cwS 3 hts gX4_type_X4_within rfl rfl rfl (by decide +kernel) ⟨Nat.le_of_ble_eq_true rfl, Nat.le_of_ble_eq_true rfl⟩) [] [0, 1, 2] rfl rfl (by decide) (by decide) (by decide) rfl rfl hl.1 (Nat.le_of_ble_eq_true rfl) dX4_type_4 ⟨Nat.le_of_ble_eq_true rfl, Nat.le_of_ble_eq_true rfl⟩ (fun r_1 u_1 H locs hw hP hD hS => ?_)
  have hP : va_P g.1 vwCl [(C, .inr (4, [.ref X, .ref P, .ref O, .ref T, .ref U, .ref V, .ref Y, .ref S, .ref D, .ref E, .int hg, .int (nI k0), .int (nI k1), .long tr])), (X, .inr (3, [.ref Xa, .int (nI tx), .int (nI ct), .int (nI tn), .int (nI nu), .int (nI sa), .int (nI be)])), (Xa, .inl (g.2.1.1, 400, .inl (zf tb)))] _ := hP
  have hD : va_D A [(C, .inr (4, [.ref X, .ref P, .ref O, .ref T, .ref U, .ref V, .ref Y, .ref S, .ref D, .ref E, .int hg, .int (nI k0), .int (nI k1), .long tr])), (X, .inr (3, [.ref Xa, .int (nI tx), .int (nI ct), .int (nI tn), .int (nI nu), .int (nI sa), .int (nI be)])), (Xa, .inl (g.2.1.1, 400, .inl (zf tb)))] := hD
  have hr_1 := hw
  have hr_1 : r_1 = if (1 : Int) ≤ (nI n).toInt ∧ (nI n).toInt ≤ (8 : Int) then 1 else 0 := hr_1
  rw [if_pos (show (1 : Int) ≤ (nI n).toInt ∧ (nI n).toInt ≤ (8 : Int) from by omega)] at hr_1
  subst hr_1
  refine zz_if_ne (tgt := 12) hx hb dX4_type_7 (by decide) (zi_c 1 rfl) (by omega) (fun c_3 => ?_) (fun c_3 => (by exfalso; omega))
  refine lv_aload_n hx hb dX4_type_12 rfl (lv_at hl 0 rfl) ?_
  refine va_get (D := g.1) (ci := 4) (v := .ref X) (C := RX4) (T := TX4) (N := 14) hx hb hts hiX4 hown hK.1 hP 0 rfl rfl 0 (by decide) hf0 (fun _ h9 => h9) rfl dX4_type_13 ?_
  refine va_getN (D := g.1) (ci := 3) (v := .int (nI tx)) (C := RX3) (T := TX3) (N := 7) (host := RX4) (ref := RX3) hx hb hts hiX3 hown hK.1 hP 1 rfl rfl 1 (by decide) (va_Nw.use rfl (hK.2.1 (.fieldLinkNest RX4 60 RX3 "length" "I" RX4) (by decide +kernel))) (fun _ h9 => h9) rfl dX4_type_16 ?_
  refine lv_iload_n hx hb dX4_type_19 rfl (lv_at hl 2 rfl) ?_
  refine lv_iadd hx hb dX4_type_20 ?_
  refine lv_sipush (v := 400) hx hb dX4_type_21 (by decide) ?_
  refine zz_icmp_le (tgt := 30) hx hb dX4_type_24 (by decide) (zi_add (zi_n tx) (zi_n n)) (zi_c 400 rfl) (by omega) (by omega) (fun c_4 => ?_) (fun c_4 => (by exfalso; omega))
  refine lv_iload_n hx hb dX4_type_30 rfl (lv_at hl 2 rfl) ?_
  refine lv_iconst (v := 1) hx hb dX4_type_31 (by decide) ?_
  refine lv_isub hx hb dX4_type_32 ?_
  refine zz_topi (y := nI (n - 1)) (zi_eq (zi_sub (zi_n n) (zi_c 1 rfl)) (zi_n (n - 1)) (by omega)) ?_
  refine lv_istore (lv' := [(4, .int (nI (n - 1))), (0, .ref C), (1, .long v), (3, .int (nI n))]) hx hb dX4_type_33 hl (by decide) rfl (fun ls hl => ?_)
  have hcut35 : ∀ (fu : Nat) (k : Nat) (H : Heap) (locs : List Loc) (ls : Array Slot), (k ≤ n) → k < fu → va_P g.1 vwCl [(C, .inr (4, [.ref X, .ref P, .ref O, .ref T, .ref U, .ref V, .ref Y, .ref S, .ref D, .ref E, .int hg, .int (nI k0), .int (nI k1), .long tr])), (X, .inr (3, [.ref Xa, .int (nI (tx + (n - k))), .int (nI ct), .int (nI tn), .int (nI nu), .int (nI sa), .int (nI be)])), (Xa, .inl (g.2.1.1, 400, .inl (zf (zTyp tb tx n v k))))] H → va_D A [(C, .inr (4, [.ref X, .ref P, .ref O, .ref T, .ref U, .ref V, .ref Y, .ref S, .ref D, .ref E, .int hg, .int (nI k0), .int (nI k1), .long tr])), (X, .inr (3, [.ref Xa, .int (nI (tx + (n - k))), .int (nI ct), .int (nI tn), .int (nI nu), .int (nI sa), .int (nI be)])), (Xa, .inl (g.2.1.1, 400, .inl (zf (zTyp tb tx n v k))))] → va_S A s.heap H locs → lv_has ls 5 [(0, .ref C), (1, .long v), (3, .int (nI n)), (4, .int (nI k - 1))] → W pP l eE { frames := 1, cells := 0, slots := 0, locals := 22 } s mM ([.ref C, .long v, .int (nI n)] : List Value).toArray below meth cC H locs 0 0 Q (F0 mM 35 ls []) := by
    intro fu
    induction fu with
    | zero =>
      intro k H locs ls hk hm
      exact absurd hm (Nat.not_lt_zero _)
    | succ fu ih35 =>
      intro k H locs ls hk hm hP hD hS hl
      refine lv_iload hx hb dX4_type_35 (lv_at hl 3 rfl) ?_
      refine zz_if_lt (tgt := 65) hx hb dX4_type_37 (by decide) (zi_sub (zi_n k) (zi_c 1 rfl)) (by omega) (fun c_5 => ?_) (fun c_5 => ?_)
      · refine lv_aload_n hx hb dX4_type_65 rfl (lv_at hl 0 rfl) ?_
        refine va_get (D := g.1) (ci := 4) (v := .ref X) (C := RX4) (T := TX4) (N := 14) hx hb hts hiX4 hown hK.1 hP 0 rfl rfl 0 (by decide) hf0 (fun _ h9 => h9) rfl dX4_type_66 ?_
        refine va_getN (D := g.1) (ci := 3) (v := .int (nI (tx + (n - k)))) (C := RX3) (T := TX3) (N := 7) (host := RX4) (ref := RX3) hx hb hts hiX3 hown hK.1 hP 1 rfl rfl 1 (by decide) (va_Nw.use rfl (hK.2.1 (.fieldLinkNest RX4 60 RX3 "length" "I" RX4) (by decide +kernel))) (fun _ h9 => h9) rfl dX4_type_69 ?_
        have eq_6 : nI (tx + (n - k)) = nI (tx + n) := by (congr 1; omega)
        have hP : va_P g.1 vwCl [(C, .inr (4, [.ref X, .ref P, .ref O, .ref T, .ref U, .ref V, .ref Y, .ref S, .ref D, .ref E, .int hg, .int (nI k0), .int (nI k1), .long tr])), (X, .inr (3, [.ref Xa, .int ((nI (tx + n))), .int (nI ct), .int (nI tn), .int (nI nu), .int (nI sa), .int (nI be)])), (Xa, .inl (g.2.1.1, 400, .inl (zf (zTyp tb tx n v k))))] _ := Eq.mp (congrArg (fun z => va_P g.1 vwCl [(C, .inr (4, [.ref X, .ref P, .ref O, .ref T, .ref U, .ref V, .ref Y, .ref S, .ref D, .ref E, .int hg, .int (nI k0), .int (nI k1), .long tr])), (X, .inr (3, [.ref Xa, .int (z), .int (nI ct), .int (nI tn), .int (nI nu), .int (nI sa), .int (nI be)])), (Xa, .inl (g.2.1.1, 400, .inl (zf (zTyp tb tx n v k))))] _) eq_6) hP
        have hD : va_D A [(C, .inr (4, [.ref X, .ref P, .ref O, .ref T, .ref U, .ref V, .ref Y, .ref S, .ref D, .ref E, .int hg, .int (nI k0), .int (nI k1), .long tr])), (X, .inr (3, [.ref Xa, .int ((nI (tx + n))), .int (nI ct), .int (nI tn), .int (nI nu), .int (nI sa), .int (nI be)])), (Xa, .inl (g.2.1.1, 400, .inl (zf (zTyp tb tx n v k))))] := Eq.mp (congrArg (fun z => va_D A [(C, .inr (4, [.ref X, .ref P, .ref O, .ref T, .ref U, .ref V, .ref Y, .ref S, .ref D, .ref E, .int hg, .int (nI k0), .int (nI k1), .long tr])), (X, .inr (3, [.ref Xa, .int (z), .int (nI ct), .int (nI tn), .int (nI nu), .int (nI sa), .int (nI be)])), (Xa, .inl (g.2.1.1, 400, .inl (zf (zTyp tb tx n v k))))]) eq_6) hD
        have eq_7 : (zTyp tb tx n v k) = (zTyp tb tx n v 0) := by (rw [show k = 0 by omega])
        have hP : va_P g.1 vwCl [(C, .inr (4, [.ref X, .ref P, .ref O, .ref T, .ref U, .ref V, .ref Y, .ref S, .ref D, .ref E, .int hg, .int (nI k0), .int (nI k1), .long tr])), (X, .inr (3, [.ref Xa, .int (nI (tx + n)), .int (nI ct), .int (nI tn), .int (nI nu), .int (nI sa), .int (nI be)])), (Xa, .inl (g.2.1.1, 400, .inl (zf (zTyp tb tx n v 0))))] _ := Eq.mp (congrArg (fun z => va_P g.1 vwCl [(C, .inr (4, [.ref X, .ref P, .ref O, .ref T, .ref U, .ref V, .ref Y, .ref S, .ref D, .ref E, .int hg, .int (nI k0), .int (nI k1), .long tr])), (X, .inr (3, [.ref Xa, .int (nI (tx + n)), .int (nI ct), .int (nI tn), .int (nI nu), .int (nI sa), .int (nI be)])), (Xa, .inl (g.2.1.1, 400, .inl (zf z)))] _) eq_7) hP
        have hD : va_D A [(C, .inr (4, [.ref X, .ref P, .ref O, .ref T, .ref U, .ref V, .ref Y, .ref S, .ref D, .ref E, .int hg, .int (nI k0), .int (nI k1), .long tr])), (X, .inr (3, [.ref Xa, .int (nI (tx + n)), .int (nI ct), .int (nI tn), .int (nI nu), .int (nI sa), .int (nI be)])), (Xa, .inl (g.2.1.1, 400, .inl (zf (zTyp tb tx n v 0))))] := Eq.mp (congrArg (fun z => va_D A [(C, .inr (4, [.ref X, .ref P, .ref O, .ref T, .ref U, .ref V, .ref Y, .ref S, .ref D, .ref E, .int hg, .int (nI k0), .int (nI k1), .long tr])), (X, .inr (3, [.ref Xa, .int (nI (tx + n)), .int (nI ct), .int (nI tn), .int (nI nu), .int (nI sa), .int (nI be)])), (Xa, .inl (g.2.1.1, 400, .inl (zf z)))]) eq_7) hD
        exact hret 72 _ _ _ (nI (tx + (n - k))) () dX4_type_72 rfl hP hD hS (show (nI (tx + (n - k))) = nI (tx + n) from by (rw [show k = 0 by omega, Nat.sub_zero]; done))
      · refine lv_aload_n hx hb dX4_type_40 rfl (lv_at hl 0 rfl) ?_
        refine va_get (D := g.1) (ci := 4) (v := .ref X) (C := RX4) (T := TX4) (N := 14) hx hb hts hiX4 hown hK.1 hP 0 rfl rfl 0 (by decide) hf0 (fun _ h9 => h9) rfl dX4_type_41 ?_
        refine lv_lload_n hx hb dX4_type_44 rfl (lv_at hl 1 rfl) ?_
        refine lv_bipush (v := 8) hx hb dX4_type_45 (by decide) ?_
        refine lv_iload hx hb dX4_type_47 (lv_at hl 3 rfl) ?_
        refine lv_imul hx hb dX4_type_49 ?_
        refine lv_lushr (v := (v.toUInt64 >>> ((8 * (nI k - 1)).toInt64.toUInt64 &&& Int64.toUInt64 63)).toInt64) hx hb dX4_type_50 rfl ?_
        refine lv_l2i (v := ((v.toUInt64 >>> ((8 * (nI k - 1)).toInt64.toUInt64 &&& Int64.toUInt64 63)).toInt64).toInt32) hx hb dX4_type_51 rfl ?_
        refine lv_sipush (v := 255) hx hb dX4_type_52 (by decide) ?_
        refine lv_iand hx hb dX4_type_55 ?_
        refine zz_topi (y := nI (zByte v (k - 1))) (zByte_e (by omega)) ?_
        have hzb := zByte_lt v (k - 1)
        refine zz_callV (wr := [(C, .inr (4, [.ref X, .ref P, .ref O, .ref T, .ref U, .ref V, .ref Y, .ref S, .ref D, .ref E, .int hg, .int (nI k0), .int (nI k1), .long tr]))]) (wc := [(X, .inr (3, [.ref Xa, .int (nI (tx + (n - k))), .int (nI ct), .int (nI tn), .int (nI nu), .int (nI sa), .int (nI be)])), (Xa, .inl (g.2.1.1, 400, .inl (zf (zTyp tb tx n v k))))]) (As := [.int (nI (zByte v (k - 1)))]) (rest := []) F hK hE hA hP hD hS (c_X3_append l g (X := X) (Xa := Xa) (tx := (tx + (n - k))) (ct := ct) (tn := tn) (nu := nu) (sa := sa) (be := be) (tb := (zTyp tb tx n v k)) (v := (zByte v (k - 1))) (htx := by first | assumption | omega)) (cwV 1 hts gX4_type_X3_append rfl rfl rfl (by decide +kernel) ⟨Nat.le_of_ble_eq_true rfl, Nat.le_of_ble_eq_true rfl⟩) [1, 2] [0] rfl rfl (by decide) (by decide) (by decide) 3 0 rfl rfl rfl rfl rfl hl.1 (Nat.le_of_ble_eq_true rfl) dX4_type_56 ⟨Nat.le_of_ble_eq_true rfl, Nat.le_of_ble_eq_true rfl⟩ (fun u_8 H locs hw hP hD hS => ?_)
        have hP : va_P g.1 vwCl [(C, .inr (4, [.ref X, .ref P, .ref O, .ref T, .ref U, .ref V, .ref Y, .ref S, .ref D, .ref E, .int hg, .int (nI k0), .int (nI k1), .long tr])), (X, .inr (3, [.ref Xa, .int (nI ((tx + (n - k)) + 1)), .int (nI ct), .int (nI tn), .int (nI nu), .int (nI sa), .int (nI be)])), (Xa, .inl (g.2.1.1, 400, .inl (zf (zu (zTyp tb tx n v k) (tx + (n - k)) (zByte v (k - 1))))))] _ := hP
        have hD : va_D A [(C, .inr (4, [.ref X, .ref P, .ref O, .ref T, .ref U, .ref V, .ref Y, .ref S, .ref D, .ref E, .int hg, .int (nI k0), .int (nI k1), .long tr])), (X, .inr (3, [.ref Xa, .int (nI ((tx + (n - k)) + 1)), .int (nI ct), .int (nI tn), .int (nI nu), .int (nI sa), .int (nI be)])), (Xa, .inl (g.2.1.1, 400, .inl (zf (zu (zTyp tb tx n v k) (tx + (n - k)) (zByte v (k - 1))))))] := hD
        refine lv_iinc (v := (nI k - 1) + (-1)) (lv' := [(4, .int ((nI k - 1) + (-1))), (0, .ref C), (1, .long v), (3, .int (nI n))]) hx hb dX4_type_59 hl (k := 3) rfl rfl (by decide) rfl (fun ls hl => ?_)
        refine lv_goto (tgt := 35) hx hb dX4_type_62 (by decide) ?_
        have eq_9 : nI ((tx + (n - k)) + 1) = nI (tx + (n - (k - 1))) := by (congr 1; omega)
        have hP : va_P g.1 vwCl [(C, .inr (4, [.ref X, .ref P, .ref O, .ref T, .ref U, .ref V, .ref Y, .ref S, .ref D, .ref E, .int hg, .int (nI k0), .int (nI k1), .long tr])), (X, .inr (3, [.ref Xa, .int ((nI (tx + (n - (k - 1))))), .int (nI ct), .int (nI tn), .int (nI nu), .int (nI sa), .int (nI be)])), (Xa, .inl (g.2.1.1, 400, .inl (zf (zu (zTyp tb tx n v k) (tx + (n - k)) (zByte v (k - 1))))))] _ := Eq.mp (congrArg (fun z => va_P g.1 vwCl [(C, .inr (4, [.ref X, .ref P, .ref O, .ref T, .ref U, .ref V, .ref Y, .ref S, .ref D, .ref E, .int hg, .int (nI k0), .int (nI k1), .long tr])), (X, .inr (3, [.ref Xa, .int (z), .int (nI ct), .int (nI tn), .int (nI nu), .int (nI sa), .int (nI be)])), (Xa, .inl (g.2.1.1, 400, .inl (zf (zu (zTyp tb tx n v k) (tx + (n - k)) (zByte v (k - 1))))))] _) eq_9) hP
        have hD : va_D A [(C, .inr (4, [.ref X, .ref P, .ref O, .ref T, .ref U, .ref V, .ref Y, .ref S, .ref D, .ref E, .int hg, .int (nI k0), .int (nI k1), .long tr])), (X, .inr (3, [.ref Xa, .int ((nI (tx + (n - (k - 1))))), .int (nI ct), .int (nI tn), .int (nI nu), .int (nI sa), .int (nI be)])), (Xa, .inl (g.2.1.1, 400, .inl (zf (zu (zTyp tb tx n v k) (tx + (n - k)) (zByte v (k - 1))))))] := Eq.mp (congrArg (fun z => va_D A [(C, .inr (4, [.ref X, .ref P, .ref O, .ref T, .ref U, .ref V, .ref Y, .ref S, .ref D, .ref E, .int hg, .int (nI k0), .int (nI k1), .long tr])), (X, .inr (3, [.ref Xa, .int (z), .int (nI ct), .int (nI tn), .int (nI nu), .int (nI sa), .int (nI be)])), (Xa, .inl (g.2.1.1, 400, .inl (zf (zu (zTyp tb tx n v k) (tx + (n - k)) (zByte v (k - 1))))))]) eq_9) hD
        have eq_10 : (zu (zTyp tb tx n v k) (tx + (n - k)) (zByte v (k - 1))) = (zTyp tb tx n v (k - 1)) := by exact zTyp_s tb tx n v (by omega) (by omega)
        have hP : va_P g.1 vwCl [(C, .inr (4, [.ref X, .ref P, .ref O, .ref T, .ref U, .ref V, .ref Y, .ref S, .ref D, .ref E, .int hg, .int (nI k0), .int (nI k1), .long tr])), (X, .inr (3, [.ref Xa, .int (nI (tx + (n - (k - 1)))), .int (nI ct), .int (nI tn), .int (nI nu), .int (nI sa), .int (nI be)])), (Xa, .inl (g.2.1.1, 400, .inl (zf (zTyp tb tx n v (k - 1)))))] _ := Eq.mp (congrArg (fun z => va_P g.1 vwCl [(C, .inr (4, [.ref X, .ref P, .ref O, .ref T, .ref U, .ref V, .ref Y, .ref S, .ref D, .ref E, .int hg, .int (nI k0), .int (nI k1), .long tr])), (X, .inr (3, [.ref Xa, .int (nI (tx + (n - (k - 1)))), .int (nI ct), .int (nI tn), .int (nI nu), .int (nI sa), .int (nI be)])), (Xa, .inl (g.2.1.1, 400, .inl (zf z)))] _) eq_10) hP
        have hD : va_D A [(C, .inr (4, [.ref X, .ref P, .ref O, .ref T, .ref U, .ref V, .ref Y, .ref S, .ref D, .ref E, .int hg, .int (nI k0), .int (nI k1), .long tr])), (X, .inr (3, [.ref Xa, .int (nI (tx + (n - (k - 1)))), .int (nI ct), .int (nI tn), .int (nI nu), .int (nI sa), .int (nI be)])), (Xa, .inl (g.2.1.1, 400, .inl (zf (zTyp tb tx n v (k - 1)))))] := Eq.mp (congrArg (fun z => va_D A [(C, .inr (4, [.ref X, .ref P, .ref O, .ref T, .ref U, .ref V, .ref Y, .ref S, .ref D, .ref E, .int hg, .int (nI k0), .int (nI k1), .long tr])), (X, .inr (3, [.ref Xa, .int (nI (tx + (n - (k - 1)))), .int (nI ct), .int (nI tn), .int (nI nu), .int (nI sa), .int (nI be)])), (Xa, .inl (g.2.1.1, 400, .inl (zf z)))]) eq_10) hD
        have eq_11 : (nI k - 1) + (-1) = nI (k - 1) - 1 := by exact zi_eq (zi_add (zi_sub (zi_n k) (zi_c 1 rfl)) (zi_c (-1) rfl)) (zi_sub (zi_n (k - 1)) (zi_c 1 rfl)) (by omega)
        have hl : lv_has ls 5 [(4, .int (nI (k - 1) - 1)), (0, .ref C), (1, .long v), (3, .int (nI n))] := Eq.mp (congrArg (fun z => lv_has ls 5 [(4, .int (z)), (0, .ref C), (1, .long v), (3, .int (nI n))]) eq_11) hl
        exact ih35 (k - 1) _ _ _ (show (k - 1) ≤ n from by omega) (by omega) hP hD hS (lv_sub hl [1, 2, 3, 0] rfl)
  have eq_12 : nI tx = nI (tx + (n - n)) := by (rw [Nat.sub_self, Nat.add_zero]; done)
  have hP : va_P g.1 vwCl [(C, .inr (4, [.ref X, .ref P, .ref O, .ref T, .ref U, .ref V, .ref Y, .ref S, .ref D, .ref E, .int hg, .int (nI k0), .int (nI k1), .long tr])), (X, .inr (3, [.ref Xa, .int ((nI (tx + (n - n)))), .int (nI ct), .int (nI tn), .int (nI nu), .int (nI sa), .int (nI be)])), (Xa, .inl (g.2.1.1, 400, .inl (zf tb)))] _ := Eq.mp (congrArg (fun z => va_P g.1 vwCl [(C, .inr (4, [.ref X, .ref P, .ref O, .ref T, .ref U, .ref V, .ref Y, .ref S, .ref D, .ref E, .int hg, .int (nI k0), .int (nI k1), .long tr])), (X, .inr (3, [.ref Xa, .int (z), .int (nI ct), .int (nI tn), .int (nI nu), .int (nI sa), .int (nI be)])), (Xa, .inl (g.2.1.1, 400, .inl (zf tb)))] _) eq_12) hP
  have hD : va_D A [(C, .inr (4, [.ref X, .ref P, .ref O, .ref T, .ref U, .ref V, .ref Y, .ref S, .ref D, .ref E, .int hg, .int (nI k0), .int (nI k1), .long tr])), (X, .inr (3, [.ref Xa, .int ((nI (tx + (n - n)))), .int (nI ct), .int (nI tn), .int (nI nu), .int (nI sa), .int (nI be)])), (Xa, .inl (g.2.1.1, 400, .inl (zf tb)))] := Eq.mp (congrArg (fun z => va_D A [(C, .inr (4, [.ref X, .ref P, .ref O, .ref T, .ref U, .ref V, .ref Y, .ref S, .ref D, .ref E, .int hg, .int (nI k0), .int (nI k1), .long tr])), (X, .inr (3, [.ref Xa, .int (z), .int (nI ct), .int (nI tn), .int (nI nu), .int (nI sa), .int (nI be)])), (Xa, .inl (g.2.1.1, 400, .inl (zf tb)))]) eq_12) hD
  have eq_13 : tb = (zTyp tb tx n v n) := by exact (zTyp_0 tb tx n v).symm
  have hP : va_P g.1 vwCl [(C, .inr (4, [.ref X, .ref P, .ref O, .ref T, .ref U, .ref V, .ref Y, .ref S, .ref D, .ref E, .int hg, .int (nI k0), .int (nI k1), .long tr])), (X, .inr (3, [.ref Xa, .int (nI (tx + (n - n))), .int (nI ct), .int (nI tn), .int (nI nu), .int (nI sa), .int (nI be)])), (Xa, .inl (g.2.1.1, 400, .inl (zf (zTyp tb tx n v n))))] _ := Eq.mp (congrArg (fun z => va_P g.1 vwCl [(C, .inr (4, [.ref X, .ref P, .ref O, .ref T, .ref U, .ref V, .ref Y, .ref S, .ref D, .ref E, .int hg, .int (nI k0), .int (nI k1), .long tr])), (X, .inr (3, [.ref Xa, .int (nI (tx + (n - n))), .int (nI ct), .int (nI tn), .int (nI nu), .int (nI sa), .int (nI be)])), (Xa, .inl (g.2.1.1, 400, .inl (zf z)))] _) eq_13) hP
  have hD : va_D A [(C, .inr (4, [.ref X, .ref P, .ref O, .ref T, .ref U, .ref V, .ref Y, .ref S, .ref D, .ref E, .int hg, .int (nI k0), .int (nI k1), .long tr])), (X, .inr (3, [.ref Xa, .int (nI (tx + (n - n))), .int (nI ct), .int (nI tn), .int (nI nu), .int (nI sa), .int (nI be)])), (Xa, .inl (g.2.1.1, 400, .inl (zf (zTyp tb tx n v n))))] := Eq.mp (congrArg (fun z => va_D A [(C, .inr (4, [.ref X, .ref P, .ref O, .ref T, .ref U, .ref V, .ref Y, .ref S, .ref D, .ref E, .int hg, .int (nI k0), .int (nI k1), .long tr])), (X, .inr (3, [.ref Xa, .int (nI (tx + (n - n))), .int (nI ct), .int (nI tn), .int (nI nu), .int (nI sa), .int (nI be)])), (Xa, .inl (g.2.1.1, 400, .inl (zf z)))]) eq_13) hD
  have eq_14 : nI (n - 1) = nI n - 1 := by exact zi_eq (zi_n _) (zi_sub (zi_n n) (zi_c 1 rfl)) (by omega)
  have hl : lv_has ls 5 [(4, .int (nI n - 1)), (0, .ref C), (1, .long v), (3, .int (nI n))] := Eq.mp (congrArg (fun z => lv_has ls 5 [(4, .int (z)), (0, .ref C), (1, .long v), (3, .int (nI n))]) eq_14) hl
  exact hcut35 (n + 1) n _ _ _ (show n ≤ n from by omega) (by omega) hP hD hS (lv_sub hl [1, 2, 3, 0] rfl)
