set_option maxHeartbeats 4000000 in
set_option maxRecDepth 100000 in
theorem c_J0_coder_7d493 (l : Launch) (g : zG) (j : Nat) (hj : j < 8) : zI l yJ0_coder_7d493 wsJ0_coder_7d493 0 0 g [.ref (g.2.2.1 j)] [] (fun (r : Int32) (u : Unit) => r = 0) (fun (u : Unit) => []) := by
  refine zz_bodyI (cc := cJ0_coder_7d493) (nL := 1) (own := RJ0) (ty := .byte) (by decide) rfl rfl (Nat.le_of_ble_eq_true rfl) ?_
  intro pP eE s mM below meth cC A Q ls F hA hK hE hP hD hl hret
  have hS : va_S A s.heap s.heap [] := va_S.rf
  obtain ⟨hx, hb, hml, hown, hts⟩ := id F
  have hf0 := hts (.fieldLink RJ0 38 "java/lang/String" "COMPACT_STRINGS" "Z") (by decide +kernel)
  have hf1 := hts (.fieldLink RJ0 15 "java/lang/String" "coder" "B") (by decide +kernel)
  have hl : lv_has ls 1 [(0, .ref (g.2.2.1 j))] := hl
  refine va_gets hx hb hE.2.1 hS hown hf0 (fun _ h9 => h9) dJ0_coder_7d493_0 ?_
  refine zz_if_eq (tgt := 13) hx hb dJ0_coder_7d493_3 (by decide) (zi_c 1 rfl) (by omega) (fun c_1 => (by exfalso; omega)) (fun c_1 => ?_)
  refine lv_aload_n hx hb dJ0_coder_7d493_6 rfl (lv_at hl 0 rfl) ?_
  refine vk_getf hx hb (hE.1.1 j (by omega)).2.1 hS hown hf1 (fun _ h9 => h9) dJ0_coder_7d493_7 ?_
  refine lv_goto (tgt := 14) hx hb dJ0_coder_7d493_10 (by decide) ?_
  exact hret 14 _ _ _ 0 () dJ0_coder_7d493_14 rfl hP hD hS (show 0 = 0 from by rfl)

set_option maxHeartbeats 4000000 in
set_option maxRecDepth 100000 in
theorem c_J0_length_8abf5 (l : Launch) (g : zG) (j : Nat) (hj : j < 8) : zI l yJ0_length_8abf5 wsJ0_length_8abf5 1 20 g [.ref (g.2.2.1 j)] [] (fun (r : Int32) (u : Unit) => r = nI (zLen.getD j 0)) (fun (u : Unit) => []) := by
  refine zz_bodyI (cc := cJ0_length_8abf5) (nL := 1) (own := RJ0) (ty := .int) (by decide) rfl rfl (Nat.le_of_ble_eq_true rfl) ?_
  intro pP eE s mM below meth cC A Q ls F hA hK hE hP hD hl hret
  have hS : va_S A s.heap s.heap [] := va_S.rf
  obtain ⟨hx, hb, hml, hown, hts⟩ := id F
  have hf0 := hts (.fieldLink RJ0 9 "java/lang/String" "value" "[B") (by decide +kernel)
  have hl : lv_has ls 1 [(0, .ref (g.2.2.1 j))] := hl
  refine lv_aload_n hx hb dJ0_length_8abf5_0 rfl (lv_at hl 0 rfl) ?_
  refine vk_getf hx hb (hE.1.1 j (by omega)).2.2.1 hS hown hf0 (fun _ h9 => h9) dJ0_length_8abf5_1 ?_
  refine va_tlen hx hb (hE.1.1 j (by omega)).2.2.2 hS (v := nI (zLen.getD j 0)) rfl dJ0_length_8abf5_4 ?_
  refine lv_aload_n hx hb dJ0_length_8abf5_5 rfl (lv_at hl 0 rfl) ?_
  refine zz_callK (wr := []) (wc := []) (As := []) (rest := [.int (nI (zLen.getD j 0))]) F hK hE hA hP hD hS (show j < 8 from by omega) (c_J0_coder_7d493 l g (j := j) (hj := by first | assumption | omega)) (cwV 0 hts gJ0_length_8abf5_J0_coder_7d493 rfl rfl rfl (by decide +kernel) ⟨Nat.le_of_ble_eq_true rfl, Nat.le_of_ble_eq_true rfl⟩) [] [] rfl rfl (by decide) (by decide) (by decide) rfl rfl hl.1 (Nat.le_of_ble_eq_true rfl) dJ0_length_8abf5_6 ⟨Nat.le_of_ble_eq_true rfl, Nat.le_of_ble_eq_true rfl⟩ (fun r_1 u_1 H locs hw hP hD hS => ?_)
  have hP : va_P g.1 vwCl [] _ := hP
  have hD : va_D A [] := hD
  have hr_1 := hw
  have hr_1 : r_1 = 0 := hr_1
  subst hr_1
  refine lv_ishr hx hb dJ0_length_8abf5_9 ?_
  exact hret 10 _ _ _ ((nI (zLen.getD j 0)) >>> (0 &&& 31)) () dJ0_length_8abf5_10 rfl hP hD hS (show ((nI (zLen.getD j 0)) >>> (0 &&& 31)) = nI (zLen.getD j 0) from by exact zShr0 (zLen_lt j))

set_option maxHeartbeats 4000000 in
set_option maxRecDepth 100000 in
theorem c_J0_isLatin1_aae02 (l : Launch) (g : zG) (j : Nat) (hj : j < 8) : zI l yJ0_isLatin1_aae02 wsJ0_isLatin1_aae02 0 0 g [.ref (g.2.2.1 j)] [] (fun (r : Int32) (u : Unit) => r = 1) (fun (u : Unit) => []) := by
  refine zz_bodyI (cc := cJ0_isLatin1_aae02) (nL := 1) (own := RJ0) (ty := .boolean) (by decide) rfl rfl (Nat.le_of_ble_eq_true rfl) ?_
  intro pP eE s mM below meth cC A Q ls F hA hK hE hP hD hl hret
  have hS : va_S A s.heap s.heap [] := va_S.rf
  obtain ⟨hx, hb, hml, hown, hts⟩ := id F
  have hf0 := hts (.fieldLink RJ0 38 "java/lang/String" "COMPACT_STRINGS" "Z") (by decide +kernel)
  have hf1 := hts (.fieldLink RJ0 15 "java/lang/String" "coder" "B") (by decide +kernel)
  have hl : lv_has ls 1 [(0, .ref (g.2.2.1 j))] := hl
  refine va_gets hx hb hE.2.1 hS hown hf0 (fun _ h9 => h9) dJ0_isLatin1_aae02_0 ?_
  refine zz_if_eq (tgt := 17) hx hb dJ0_isLatin1_aae02_3 (by decide) (zi_c 1 rfl) (by omega) (fun c_1 => (by exfalso; omega)) (fun c_1 => ?_)
  refine lv_aload_n hx hb dJ0_isLatin1_aae02_6 rfl (lv_at hl 0 rfl) ?_
  refine vk_getf hx hb (hE.1.1 j (by omega)).2.1 hS hown hf1 (fun _ h9 => h9) dJ0_isLatin1_aae02_7 ?_
  refine zz_if_ne (tgt := 17) hx hb dJ0_isLatin1_aae02_10 (by decide) (zi_c 0 rfl) (by omega) (fun c_2 => (by exfalso; omega)) (fun c_2 => ?_)
  refine lv_iconst (v := 1) hx hb dJ0_isLatin1_aae02_13 (by decide) ?_
  refine lv_goto (tgt := 18) hx hb dJ0_isLatin1_aae02_14 (by decide) ?_
  exact hret 18 _ _ _ 1 () dJ0_isLatin1_aae02_18 rfl hP hD hS (show 1 = 1 from by rfl)

set_option maxHeartbeats 4000000 in
set_option maxRecDepth 100000 in
theorem c_J3_checkIndex_8e157 (l : Launch) (g : zG) (i : Nat) (n : Nat) (hi : i < n) (hn : n < 2147483648) : zI l yJ3_checkIndex_8e157 wsJ3_checkIndex_8e157 0 0 g [.int (nI i), .int (nI n), .null] [] (fun (r : Int32) (u : Unit) => r = nI i) (fun (u : Unit) => []) := by
  refine zz_bodyI (cc := cJ3_checkIndex_8e157) (nL := 3) (own := RJ3) (ty := .int) (by decide) rfl rfl (Nat.le_of_ble_eq_true rfl) ?_
  intro pP eE s mM below meth cC A Q ls F hA hK hE hP hD hl hret
  have hS : va_S A s.heap s.heap [] := va_S.rf
  obtain ⟨hx, hb, hml, hown, hts⟩ := id F
  have hl : lv_has ls 3 [(0, .int (nI i)), (1, .int (nI n)), (2, .null)] := hl
  refine lv_iload_n hx hb dJ3_checkIndex_8e157_0 rfl (lv_at hl 0 rfl) ?_
  refine zz_if_lt (tgt := 9) hx hb dJ3_checkIndex_8e157_1 (by decide) (zi_n i) (by omega) (fun c_1 => (by exfalso; omega)) (fun c_1 => ?_)
  refine lv_iload_n hx hb dJ3_checkIndex_8e157_4 rfl (lv_at hl 0 rfl) ?_
  refine lv_iload_n hx hb dJ3_checkIndex_8e157_5 rfl (lv_at hl 1 rfl) ?_
  refine zz_icmp_lt (tgt := 16) hx hb dJ3_checkIndex_8e157_6 (by decide) (zi_n i) (zi_n n) (by omega) (by omega) (fun c_2 => ?_) (fun c_2 => (by exfalso; omega))
  refine lv_iload_n hx hb dJ3_checkIndex_8e157_16 rfl (lv_at hl 0 rfl) ?_
  exact hret 17 _ _ _ (nI i) () dJ3_checkIndex_8e157_17 rfl hP hD hS (show (nI i) = nI i from by rfl)

set_option maxHeartbeats 4000000 in
set_option maxRecDepth 100000 in
theorem c_J3_checkIndex_r (l : Launch) (g : zG) (i : Nat) (n : Nat) (fm : Nat) (hi : i < n) (hn : n < 2147483648) : zI l yJ3_checkIndex_8e157 wsJ3_checkIndex_8e157 0 0 g [.int (nI i), .int (nI n), .ref fm] [] (fun (r : Int32) (u : Unit) => r = nI i) (fun (u : Unit) => []) := by
  refine zz_bodyI (cc := cJ3_checkIndex_8e157) (nL := 3) (own := RJ3) (ty := .int) (by decide) rfl rfl (Nat.le_of_ble_eq_true rfl) ?_
  intro pP eE s mM below meth cC A Q ls F hA hK hE hP hD hl hret
  have hS : va_S A s.heap s.heap [] := va_S.rf
  obtain ⟨hx, hb, hml, hown, hts⟩ := id F
  have hl : lv_has ls 3 [(0, .int (nI i)), (1, .int (nI n)), (2, .ref fm)] := hl
  refine lv_iload_n hx hb dJ3_checkIndex_8e157_0 rfl (lv_at hl 0 rfl) ?_
  refine zz_if_lt (tgt := 9) hx hb dJ3_checkIndex_8e157_1 (by decide) (zi_n i) (by omega) (fun c_1 => (by exfalso; omega)) (fun c_1 => ?_)
  refine lv_iload_n hx hb dJ3_checkIndex_8e157_4 rfl (lv_at hl 0 rfl) ?_
  refine lv_iload_n hx hb dJ3_checkIndex_8e157_5 rfl (lv_at hl 1 rfl) ?_
  refine zz_icmp_lt (tgt := 16) hx hb dJ3_checkIndex_8e157_6 (by decide) (zi_n i) (zi_n n) (by omega) (by omega) (fun c_2 => ?_) (fun c_2 => (by exfalso; omega))
  refine lv_iload_n hx hb dJ3_checkIndex_8e157_16 rfl (lv_at hl 0 rfl) ?_
  exact hret 17 _ _ _ (nI i) () dJ3_checkIndex_8e157_17 rfl hP hD hS (show (nI i) = nI i from by rfl)

set_option maxHeartbeats 4000000 in
set_option maxRecDepth 100000 in
theorem c_J0_checkIndex_df160 (l : Launch) (g : zG) (i : Nat) (n : Nat) (hi : i < n) (hn : n < 2147483648) : zV l yJ0_checkIndex_df160 wsJ0_checkIndex_df160 1 22 0 0 g [.int (nI i), .int (nI n)] [] (fun (u : Unit) => True) (fun (u : Unit) => []) := by
  refine zz_bodyV (cc := cJ0_checkIndex_df160) (nL := 2) (own := RJ0) (by decide) rfl rfl (Nat.le_of_ble_eq_true rfl) ?_
  intro pP eE s mM below meth cC A Q ls F hin hA hK hE hP hD hl hret
  have hS : va_S A s.heap s.heap [] := va_S.rf
  obtain ⟨hx, hb, hml, hown, hts⟩ := id F
  have hf0 := hts (.fieldLink RJ0 1053 "jdk/internal/util/Preconditions" "SIOOBE_FORMATTER" "Ljava/util/function/BiFunction;") (by decide +kernel)
  have hl : lv_has ls 2 [(0, .int (nI i)), (1, .int (nI n))] := hl
  refine lv_iload_n hx hb dJ0_checkIndex_df160_0 rfl (lv_at hl 0 rfl) ?_
  refine lv_iload_n hx hb dJ0_checkIndex_df160_1 rfl (lv_at hl 1 rfl) ?_
  rcases hE.2.2 with hZ | ⟨fm, hZ⟩
  · refine va_gets hx hb hZ hS hown hf0 (fun _ h9 => h9) dJ0_checkIndex_df160_2 ?_
    refine zz_callSI (wr := []) (wc := []) (As := [.int (nI i), .int (nI n), .null]) (rest := []) F hK hE hA hP hD hS (c_J3_checkIndex_8e157 l g (i := i) (n := n) (hi := by first | assumption | omega) (hn := by first | assumption | omega)) (va_cwS 3 hts gJ0_checkIndex_df160_J3_checkIndex_8e157 rfl rfl rfl (by decide +kernel) ⟨Nat.le_of_ble_eq_true rfl, Nat.le_of_ble_eq_true rfl⟩) [] [] rfl rfl (by decide) (by decide) (by decide) rfl rfl hl.1 (Nat.le_of_ble_eq_true rfl) dJ0_checkIndex_df160_5 ⟨Nat.le_of_ble_eq_true rfl, Nat.le_of_ble_eq_true rfl⟩ (fun r_1 u_1 H locs hw hP hD hS => ?_)
    have hP : va_P g.1 vwCl [] _ := hP
    have hD : va_D A [] := hD
    have hr_1 := hw
    have hr_1 : r_1 = nI i := hr_1
    subst hr_1
    refine lv_pop hx hb dJ0_checkIndex_df160_8 rfl ?_
    exact hret 9 _ _ _ () dJ0_checkIndex_df160_9 hP hD hS (show True from by trivial)
  · refine va_gets hx hb hZ hS hown hf0 (fun _ h9 => h9) dJ0_checkIndex_df160_2 ?_
    refine zz_callSI (wr := []) (wc := []) (As := [.int (nI i), .int (nI n), .ref fm]) (rest := []) F hK hE hA hP hD hS (c_J3_checkIndex_r l g (i := i) (n := n) (fm := fm) (hi := by first | assumption | omega) (hn := by first | assumption | omega)) (va_cwS 3 hts gJ0_checkIndex_df160_J3_checkIndex_8e157 rfl rfl rfl (by decide +kernel) ⟨Nat.le_of_ble_eq_true rfl, Nat.le_of_ble_eq_true rfl⟩) [] [] rfl rfl (by decide) (by decide) (by decide) rfl rfl hl.1 (Nat.le_of_ble_eq_true rfl) dJ0_checkIndex_df160_5 ⟨Nat.le_of_ble_eq_true rfl, Nat.le_of_ble_eq_true rfl⟩ (fun r_2 u_2 H locs hw hP hD hS => ?_)
    have hP : va_P g.1 vwCl [] _ := hP
    have hD : va_D A [] := hD
    have hr_2 := hw
    have hr_2 : r_2 = nI i := hr_2
    subst hr_2
    refine lv_pop hx hb dJ0_checkIndex_df160_8 rfl ?_
    exact hret 9 _ _ _ () dJ0_checkIndex_df160_9 hP hD hS (show True from by trivial)

set_option maxHeartbeats 4000000 in
set_option maxRecDepth 100000 in
theorem c_J1_charAt_3b067 (l : Launch) (g : zG) (j : Nat) (k : Nat) (hj : j < 8) (hk : k < zLen.getD j 0) : zI l yJ1_charAt_3b067 wsJ1_charAt_3b067 2 43 g [.ref (g.2.2.2 j), .int (nI k)] [] (fun (r : Int32) (u : Unit) => r = nI (zCh j k)) (fun (u : Unit) => []) := by
  refine zz_bodyI (cc := cJ1_charAt_3b067) (nL := 2) (own := RJ1) (ty := .char) (by decide) rfl rfl (Nat.le_of_ble_eq_true rfl) ?_
  intro pP eE s mM below meth cC A Q ls F hA hK hE hP hD hl hret
  have hS : va_S A s.heap s.heap [] := va_S.rf
  obtain ⟨hx, hb, hml, hown, hts⟩ := id F
  have hl : lv_has ls 2 [(0, .ref (g.2.2.2 j)), (1, .int (nI k))] := hl
  have hlj := zLen_le hj
  refine lv_iload_n hx hb dJ1_charAt_3b067_0 rfl (lv_at hl 1 rfl) ?_
  refine lv_aload_n hx hb dJ1_charAt_3b067_1 rfl (lv_at hl 0 rfl) ?_
  refine va_tlen hx hb (hE.1.1 j (by omega)).2.2.2 hS (v := nI (zLen.getD j 0)) rfl dJ1_charAt_3b067_2 ?_
  refine zz_callSV (wr := []) (wc := []) (As := [.int (nI k), .int (nI (zLen.getD j 0))]) (rest := []) F hK hE hA hP hD hS (c_J0_checkIndex_df160 l g (i := k) (n := (zLen.getD j 0)) (hi := by first | assumption | omega) (hn := by first | assumption | omega)) (va_cwS 2 hts gJ1_charAt_3b067_J0_checkIndex_df160 rfl rfl rfl (by decide +kernel) ⟨Nat.le_of_ble_eq_true rfl, Nat.le_of_ble_eq_true rfl⟩) [] [] rfl rfl (by decide) (by decide) (by decide) rfl rfl hl.1 (Nat.le_of_ble_eq_true rfl) dJ1_charAt_3b067_3 ⟨Nat.le_of_ble_eq_true rfl, Nat.le_of_ble_eq_true rfl⟩ (fun u_1 H locs hw hP hD hS => ?_)
  have hP : va_P g.1 vwCl [] _ := hP
  have hD : va_D A [] := hD
  refine lv_aload_n hx hb dJ1_charAt_3b067_6 rfl (lv_at hl 0 rfl) ?_
  refine lv_iload_n hx hb dJ1_charAt_3b067_7 rfl (lv_at hl 1 rfl) ?_
  refine va_tb (v := .int ((zByt.getD j []).getD k 0)) hx hb (hE.1.1 j (by omega)).2.2.2 hS (zi_in rfl (by omega) (zLen_lt j)) (by rw [zi_ix rfl (by omega) (zLen_lt j)]) dJ1_charAt_3b067_8 ?_
  refine lv_sipush (v := 255) hx hb dJ1_charAt_3b067_9 (by decide) ?_
  refine lv_iand hx hb dJ1_charAt_3b067_12 ?_
  refine lv_i2c hx hb dJ1_charAt_3b067_13 rfl ?_
  exact hret 14 _ _ _ (((((zByt.getD j []).getD k 0) &&& 255).toUInt32 % 65536).toInt32) () dJ1_charAt_3b067_14 (zCh_n2 hj hk) hP hD hS (show (((((zByt.getD j []).getD k 0) &&& 255).toUInt32 % 65536).toInt32) = nI (zCh j k) from by exact zCh_e hj hk)

set_option maxHeartbeats 4000000 in
set_option maxRecDepth 100000 in
theorem c_J0_charAt_5068e (l : Launch) (g : zG) (j : Nat) (k : Nat) (hj : j < 8) (hk : k < zLen.getD j 0) : zI l yJ0_charAt_5068e wsJ0_charAt_5068e 3 64 g [.ref (g.2.2.1 j), .int (nI k)] [] (fun (r : Int32) (u : Unit) => r = nI (zCh j k)) (fun (u : Unit) => []) := by
  refine zz_bodyI (cc := cJ0_charAt_5068e) (nL := 2) (own := RJ0) (ty := .char) (by decide) rfl rfl (Nat.le_of_ble_eq_true rfl) ?_
  intro pP eE s mM below meth cC A Q ls F hA hK hE hP hD hl hret
  have hS : va_S A s.heap s.heap [] := va_S.rf
  obtain ⟨hx, hb, hml, hown, hts⟩ := id F
  have hf0 := hts (.fieldLink RJ0 9 "java/lang/String" "value" "[B") (by decide +kernel)
  have hl : lv_has ls 2 [(0, .ref (g.2.2.1 j)), (1, .int (nI k))] := hl
  refine lv_aload_n hx hb dJ0_charAt_5068e_0 rfl (lv_at hl 0 rfl) ?_
  refine zz_callK (wr := []) (wc := []) (As := []) (rest := []) F hK hE hA hP hD hS (show j < 8 from by omega) (c_J0_isLatin1_aae02 l g (j := j) (hj := by first | assumption | omega)) (cwV 0 hts gJ0_charAt_5068e_J0_isLatin1_aae02 rfl rfl rfl (by decide +kernel) ⟨Nat.le_of_ble_eq_true rfl, Nat.le_of_ble_eq_true rfl⟩) [] [] rfl rfl (by decide) (by decide) (by decide) rfl rfl hl.1 (Nat.le_of_ble_eq_true rfl) dJ0_charAt_5068e_1 ⟨Nat.le_of_ble_eq_true rfl, Nat.le_of_ble_eq_true rfl⟩ (fun r_1 u_1 H locs hw hP hD hS => ?_)
  have hP : va_P g.1 vwCl [] _ := hP
  have hD : va_D A [] := hD
  have hr_1 := hw
  have hr_1 : r_1 = 1 := hr_1
  subst hr_1
  refine zz_if_eq (tgt := 16) hx hb dJ0_charAt_5068e_4 (by decide) (zi_c 1 rfl) (by omega) (fun c_2 => (by exfalso; omega)) (fun c_2 => ?_)
  refine lv_aload_n hx hb dJ0_charAt_5068e_7 rfl (lv_at hl 0 rfl) ?_
  refine vk_getf hx hb (hE.1.1 j (by omega)).2.2.1 hS hown hf0 (fun _ h9 => h9) dJ0_charAt_5068e_8 ?_
  refine lv_iload_n hx hb dJ0_charAt_5068e_11 rfl (lv_at hl 1 rfl) ?_
  refine zz_callSI (wr := []) (wc := []) (As := [.ref (g.2.2.2 j), .int (nI k)]) (rest := []) F hK hE hA hP hD hS (c_J1_charAt_3b067 l g (j := j) (k := k) (hj := by first | assumption | omega) (hk := by first | assumption | omega)) (va_cwS 2 hts gJ0_charAt_5068e_J1_charAt_3b067 rfl rfl rfl (by decide +kernel) ⟨Nat.le_of_ble_eq_true rfl, Nat.le_of_ble_eq_true rfl⟩) [] [] rfl rfl (by decide) (by decide) (by decide) rfl rfl hl.1 (Nat.le_of_ble_eq_true rfl) dJ0_charAt_5068e_12 ⟨Nat.le_of_ble_eq_true rfl, Nat.le_of_ble_eq_true rfl⟩ (fun r_3 u_3 H locs hw hP hD hS => ?_)
  have hP : va_P g.1 vwCl [] _ := hP
  have hD : va_D A [] := hD
  have hr_3 := hw
  have hr_3 : r_3 = nI (zCh j k) := hr_3
  subst hr_3
  exact hret 15 _ _ _ (nI (zCh j k)) () dJ0_charAt_5068e_15 (zCh_n hj hk) hP hD hS (show (nI (zCh j k)) = nI (zCh j k) from by rfl)

set_option maxHeartbeats 4000000 in
set_option maxRecDepth 100000 in
theorem c_X3_byteAt (l : Launch) (g : zG) (X : Nat) (Xa tx ct tn nu sa be : Nat) (tb : Nat → Nat) (i : Nat) (htx : tx ≤ 400) (htb : ∀ k, tb k < 256) (hi : i < 2147483648) : zI l yX3_byteAt wsX3_byteAt 0 0 g [.ref X, .int (nI i)] [(X, .inr (3, [.ref Xa, .int (nI tx), .int (nI ct), .int (nI tn), .int (nI nu), .int (nI sa), .int (nI be)])), (Xa, .inl (g.2.1.1, 400, .inl (zf tb)))] (fun (r : Int32) (u : Unit) => r = zi (zAt tb tx i)) (fun (u : Unit) => [(X, .inr (3, [.ref Xa, .int (nI tx), .int (nI ct), .int (nI tn), .int (nI nu), .int (nI sa), .int (nI be)])), (Xa, .inl (g.2.1.1, 400, .inl (zf tb)))]) := by
  refine zz_bodyI (cc := cX3_byteAt) (nL := 2) (own := RX3) (ty := .int) (by decide) rfl rfl (Nat.le_of_ble_eq_true rfl) ?_
  intro pP eE s mM below meth cC A Q ls F hA hK hE hP hD hl hret
  have hS : va_S A s.heap s.heap [] := va_S.rf
  obtain ⟨hx, hb, hml, hown, hts⟩ := id F
  have hiX3 : ∀ w ∈ u_ws RX3 TX3 7, w ∈ wsX3_byteAt := by decide +kernel
  have hf0 := hts (.fieldLink RX3 15 "StepClock$Text" "length" "I") (by decide +kernel)
  have hf1 := hts (.fieldLink RX3 9 "StepClock$Text" "bytes" "[I") (by decide +kernel)
  have hl : lv_has ls 2 [(0, .ref X), (1, .int (nI i))] := hl
  refine lv_iload_n hx hb dX3_byteAt_0 rfl (lv_at hl 1 rfl) ?_
  refine zz_if_lt (tgt := 30) hx hb dX3_byteAt_1 (by decide) (zi_n i) (by omega) (fun c_1 => (by exfalso; omega)) (fun c_1 => ?_)
  refine lv_iload_n hx hb dX3_byteAt_4 rfl (lv_at hl 1 rfl) ?_
  refine lv_aload_n hx hb dX3_byteAt_5 rfl (lv_at hl 0 rfl) ?_
  refine va_get (D := g.1) (ci := 3) (v := .int (nI tx)) (C := RX3) (T := TX3) (N := 7) hx hb hts hiX3 hown hK.1 hP 0 rfl rfl 1 (by decide) hf0 (fun _ h9 => h9) rfl dX3_byteAt_6 ?_
  refine zz_icmp_ge (tgt := 30) hx hb dX3_byteAt_9 (by decide) (zi_n i) (zi_n tx) (by omega) (by omega) (fun c_2 => ?_) (fun c_2 => ?_)
  · refine lv_bipush (v := (-9)) hx hb dX3_byteAt_30 (by decide) ?_
    exact hret 32 _ _ _ (-9) () dX3_byteAt_32 rfl hP hD hS (show (-9) = zi (zAt tb tx i) from by first | (rw [zAt, if_pos (by omega)]; exact zi_n _) | (rw [zAt, if_neg (by omega)]; rfl))
  · refine lv_iload_n hx hb dX3_byteAt_12 rfl (lv_at hl 1 rfl) ?_
    refine lv_aload_n hx hb dX3_byteAt_13 rfl (lv_at hl 0 rfl) ?_
    refine va_get (D := g.1) (ci := 3) (v := .ref Xa) (C := RX3) (T := TX3) (N := 7) hx hb hts hiX3 hown hK.1 hP 0 rfl rfl 0 (by decide) hf1 (fun _ h9 => h9) rfl dX3_byteAt_14 ?_
    refine va_alen hx hb hK.1 hP 1 0 (v := 400) rfl rfl rfl dX3_byteAt_17 ?_
    refine zz_icmp_ge (tgt := 30) hx hb dX3_byteAt_18 (by decide) (zi_n i) (zi_c 400 rfl) (by omega) (by omega) (fun c_3 => ?_) (fun c_3 => ?_)
    · refine lv_bipush (v := (-9)) hx hb dX3_byteAt_30 (by decide) ?_
      exact hret 32 _ _ _ (-9) () dX3_byteAt_32 rfl hP hD hS (show (-9) = zi (zAt tb tx i) from by first | (rw [zAt, if_pos (by omega)]; exact zi_n _) | (rw [zAt, if_neg (by omega)]; rfl))
    · refine lv_aload_n hx hb dX3_byteAt_21 rfl (lv_at hl 0 rfl) ?_
      refine va_get (D := g.1) (ci := 3) (v := .ref Xa) (C := RX3) (T := TX3) (N := 7) hx hb hts hiX3 hown hK.1 hP 0 rfl rfl 0 (by decide) hf1 (fun _ h9 => h9) rfl dX3_byteAt_22 ?_
      refine lv_iload_n hx hb dX3_byteAt_25 rfl (lv_at hl 1 rfl) ?_
      refine zz_iald hx hb hK.1 hP 1 0 rfl rfl i rfl (by omega) (by decide) dX3_byteAt_26 ?_
      have hq_4 := htb i
      refine lv_goto (tgt := 32) hx hb dX3_byteAt_27 (by decide) ?_
      exact hret 32 _ _ _ (nI (tb i)) () dX3_byteAt_32 rfl hP hD hS (show (nI (tb i)) = zi (zAt tb tx i) from by first | (rw [zAt, if_pos (by omega)]; exact zi_n _) | (rw [zAt, if_neg (by omega)]; rfl))

set_option maxHeartbeats 4000000 in
set_option maxRecDepth 100000 in
theorem c_X3_isLetter (l : Launch) (g : zG) (x : Int32) : zI l yX3_isLetter wsX3_isLetter 0 0 g [.int x] [] (fun (r : Int32) (u : Unit) => r = if 97 ≤ x.toInt ∧ x.toInt ≤ 122 then 1 else 0) (fun (u : Unit) => []) := by
  refine zz_bodyI (cc := cX3_isLetter) (nL := 1) (own := RX3) (ty := .boolean) (by decide) rfl rfl (Nat.le_of_ble_eq_true rfl) ?_
  intro pP eE s mM below meth cC A Q ls F hA hK hE hP hD hl hret
  have hS : va_S A s.heap s.heap [] := va_S.rf
  obtain ⟨hx, hb, hml, hown, hts⟩ := id F
  have hl : lv_has ls 1 [(0, .int x)] := hl
  have hlox := zi_lo x
  have hhix := zi_hi x
  refine lv_iload_n hx hb dX3_isLetter_0 rfl (lv_at hl 0 rfl) ?_
  refine lv_bipush (v := 97) hx hb dX3_isLetter_1 (by decide) ?_
  refine zz_icmp_lt (tgt := 16) hx hb dX3_isLetter_3 (by decide) (zi_self x) (zi_c 97 rfl) (by omega) (by omega) (fun c_1 => ?_) (fun c_1 => ?_)
  · refine lv_iconst (v := 0) hx hb dX3_isLetter_16 (by decide) ?_
    exact hret 17 _ _ _ 0 () dX3_isLetter_17 rfl hP hD hS (show 0 = if 97 ≤ x.toInt ∧ x.toInt ≤ 122 then 1 else 0 from by first | (exfalso; omega) | (rw [if_pos (by omega)]) | (rw [if_neg (by omega)]))
  · refine lv_iload_n hx hb dX3_isLetter_6 rfl (lv_at hl 0 rfl) ?_
    refine lv_bipush (v := 122) hx hb dX3_isLetter_7 (by decide) ?_
    refine zz_icmp_gt (tgt := 16) hx hb dX3_isLetter_9 (by decide) (zi_self x) (zi_c 122 rfl) (by omega) (by omega) (fun c_2 => ?_) (fun c_2 => ?_)
    · refine lv_iconst (v := 0) hx hb dX3_isLetter_16 (by decide) ?_
      exact hret 17 _ _ _ 0 () dX3_isLetter_17 rfl hP hD hS (show 0 = if 97 ≤ x.toInt ∧ x.toInt ≤ 122 then 1 else 0 from by first | (exfalso; omega) | (rw [if_pos (by omega)]) | (rw [if_neg (by omega)]))
    · refine lv_iconst (v := 1) hx hb dX3_isLetter_12 (by decide) ?_
      refine lv_goto (tgt := 17) hx hb dX3_isLetter_13 (by decide) ?_
      exact hret 17 _ _ _ 1 () dX3_isLetter_17 rfl hP hD hS (show 1 = if 97 ≤ x.toInt ∧ x.toInt ≤ 122 then 1 else 0 from by first | (exfalso; omega) | (rw [if_pos (by omega)]) | (rw [if_neg (by omega)]))

set_option maxHeartbeats 4000000 in
set_option maxRecDepth 100000 in
theorem c_X3_isDigit (l : Launch) (g : zG) (x : Int32) : zI l yX3_isDigit wsX3_isDigit 0 0 g [.int x] [] (fun (r : Int32) (u : Unit) => r = if 48 ≤ x.toInt ∧ x.toInt ≤ 57 then 1 else 0) (fun (u : Unit) => []) := by
  refine zz_bodyI (cc := cX3_isDigit) (nL := 1) (own := RX3) (ty := .boolean) (by decide) rfl rfl (Nat.le_of_ble_eq_true rfl) ?_
  intro pP eE s mM below meth cC A Q ls F hA hK hE hP hD hl hret
  have hS : va_S A s.heap s.heap [] := va_S.rf
  obtain ⟨hx, hb, hml, hown, hts⟩ := id F
  have hl : lv_has ls 1 [(0, .int x)] := hl
  have hlox := zi_lo x
  have hhix := zi_hi x
  refine lv_iload_n hx hb dX3_isDigit_0 rfl (lv_at hl 0 rfl) ?_
  refine lv_bipush (v := 48) hx hb dX3_isDigit_1 (by decide) ?_
  refine zz_icmp_lt (tgt := 16) hx hb dX3_isDigit_3 (by decide) (zi_self x) (zi_c 48 rfl) (by omega) (by omega) (fun c_1 => ?_) (fun c_1 => ?_)
  · refine lv_iconst (v := 0) hx hb dX3_isDigit_16 (by decide) ?_
    exact hret 17 _ _ _ 0 () dX3_isDigit_17 rfl hP hD hS (show 0 = if 48 ≤ x.toInt ∧ x.toInt ≤ 57 then 1 else 0 from by first | (exfalso; omega) | (rw [if_pos (by omega)]) | (rw [if_neg (by omega)]))
  · refine lv_iload_n hx hb dX3_isDigit_6 rfl (lv_at hl 0 rfl) ?_
    refine lv_bipush (v := 57) hx hb dX3_isDigit_7 (by decide) ?_
    refine zz_icmp_gt (tgt := 16) hx hb dX3_isDigit_9 (by decide) (zi_self x) (zi_c 57 rfl) (by omega) (by omega) (fun c_2 => ?_) (fun c_2 => ?_)
    · refine lv_iconst (v := 0) hx hb dX3_isDigit_16 (by decide) ?_
      exact hret 17 _ _ _ 0 () dX3_isDigit_17 rfl hP hD hS (show 0 = if 48 ≤ x.toInt ∧ x.toInt ≤ 57 then 1 else 0 from by first | (exfalso; omega) | (rw [if_pos (by omega)]) | (rw [if_neg (by omega)]))
    · refine lv_iconst (v := 1) hx hb dX3_isDigit_12 (by decide) ?_
      refine lv_goto (tgt := 17) hx hb dX3_isDigit_13 (by decide) ?_
      exact hret 17 _ _ _ 1 () dX3_isDigit_17 rfl hP hD hS (show 1 = if 48 ≤ x.toInt ∧ x.toInt ≤ 57 then 1 else 0 from by first | (exfalso; omega) | (rw [if_pos (by omega)]) | (rw [if_neg (by omega)]))

set_option maxHeartbeats 4000000 in
set_option maxRecDepth 100000 in
theorem c_X3_isWord (l : Launch) (g : zG) (X : Nat) (Xa tx ct tn nu sa be : Nat) (tb : Nat → Nat) (j : Nat) (htx : tx ≤ 400) (htb : ∀ k, tb k < 256) (hj : j < 8) (hsa : sa ≤ be) (hbe : be ≤ tx) (htn : tn ≤ 4) : zI l yX3_isWord wsX3_isWord 4 85 g [.ref X, .ref (g.2.2.1 j)] [(X, .inr (3, [.ref Xa, .int (nI tx), .int (nI ct), .int (nI tn), .int (nI nu), .int (nI sa), .int (nI be)])), (Xa, .inl (g.2.1.1, 400, .inl (zf tb)))] (fun (r : Int32) (u : Unit) => r = if zIsW tn sa be tb j then 1 else 0) (fun (u : Unit) => [(X, .inr (3, [.ref Xa, .int (nI tx), .int (nI ct), .int (nI tn), .int (nI nu), .int (nI sa), .int (nI be)])), (Xa, .inl (g.2.1.1, 400, .inl (zf tb)))]) := by
  refine zz_bodyI (cc := cX3_isWord) (nL := 3) (own := RX3) (ty := .boolean) (by decide) rfl rfl (Nat.le_of_ble_eq_true rfl) ?_
  intro pP eE s mM below meth cC A Q ls F hA hK hE hP hD hl hret
  have hS : va_S A s.heap s.heap [] := va_S.rf
  obtain ⟨hx, hb, hml, hown, hts⟩ := id F
  have hiX3 : ∀ w ∈ u_ws RX3 TX3 7, w ∈ wsX3_isWord := by decide +kernel
  have hf0 := hts (.fieldLink RX3 34 "StepClock$Text" "token" "I") (by decide +kernel)
  have hf1 := hts (.fieldLink RX3 28 "StepClock$Text" "behind" "I") (by decide +kernel)
  have hf2 := hts (.fieldLink RX3 41 "StepClock$Text" "start" "I") (by decide +kernel)
  have hl : lv_has ls 3 [(0, .ref X), (1, .ref (g.2.2.1 j))] := hl
  have hlj := zLen_le hj
  refine lv_aload_n hx hb dX3_isWord_0 rfl (lv_at hl 0 rfl) ?_
  refine va_get (D := g.1) (ci := 3) (v := .int (nI tn)) (C := RX3) (T := TX3) (N := 7) hx hb hts hiX3 hown hK.1 hP 0 rfl rfl 3 (by decide) hf0 (fun _ h9 => h9) rfl dX3_isWord_1 ?_
  refine lv_iconst (v := 3) hx hb dX3_isWord_4 (by decide) ?_
  refine zz_icmp_ne (tgt := 24) hx hb dX3_isWord_5 (by decide) (zi_n tn) (zi_c 3 rfl) (by omega) (by omega) (fun c_1 => ?_) (fun c_1 => ?_)
  · refine lv_iconst (v := 0) hx hb dX3_isWord_24 (by decide) ?_
    exact hret 25 _ _ _ 0 () dX3_isWord_25 rfl hP hD hS (show 0 = if zIsW tn sa be tb j then 1 else 0 from by (rw [if_neg (fun q => by have q1 := q.1; have q2 := q.2.1; omega)]))
  · refine lv_aload_n hx hb dX3_isWord_8 rfl (lv_at hl 0 rfl) ?_
    refine va_get (D := g.1) (ci := 3) (v := .int (nI be)) (C := RX3) (T := TX3) (N := 7) hx hb hts hiX3 hown hK.1 hP 0 rfl rfl 6 (by decide) hf1 (fun _ h9 => h9) rfl dX3_isWord_9 ?_
    refine lv_aload_n hx hb dX3_isWord_12 rfl (lv_at hl 0 rfl) ?_
    refine va_get (D := g.1) (ci := 3) (v := .int (nI sa)) (C := RX3) (T := TX3) (N := 7) hx hb hts hiX3 hown hK.1 hP 0 rfl rfl 5 (by decide) hf2 (fun _ h9 => h9) rfl dX3_isWord_13 ?_
    refine lv_isub hx hb dX3_isWord_16 ?_
    refine lv_aload_n hx hb dX3_isWord_17 rfl (lv_at hl 1 rfl) ?_
    refine zz_callK (wr := [(X, .inr (3, [.ref Xa, .int (nI tx), .int (nI ct), .int (nI tn), .int (nI nu), .int (nI sa), .int (nI be)])), (Xa, .inl (g.2.1.1, 400, .inl (zf tb)))]) (wc := []) (As := []) (rest := [.int ((nI be) - (nI sa))]) F hK hE hA hP hD hS (show j < 8 from by omega) (c_J0_length_8abf5 l g (j := j) (hj := by first | assumption | omega)) (cwV 0 hts gX3_isWord_J0_length_8abf5 rfl rfl rfl (by decide +kernel) ⟨Nat.le_of_ble_eq_true rfl, Nat.le_of_ble_eq_true rfl⟩) [] [0, 1] rfl rfl (by decide) (by decide) (by decide) rfl rfl hl.1 (Nat.le_of_ble_eq_true rfl) dX3_isWord_18 ⟨Nat.le_of_ble_eq_true rfl, Nat.le_of_ble_eq_true rfl⟩ (fun r_2 u_2 H locs hw hP hD hS => ?_)
    have hP : va_P g.1 vwCl [(X, .inr (3, [.ref Xa, .int (nI tx), .int (nI ct), .int (nI tn), .int (nI nu), .int (nI sa), .int (nI be)])), (Xa, .inl (g.2.1.1, 400, .inl (zf tb)))] _ := hP
    have hD : va_D A [(X, .inr (3, [.ref Xa, .int (nI tx), .int (nI ct), .int (nI tn), .int (nI nu), .int (nI sa), .int (nI be)])), (Xa, .inl (g.2.1.1, 400, .inl (zf tb)))] := hD
    have hr_2 := hw
    have hr_2 : r_2 = nI (zLen.getD j 0) := hr_2
    subst hr_2
    refine zz_icmp_eq (tgt := 26) hx hb dX3_isWord_21 (by decide) (zi_sub (zi_n be) (zi_n sa)) (zi_n (zLen.getD j 0)) (by omega) (by omega) (fun c_3 => ?_) (fun c_3 => ?_)
    · refine lv_iconst (v := 0) hx hb dX3_isWord_26 (by decide) ?_
      refine lv_istore_n (lv' := [(2, .int 0), (0, .ref X), (1, .ref (g.2.2.1 j))]) hx hb dX3_isWord_27 rfl hl (by decide) rfl (fun ls hl => ?_)
      have hcut28 : ∀ (fu : Nat) (i : Nat) (H : Heap) (locs : List Loc) (ls : Array Slot), (i ≤ zLen.getD j 0) → (tn = 3 ∧ be = sa + zLen.getD j 0) → (∀ k, k < i → tb (sa + k) = zCh j k) → (zLen.getD j 0 - i) < fu → va_P g.1 vwCl [(X, .inr (3, [.ref Xa, .int (nI tx), .int (nI ct), .int (nI tn), .int (nI nu), .int (nI sa), .int (nI be)])), (Xa, .inl (g.2.1.1, 400, .inl (zf tb)))] H → va_D A [(X, .inr (3, [.ref Xa, .int (nI tx), .int (nI ct), .int (nI tn), .int (nI nu), .int (nI sa), .int (nI be)])), (Xa, .inl (g.2.1.1, 400, .inl (zf tb)))] → va_S A s.heap H locs → lv_has ls 3 [(0, .ref X), (1, .ref (g.2.2.1 j)), (2, .int (nI i))] → W pP l eE { frames := 4, cells := 0, slots := 0, locals := 85 } s mM ([.ref X, .ref (g.2.2.1 j)] : List Value).toArray below meth cC H locs 0 0 Q (F0 mM 28 ls []) := by
        intro fu
        induction fu with
        | zero =>
          intro i H locs ls hi he hm2 hm
          exact absurd hm (Nat.not_lt_zero _)
        | succ fu ih28 =>
          intro i H locs ls hi he hm2 hm hP hD hS hl
          refine lv_iload_n hx hb dX3_isWord_28 rfl (lv_at hl 2 rfl) ?_
          refine lv_aload_n hx hb dX3_isWord_29 rfl (lv_at hl 1 rfl) ?_
          refine zz_callK (wr := [(X, .inr (3, [.ref Xa, .int (nI tx), .int (nI ct), .int (nI tn), .int (nI nu), .int (nI sa), .int (nI be)])), (Xa, .inl (g.2.1.1, 400, .inl (zf tb)))]) (wc := []) (As := []) (rest := [.int (nI i)]) F hK hE hA hP hD hS (show j < 8 from by omega) (c_J0_length_8abf5 l g (j := j) (hj := by first | assumption | omega)) (cwV 0 hts gX3_isWord_J0_length_8abf5 rfl rfl rfl (by decide +kernel) ⟨Nat.le_of_ble_eq_true rfl, Nat.le_of_ble_eq_true rfl⟩) [] [0, 1] rfl rfl (by decide) (by decide) (by decide) rfl rfl hl.1 (Nat.le_of_ble_eq_true rfl) dX3_isWord_30 ⟨Nat.le_of_ble_eq_true rfl, Nat.le_of_ble_eq_true rfl⟩ (fun r_4 u_4 H locs hw hP hD hS => ?_)
          have hP : va_P g.1 vwCl [(X, .inr (3, [.ref Xa, .int (nI tx), .int (nI ct), .int (nI tn), .int (nI nu), .int (nI sa), .int (nI be)])), (Xa, .inl (g.2.1.1, 400, .inl (zf tb)))] _ := hP
          have hD : va_D A [(X, .inr (3, [.ref Xa, .int (nI tx), .int (nI ct), .int (nI tn), .int (nI nu), .int (nI sa), .int (nI be)])), (Xa, .inl (g.2.1.1, 400, .inl (zf tb)))] := hD
          have hr_4 := hw
          have hr_4 : r_4 = nI (zLen.getD j 0) := hr_4
          subst hr_4
          refine zz_icmp_ge (tgt := 62) hx hb dX3_isWord_33 (by decide) (zi_n i) (zi_n (zLen.getD j 0)) (by omega) (by omega) (fun c_5 => ?_) (fun c_5 => ?_)
          · refine lv_iconst (v := 1) hx hb dX3_isWord_62 (by decide) ?_
            exact hret 63 _ _ _ 1 () dX3_isWord_63 rfl hP hD hS (show 1 = if zIsW tn sa be tb j then 1 else 0 from by (rw [if_pos ⟨he.1, he.2, fun k hk => hm2 k (by omega)⟩]))
          · refine lv_aload_n hx hb dX3_isWord_36 rfl (lv_at hl 0 rfl) ?_
            refine lv_aload_n hx hb dX3_isWord_37 rfl (lv_at hl 0 rfl) ?_
            refine va_get (D := g.1) (ci := 3) (v := .int (nI sa)) (C := RX3) (T := TX3) (N := 7) hx hb hts hiX3 hown hK.1 hP 0 rfl rfl 5 (by decide) hf2 (fun _ h9 => h9) rfl dX3_isWord_38 ?_
            refine lv_iload_n hx hb dX3_isWord_41 rfl (lv_at hl 2 rfl) ?_
            refine lv_iadd hx hb dX3_isWord_42 ?_
            refine zz_st (st2 := [.int (nI (sa + i)), .ref X]) (congrArg (fun z : Int32 => ([.int z, .ref X] : List Value)) (show (nI sa) + (nI i) = nI (sa + i) from (zi_eq (zi_add (zi_n sa) (zi_n i)) (zi_n (sa + i)) (by omega)))) ?_
            refine zz_callI (wr := []) (wc := [(X, .inr (3, [.ref Xa, .int (nI tx), .int (nI ct), .int (nI tn), .int (nI nu), .int (nI sa), .int (nI be)])), (Xa, .inl (g.2.1.1, 400, .inl (zf tb)))]) (As := [.int (nI (sa + i))]) (rest := []) F hK hE hA hP hD hS (c_X3_byteAt l g (X := X) (Xa := Xa) (tx := tx) (ct := ct) (tn := tn) (nu := nu) (sa := sa) (be := be) (tb := tb) (i := (sa + i)) (htx := by first | assumption | omega) (htb := by first | assumption | omega) (hi := by first | assumption | omega)) (cwV 1 hts gX3_isWord_X3_byteAt rfl rfl rfl (by decide +kernel) ⟨Nat.le_of_ble_eq_true rfl, Nat.le_of_ble_eq_true rfl⟩) [0, 1] [] rfl rfl (by decide) (by decide) (by decide) 3 0 rfl rfl rfl rfl rfl hl.1 (Nat.le_of_ble_eq_true rfl) dX3_isWord_43 ⟨Nat.le_of_ble_eq_true rfl, Nat.le_of_ble_eq_true rfl⟩ (fun r_6 u_6 H locs hw hP hD hS => ?_)
            have hP : va_P g.1 vwCl [(X, .inr (3, [.ref Xa, .int (nI tx), .int (nI ct), .int (nI tn), .int (nI nu), .int (nI sa), .int (nI be)])), (Xa, .inl (g.2.1.1, 400, .inl (zf tb)))] _ := hP
            have hD : va_D A [(X, .inr (3, [.ref Xa, .int (nI tx), .int (nI ct), .int (nI tn), .int (nI nu), .int (nI sa), .int (nI be)])), (Xa, .inl (g.2.1.1, 400, .inl (zf tb)))] := hD
            have hr_6 := hw
            have hr_6 : r_6 = zi (zAt tb tx (sa + i)) := hr_6
            subst hr_6
            have hza_7 := zAt_s htb tx (sa + i)
            refine lv_aload_n hx hb dX3_isWord_46 rfl (lv_at hl 1 rfl) ?_
            refine lv_iload_n hx hb dX3_isWord_47 rfl (lv_at hl 2 rfl) ?_
            refine zz_callK (wr := [(X, .inr (3, [.ref Xa, .int (nI tx), .int (nI ct), .int (nI tn), .int (nI nu), .int (nI sa), .int (nI be)])), (Xa, .inl (g.2.1.1, 400, .inl (zf tb)))]) (wc := []) (As := [.int (nI i)]) (rest := [.int (zi (zAt tb tx (sa + i)))]) F hK hE hA hP hD hS (show j < 8 from by omega) (c_J0_charAt_5068e l g (j := j) (k := i) (hj := by first | assumption | omega) (hk := by first | assumption | omega)) (cwV 1 hts gX3_isWord_J0_charAt_5068e rfl rfl rfl (by decide +kernel) ⟨Nat.le_of_ble_eq_true rfl, Nat.le_of_ble_eq_true rfl⟩) [] [0, 1] rfl rfl (by decide) (by decide) (by decide) rfl rfl hl.1 (Nat.le_of_ble_eq_true rfl) dX3_isWord_48 ⟨Nat.le_of_ble_eq_true rfl, Nat.le_of_ble_eq_true rfl⟩ (fun r_8 u_8 H locs hw hP hD hS => ?_)
            have hP : va_P g.1 vwCl [(X, .inr (3, [.ref Xa, .int (nI tx), .int (nI ct), .int (nI tn), .int (nI nu), .int (nI sa), .int (nI be)])), (Xa, .inl (g.2.1.1, 400, .inl (zf tb)))] _ := hP
            have hD : va_D A [(X, .inr (3, [.ref Xa, .int (nI tx), .int (nI ct), .int (nI tn), .int (nI nu), .int (nI sa), .int (nI be)])), (Xa, .inl (g.2.1.1, 400, .inl (zf tb)))] := hD
            have hr_8 := hw
            have hr_8 : r_8 = nI (zCh j i) := hr_8
            subst hr_8
            have hzc := zCh_lt hj (k := i) (by omega)
            refine zz_icmp_eq (tgt := 56) hx hb dX3_isWord_51 (by decide) rfl (zi_n (zCh j i)) (by omega) (by omega) (fun c_9 => ?_) (fun c_9 => ?_)
            · refine lv_iinc (v := nI (i + 1)) (lv' := [(2, .int (nI (i + 1))), (0, .ref X), (1, .ref (g.2.2.1 j))]) hx hb dX3_isWord_56 hl (k := 2) rfl (zi_eq (zi_add (zi_n i) (zi_c 1 rfl)) (zi_n (i + 1)) (by omega)) (by decide) rfl (fun ls hl => ?_)
              refine lv_goto (tgt := 28) hx hb dX3_isWord_59 (by decide) ?_
              exact ih28 (i + 1) _ _ _ (show (i + 1) ≤ zLen.getD j 0 from by omega) (show tn = 3 ∧ be = sa + zLen.getD j 0 from by exact he) (show ∀ k, k < (i + 1) → tb (sa + k) = zCh j k from by exact lt_s hm2 (by omega)) (by omega) hP hD hS (lv_sub hl [1, 2, 0] rfl)
            · refine lv_iconst (v := 0) hx hb dX3_isWord_54 (by decide) ?_
              exact hret 55 _ _ _ 0 () dX3_isWord_55 rfl hP hD hS (show 0 = if zIsW tn sa be tb j then 1 else 0 from by (rw [if_neg (fun q => by have q3 := q.2.2 i (by omega); omega)]))
      exact hcut28 ((zLen.getD j 0 - 0) + 1) 0 _ _ _ (show 0 ≤ zLen.getD j 0 from by omega) (show tn = 3 ∧ be = sa + zLen.getD j 0 from by omega) (show ∀ k, k < 0 → tb (sa + k) = zCh j k from by exact fun k q => absurd q (Nat.not_lt_zero k)) (by omega) hP hD hS (lv_sub hl [1, 2, 0] rfl)
    · refine lv_iconst (v := 0) hx hb dX3_isWord_24 (by decide) ?_
      exact hret 25 _ _ _ 0 () dX3_isWord_25 rfl hP hD hS (show 0 = if zIsW tn sa be tb j then 1 else 0 from by (rw [if_neg (fun q => by have q1 := q.1; have q2 := q.2.1; omega)]))
