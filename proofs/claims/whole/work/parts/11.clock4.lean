set_option maxHeartbeats 4000000 in
set_option maxRecDepth 100000 in
theorem c_X4_endOfSet (l : Launch) (g : zG) (C X P O T U V Y S D E : Nat) (hg : Int32) (k0 k1 : Nat) (tr : Int64) (se : Nat → Nat) (k : Nat) (hk : k < 64) : zI l yX4_endOfSet wsX4_endOfSet 0 0 g [.ref C, .int (nI k)] [(C, .inr (4, [.ref X, .ref P, .ref O, .ref T, .ref U, .ref V, .ref Y, .ref S, .ref D, .ref E, .int hg, .int (nI k0), .int (nI k1), .long tr])), (E, .inl (g.2.1.1, 64, .inl (zg se)))] (fun (r : Int32) (u : Unit) => r = zNo (se k)) (fun (u : Unit) => [(C, .inr (4, [.ref X, .ref P, .ref O, .ref T, .ref U, .ref V, .ref Y, .ref S, .ref D, .ref E, .int hg, .int (nI k0), .int (nI k1), .long tr])), (E, .inl (g.2.1.1, 64, .inl (zg se)))]) := by
  refine zz_bodyI (cc := cX4_endOfSet) (nL := 2) (own := RX4) (ty := .int) (by decide) rfl rfl (Nat.le_of_ble_eq_true rfl) ?_
  intro pP eE s mM below meth cC A Q ls F hA hK hE hP hD hl hret
  have hS : va_S A s.heap s.heap [] := va_S.rf
  obtain ⟨hx, hb, hml, hown, hts⟩ := id F
  have hiX4 : ∀ w ∈ u_ws RX4 TX4 14, w ∈ wsX4_endOfSet := by decide +kernel
  have hf0 := hts (.fieldLink RX4 53 "StepClock" "setEnds" "[I") (by decide +kernel)
  have hl : lv_has ls 2 [(0, .ref C), (1, .int (nI k))] := hl
  refine lv_iload_n hx hb dX4_endOfSet_0 rfl (lv_at hl 1 rfl) ?_
  refine zz_if_lt (tgt := 22) hx hb dX4_endOfSet_1 (by decide) (zi_n k) (by omega) (fun c_1 => (by exfalso; omega)) (fun c_1 => ?_)
  refine lv_iload_n hx hb dX4_endOfSet_4 rfl (lv_at hl 1 rfl) ?_
  refine lv_aload_n hx hb dX4_endOfSet_5 rfl (lv_at hl 0 rfl) ?_
  refine va_get (D := g.1) (ci := 4) (v := .ref E) (C := RX4) (T := TX4) (N := 14) hx hb hts hiX4 hown hK.1 hP 0 rfl rfl 9 (by decide) hf0 (fun _ h9 => h9) rfl dX4_endOfSet_6 ?_
  refine va_alen hx hb hK.1 hP 1 0 (v := 64) rfl rfl rfl dX4_endOfSet_9 ?_
  refine zz_icmp_ge (tgt := 22) hx hb dX4_endOfSet_10 (by decide) (zi_n k) (zi_c 64 rfl) (by omega) (by omega) (fun c_2 => (by exfalso; omega)) (fun c_2 => ?_)
  refine lv_aload_n hx hb dX4_endOfSet_13 rfl (lv_at hl 0 rfl) ?_
  refine va_get (D := g.1) (ci := 4) (v := .ref E) (C := RX4) (T := TX4) (N := 14) hx hb hts hiX4 hown hK.1 hP 0 rfl rfl 9 (by decide) hf0 (fun _ h9 => h9) rfl dX4_endOfSet_14 ?_
  refine lv_iload_n hx hb dX4_endOfSet_17 rfl (lv_at hl 1 rfl) ?_
  refine zz_iald hx hb hK.1 hP 1 0 rfl rfl k rfl (by omega) (by decide) dX4_endOfSet_18 ?_
  have hz_3 := zOi_s (se k)
  refine lv_goto (tgt := 24) hx hb dX4_endOfSet_19 (by decide) ?_
  exact hret 24 _ _ _ (zNo (se k)) () dX4_endOfSet_24 rfl hP hD hS (show (zNo (se k)) = zNo (se k) from by rfl)

set_option maxHeartbeats 4000000 in
set_option maxRecDepth 100000 in
theorem c_X4_earliestEnd (l : Launch) (g : zG) (C X P O T U V Y S D E : Nat) (hg : Int32) (k0 k1 : Nat) (tr : Int64) (Pa Pb Pc Pd : Nat) (hs np nm nw : Nat) (kp : Nat → Nat) (to : Nat → Nat) (se : Nat → Nat) (k : Nat) (hnw : nw ≤ 6) (hkp : ∀ k, kp k < 1000) (hto : ∀ k, to k < 10000000) (hk : k < 64) : zI l yX4_earliestEnd wsX4_earliestEnd 2 48 g [.ref C, .int (nI k)] [(C, .inr (4, [.ref X, .ref P, .ref O, .ref T, .ref U, .ref V, .ref Y, .ref S, .ref D, .ref E, .int hg, .int (nI k0), .int (nI k1), .long tr])), (P, .inr (1, [.ref Pa, .ref Pb, .ref Pc, .ref Pd, .int (nI hs), .int (nI np), .int (nI nm), .int (nI nw)])), (Pd, .inl (g.2.1.1, 18, .inl (zf kp))), (D, .inl (g.2.1.1, 241, .inl (zf to))), (E, .inl (g.2.1.1, 64, .inl (zg se)))] (fun (r : Int32) (u : Unit) => r = zNo (zEw kp to se k nw)) (fun (u : Unit) => [(C, .inr (4, [.ref X, .ref P, .ref O, .ref T, .ref U, .ref V, .ref Y, .ref S, .ref D, .ref E, .int hg, .int (nI k0), .int (nI k1), .long tr])), (P, .inr (1, [.ref Pa, .ref Pb, .ref Pc, .ref Pd, .int (nI hs), .int (nI np), .int (nI nm), .int (nI nw)])), (Pd, .inl (g.2.1.1, 18, .inl (zf kp))), (D, .inl (g.2.1.1, 241, .inl (zf to))), (E, .inl (g.2.1.1, 64, .inl (zg se)))]) := by
  refine zz_bodyI (cc := cX4_earliestEnd) (nL := 6) (own := RX4) (ty := .int) (by decide) rfl rfl (Nat.le_of_ble_eq_true rfl) ?_
  intro pP eE s mM below meth cC A Q ls F hA hK hE hP hD hl hret
  have hS : va_S A s.heap s.heap [] := va_S.rf
  obtain ⟨hx, hb, hml, hown, hts⟩ := id F
  have hiX1 : ∀ w ∈ u_ws RX1 TX1 8, w ∈ wsX4_earliestEnd := by decide +kernel
  have hiX4 : ∀ w ∈ u_ws RX4 TX4 14, w ∈ wsX4_earliestEnd := by decide +kernel
  have hf0 := hts (.fieldLink RX4 19 "StepClock" "plan" "LStepClock$Plan;") (by decide +kernel)
  have hl : lv_has ls 6 [(0, .ref C), (1, .int (nI k))] := hl
  refine lv_bipush (v := (-9)) hx hb dX4_earliestEnd_0 (by decide) ?_
  refine lv_istore_n (lv' := [(2, .int (-9)), (0, .ref C), (1, .int (nI k))]) hx hb dX4_earliestEnd_2 rfl hl (by decide) rfl (fun ls hl => ?_)
  refine lv_iconst (v := 0) hx hb dX4_earliestEnd_3 (by decide) ?_
  refine lv_istore_n (lv' := [(3, .int 0), (2, .int (-9)), (0, .ref C), (1, .int (nI k))]) hx hb dX4_earliestEnd_4 rfl hl (by decide) rfl (fun ls hl => ?_)
  have hcut5 : ∀ (fu : Nat) (i : Nat) (H : Heap) (locs : List Loc) (ls : Array Slot), (i ≤ nw) → (nw - i) < fu → va_P g.1 vwCl [(C, .inr (4, [.ref X, .ref P, .ref O, .ref T, .ref U, .ref V, .ref Y, .ref S, .ref D, .ref E, .int hg, .int (nI k0), .int (nI k1), .long tr])), (P, .inr (1, [.ref Pa, .ref Pb, .ref Pc, .ref Pd, .int (nI hs), .int (nI np), .int (nI nm), .int (nI nw)])), (Pd, .inl (g.2.1.1, 18, .inl (zf kp))), (D, .inl (g.2.1.1, 241, .inl (zf to))), (E, .inl (g.2.1.1, 64, .inl (zg se)))] H → va_D A [(C, .inr (4, [.ref X, .ref P, .ref O, .ref T, .ref U, .ref V, .ref Y, .ref S, .ref D, .ref E, .int hg, .int (nI k0), .int (nI k1), .long tr])), (P, .inr (1, [.ref Pa, .ref Pb, .ref Pc, .ref Pd, .int (nI hs), .int (nI np), .int (nI nm), .int (nI nw)])), (Pd, .inl (g.2.1.1, 18, .inl (zf kp))), (D, .inl (g.2.1.1, 241, .inl (zf to))), (E, .inl (g.2.1.1, 64, .inl (zg se)))] → va_S A s.heap H locs → lv_has ls 6 [(0, .ref C), (1, .int (nI k)), (2, .int (zNo (zEw kp to se k i))), (3, .int (nI i))] → W pP l eE { frames := 2, cells := 0, slots := 0, locals := 48 } s mM ([.ref C, .int (nI k)] : List Value).toArray below meth cC H locs 0 0 Q (F0 mM 5 ls []) := by
    intro fu
    induction fu with
    | zero =>
      intro i H locs ls hi hm
      exact absurd hm (Nat.not_lt_zero _)
    | succ fu ih5 =>
      intro i H locs ls hi hm hP hD hS hl
      have hcw := zEw_le kp to se k i
      have hcz := zOi_s (zEw kp to se k i)
      have hz6i := zp6 (np := i) (by omega)
      refine lv_iload_n hx hb dX4_earliestEnd_5 rfl (lv_at hl 3 rfl) ?_
      refine lv_aload_n hx hb dX4_earliestEnd_6 rfl (lv_at hl 0 rfl) ?_
      refine va_get (D := g.1) (ci := 4) (v := .ref P) (C := RX4) (T := TX4) (N := 14) hx hb hts hiX4 hown hK.1 hP 0 rfl rfl 1 (by decide) hf0 (fun _ h9 => h9) rfl dX4_earliestEnd_7 ?_
      refine va_getN (D := g.1) (ci := 1) (v := .int (nI nw)) (C := RX1) (T := TX1) (N := 8) (host := RX4) (ref := RX1) hx hb hts hiX1 hown hK.1 hP 1 rfl rfl 7 (by decide) (va_Nw.use rfl (hK.2.1 (.fieldLinkNest RX4 259 RX1 "works" "I" RX4) (by decide +kernel))) (fun _ h9 => h9) rfl dX4_earliestEnd_10 ?_
      refine zz_icmp_ge (tgt := 92) hx hb dX4_earliestEnd_13 (by decide) (zi_n i) (zi_n nw) (by omega) (by omega) (fun c_1 => ?_) (fun c_1 => ?_)
      · refine lv_iload_n hx hb dX4_earliestEnd_92 rfl (lv_at hl 2 rfl) ?_
        exact hret 93 _ _ _ (zNo (zEw kp to se k i)) () dX4_earliestEnd_93 rfl hP hD hS (show (zNo (zEw kp to se k i)) = zNo (zEw kp to se k nw) from by rw [show i = nw by omega])
      · have hcut43 : ∀ (a : Nat) (H : Heap) (locs : List Loc) (ls : Array Slot), ((zbit k i = 1 ∧ a = se (k - 2 ^ i)) ∨ (zbit k i = 0 ∧ a = 241)) → va_P g.1 vwCl [(C, .inr (4, [.ref X, .ref P, .ref O, .ref T, .ref U, .ref V, .ref Y, .ref S, .ref D, .ref E, .int hg, .int (nI k0), .int (nI k1), .long tr])), (P, .inr (1, [.ref Pa, .ref Pb, .ref Pc, .ref Pd, .int (nI hs), .int (nI np), .int (nI nm), .int (nI nw)])), (Pd, .inl (g.2.1.1, 18, .inl (zf kp))), (D, .inl (g.2.1.1, 241, .inl (zf to))), (E, .inl (g.2.1.1, 64, .inl (zg se)))] H → va_D A [(C, .inr (4, [.ref X, .ref P, .ref O, .ref T, .ref U, .ref V, .ref Y, .ref S, .ref D, .ref E, .int hg, .int (nI k0), .int (nI k1), .long tr])), (P, .inr (1, [.ref Pa, .ref Pb, .ref Pc, .ref Pd, .int (nI hs), .int (nI np), .int (nI nm), .int (nI nw)])), (Pd, .inl (g.2.1.1, 18, .inl (zf kp))), (D, .inl (g.2.1.1, 241, .inl (zf to))), (E, .inl (g.2.1.1, 64, .inl (zg se)))] → va_S A s.heap H locs → lv_has ls 6 [(0, .ref C), (1, .int (nI k)), (2, .int (zNo (zEw kp to se k i))), (3, .int (nI i)), (4, .int (zNo a))] → W pP l eE { frames := 2, cells := 0, slots := 0, locals := 48 } s mM ([.ref C, .int (nI k)] : List Value).toArray below meth cC H locs 0 0 Q (F0 mM 43 ls []) := by
          intro a H locs ls ha hP hD hS hl
          have haz := zOi_s a
          have hcut64 : ∀ (d : Nat) (H : Heap) (locs : List Loc) (ls : Array Slot), ((zbit k i = 1 ∧ d = (if se (k - 2 ^ i) < 241 then zEnd kp to i (se (k - 2 ^ i)) else 241)) ∨ (zbit k i = 0 ∧ d = 241)) → va_P g.1 vwCl [(C, .inr (4, [.ref X, .ref P, .ref O, .ref T, .ref U, .ref V, .ref Y, .ref S, .ref D, .ref E, .int hg, .int (nI k0), .int (nI k1), .long tr])), (P, .inr (1, [.ref Pa, .ref Pb, .ref Pc, .ref Pd, .int (nI hs), .int (nI np), .int (nI nm), .int (nI nw)])), (Pd, .inl (g.2.1.1, 18, .inl (zf kp))), (D, .inl (g.2.1.1, 241, .inl (zf to))), (E, .inl (g.2.1.1, 64, .inl (zg se)))] H → va_D A [(C, .inr (4, [.ref X, .ref P, .ref O, .ref T, .ref U, .ref V, .ref Y, .ref S, .ref D, .ref E, .int hg, .int (nI k0), .int (nI k1), .long tr])), (P, .inr (1, [.ref Pa, .ref Pb, .ref Pc, .ref Pd, .int (nI hs), .int (nI np), .int (nI nm), .int (nI nw)])), (Pd, .inl (g.2.1.1, 18, .inl (zf kp))), (D, .inl (g.2.1.1, 241, .inl (zf to))), (E, .inl (g.2.1.1, 64, .inl (zg se)))] → va_S A s.heap H locs → lv_has ls 6 [(0, .ref C), (1, .int (nI k)), (2, .int (zNo (zEw kp to se k i))), (3, .int (nI i)), (4, .int (zNo a)), (5, .int (zNo d))] → W pP l eE { frames := 2, cells := 0, slots := 0, locals := 48 } s mM ([.ref C, .int (nI k)] : List Value).toArray below meth cC H locs 0 0 Q (F0 mM 64 ls []) := by
            intro d H locs ls hd hP hD hS hl
            have hdz := zOi_s d
            refine lv_iload hx hb dX4_earliestEnd_64 (lv_at hl 5 rfl) ?_
            refine lv_bipush (v := (-9)) hx hb dX4_earliestEnd_66 (by decide) ?_
            refine zz_icmp_eq (tgt := 86) hx hb dX4_earliestEnd_68 (by decide) (zNo_z d) (zi_c (-9) rfl) (by omega) (by omega) (fun c_2 => ?_) (fun c_2 => ?_)
            · refine lv_iinc (v := nI (i + 1)) (lv' := [(3, .int (nI (i + 1))), (0, .ref C), (1, .int (nI k)), (2, .int (zNo (zEw kp to se k i))), (4, .int (zNo a)), (5, .int (zNo d))]) hx hb dX4_earliestEnd_86 hl (k := 3) rfl (zi_eq (zi_add (zi_n i) (zi_c 1 rfl)) (zi_n (i + 1)) (by omega)) (by decide) rfl (fun ls hl => ?_)
              refine lv_goto (tgt := 5) hx hb dX4_earliestEnd_89 (by decide) ?_
              have eq_3 : zNo (zEw kp to se k i) = zNo (zEw kp to se k (i + 1)) := by (rcases hd with ⟨hd1, hd2⟩ | ⟨hd1, hd2⟩; (rw [zEw, if_pos hd1, ← hd2]; exact zEw_m (by omega)); (rw [zEw, if_neg (by omega)] <;> first | rfl | (exfalso; omega)))
              have hl : lv_has ls 6 [(3, .int (nI (i + 1))), (0, .ref C), (1, .int (nI k)), (2, .int (zNo (zEw kp to se k (i + 1)))), (4, .int (zNo a)), (5, .int (zNo d))] := Eq.mp (congrArg (fun z => lv_has ls 6 [(3, .int (nI (i + 1))), (0, .ref C), (1, .int (nI k)), (2, .int (z)), (4, .int (zNo a)), (5, .int (zNo d))]) eq_3) hl
              exact ih5 (i + 1) _ _ _ (show (i + 1) ≤ nw from by omega) (by omega) hP hD hS (lv_sub hl [1, 2, 3, 0] rfl)
            · refine lv_iload_n hx hb dX4_earliestEnd_71 rfl (lv_at hl 2 rfl) ?_
              refine lv_bipush (v := (-9)) hx hb dX4_earliestEnd_72 (by decide) ?_
              refine zz_icmp_eq (tgt := 83) hx hb dX4_earliestEnd_74 (by decide) (zNo_z (zEw kp to se k i)) (zi_c (-9) rfl) (by omega) (by omega) (fun c_4 => ?_) (fun c_4 => ?_)
              · refine lv_iload hx hb dX4_earliestEnd_83 (lv_at hl 5 rfl) ?_
                refine lv_istore_n (lv' := [(2, .int (zNo d)), (0, .ref C), (1, .int (nI k)), (3, .int (nI i)), (4, .int (zNo a)), (5, .int (zNo d))]) hx hb dX4_earliestEnd_85 rfl hl (by decide) rfl (fun ls hl => ?_)
                refine lv_iinc (v := nI (i + 1)) (lv' := [(3, .int (nI (i + 1))), (2, .int (zNo d)), (0, .ref C), (1, .int (nI k)), (4, .int (zNo a)), (5, .int (zNo d))]) hx hb dX4_earliestEnd_86 hl (k := 3) rfl (zi_eq (zi_add (zi_n i) (zi_c 1 rfl)) (zi_n (i + 1)) (by omega)) (by decide) rfl (fun ls hl => ?_)
                refine lv_goto (tgt := 5) hx hb dX4_earliestEnd_89 (by decide) ?_
                have eq_5 : zNo d = zNo (zEw kp to se k (i + 1)) := by (rcases hd with ⟨hd1, hd2⟩ | ⟨hd1, hd2⟩; (rw [zEw, if_pos hd1, ← hd2]; exact zEw_m (by omega)); (rw [zEw, if_neg (by omega)] <;> first | rfl | (exfalso; omega)))
                have hl : lv_has ls 6 [(3, .int (nI (i + 1))), (2, .int (zNo (zEw kp to se k (i + 1)))), (0, .ref C), (1, .int (nI k)), (4, .int (zNo a)), (5, .int (zNo d))] := Eq.mp (congrArg (fun z => lv_has ls 6 [(3, .int (nI (i + 1))), (2, .int (z)), (0, .ref C), (1, .int (nI k)), (4, .int (zNo a)), (5, .int (zNo d))]) eq_5) hl
                exact ih5 (i + 1) _ _ _ (show (i + 1) ≤ nw from by omega) (by omega) hP hD hS (lv_sub hl [2, 3, 1, 0] rfl)
              · refine lv_iload hx hb dX4_earliestEnd_77 (lv_at hl 5 rfl) ?_
                refine lv_iload_n hx hb dX4_earliestEnd_79 rfl (lv_at hl 2 rfl) ?_
                refine zz_icmp_ge (tgt := 86) hx hb dX4_earliestEnd_80 (by decide) (zNo_z d) (zNo_z (zEw kp to se k i)) (by omega) (by omega) (fun c_6 => ?_) (fun c_6 => ?_)
                · refine lv_iinc (v := nI (i + 1)) (lv' := [(3, .int (nI (i + 1))), (0, .ref C), (1, .int (nI k)), (2, .int (zNo (zEw kp to se k i))), (4, .int (zNo a)), (5, .int (zNo d))]) hx hb dX4_earliestEnd_86 hl (k := 3) rfl (zi_eq (zi_add (zi_n i) (zi_c 1 rfl)) (zi_n (i + 1)) (by omega)) (by decide) rfl (fun ls hl => ?_)
                  refine lv_goto (tgt := 5) hx hb dX4_earliestEnd_89 (by decide) ?_
                  have eq_7 : zNo (zEw kp to se k i) = zNo (zEw kp to se k (i + 1)) := by (rcases hd with ⟨hd1, hd2⟩ | ⟨hd1, hd2⟩; (rw [zEw, if_pos hd1, ← hd2]; exact zEw_m (by omega)); (rw [zEw, if_neg (by omega)] <;> first | rfl | (exfalso; omega)))
                  have hl : lv_has ls 6 [(3, .int (nI (i + 1))), (0, .ref C), (1, .int (nI k)), (2, .int (zNo (zEw kp to se k (i + 1)))), (4, .int (zNo a)), (5, .int (zNo d))] := Eq.mp (congrArg (fun z => lv_has ls 6 [(3, .int (nI (i + 1))), (0, .ref C), (1, .int (nI k)), (2, .int (z)), (4, .int (zNo a)), (5, .int (zNo d))]) eq_7) hl
                  exact ih5 (i + 1) _ _ _ (show (i + 1) ≤ nw from by omega) (by omega) hP hD hS (lv_sub hl [1, 2, 3, 0] rfl)
                · refine lv_iload hx hb dX4_earliestEnd_83 (lv_at hl 5 rfl) ?_
                  refine lv_istore_n (lv' := [(2, .int (zNo d)), (0, .ref C), (1, .int (nI k)), (3, .int (nI i)), (4, .int (zNo a)), (5, .int (zNo d))]) hx hb dX4_earliestEnd_85 rfl hl (by decide) rfl (fun ls hl => ?_)
                  refine lv_iinc (v := nI (i + 1)) (lv' := [(3, .int (nI (i + 1))), (2, .int (zNo d)), (0, .ref C), (1, .int (nI k)), (4, .int (zNo a)), (5, .int (zNo d))]) hx hb dX4_earliestEnd_86 hl (k := 3) rfl (zi_eq (zi_add (zi_n i) (zi_c 1 rfl)) (zi_n (i + 1)) (by omega)) (by decide) rfl (fun ls hl => ?_)
                  refine lv_goto (tgt := 5) hx hb dX4_earliestEnd_89 (by decide) ?_
                  have eq_8 : zNo d = zNo (zEw kp to se k (i + 1)) := by (rcases hd with ⟨hd1, hd2⟩ | ⟨hd1, hd2⟩; (rw [zEw, if_pos hd1, ← hd2]; exact zEw_m (by omega)); (rw [zEw, if_neg (by omega)] <;> first | rfl | (exfalso; omega)))
                  have hl : lv_has ls 6 [(3, .int (nI (i + 1))), (2, .int (zNo (zEw kp to se k (i + 1)))), (0, .ref C), (1, .int (nI k)), (4, .int (zNo a)), (5, .int (zNo d))] := Eq.mp (congrArg (fun z => lv_has ls 6 [(3, .int (nI (i + 1))), (2, .int (z)), (0, .ref C), (1, .int (nI k)), (4, .int (zNo a)), (5, .int (zNo d))]) eq_8) hl
                  exact ih5 (i + 1) _ _ _ (show (i + 1) ≤ nw from by omega) (by omega) hP hD hS (lv_sub hl [2, 3, 1, 0] rfl)
          refine lv_iload hx hb dX4_earliestEnd_43 (lv_at hl 4 rfl) ?_
          refine lv_bipush (v := (-9)) hx hb dX4_earliestEnd_45 (by decide) ?_
          refine zz_icmp_ne (tgt := 55) hx hb dX4_earliestEnd_47 (by decide) (zNo_z a) (zi_c (-9) rfl) (by omega) (by omega) (fun c_9 => ?_) (fun c_9 => ?_)
          · refine lv_aload_n hx hb dX4_earliestEnd_55 rfl (lv_at hl 0 rfl) ?_
            refine lv_iload_n hx hb dX4_earliestEnd_56 rfl (lv_at hl 3 rfl) ?_
            refine lv_iload hx hb dX4_earliestEnd_57 (lv_at hl 4 rfl) ?_
            refine zz_st (st2 := [.int (nI (((zOi a)).toNat)), .int (nI i), .ref C]) (congrArg (fun z : Int32 => ([.int z, .int (nI i), .ref C] : List Value)) (show zNo a = nI (((zOi a)).toNat) from (zi_eq (zNo_z a) (zi_n (((zOi a)).toNat)) (by omega)))) ?_
            refine zz_callI (wr := [(E, .inl (g.2.1.1, 64, .inl (zg se)))]) (wc := [(C, .inr (4, [.ref X, .ref P, .ref O, .ref T, .ref U, .ref V, .ref Y, .ref S, .ref D, .ref E, .int hg, .int (nI k0), .int (nI k1), .long tr])), (P, .inr (1, [.ref Pa, .ref Pb, .ref Pc, .ref Pd, .int (nI hs), .int (nI np), .int (nI nm), .int (nI nw)])), (Pd, .inl (g.2.1.1, 18, .inl (zf kp))), (D, .inl (g.2.1.1, 241, .inl (zf to)))]) (As := [.int (nI i), .int (nI (((zOi a)).toNat))]) (rest := []) F hK hE hA hP hD hS (c_X4_workEnd l g (C := C) (X := X) (P := P) (O := O) (T := T) (U := U) (V := V) (Y := Y) (S := S) (D := D) (E := E) (hg := hg) (k0 := k0) (k1 := k1) (tr := tr) (Pa := Pa) (Pb := Pb) (Pc := Pc) (Pd := Pd) (hs := hs) (np := np) (nm := nm) (nw := nw) (kp := kp) (to := to) (w := i) (m := ((zOi a)).toNat) (hw := by first | assumption | omega) (hm := by omega) (hkp := by first | assumption | omega) (hto := by first | assumption | omega)) (cwV 2 hts gX4_earliestEnd_X4_workEnd rfl rfl rfl (by decide +kernel) ⟨Nat.le_of_ble_eq_true rfl, Nat.le_of_ble_eq_true rfl⟩) [0, 1, 2, 3] [4] rfl rfl (by decide) (by decide) (by decide) 4 0 rfl rfl rfl rfl rfl hl.1 (Nat.le_of_ble_eq_true rfl) dX4_earliestEnd_59 ⟨Nat.le_of_ble_eq_true rfl, Nat.le_of_ble_eq_true rfl⟩ (fun r_10 u_10 H locs hw hP hD hS => ?_)
            have hP : va_P g.1 vwCl [(E, .inl (g.2.1.1, 64, .inl (zg se))), (C, .inr (4, [.ref X, .ref P, .ref O, .ref T, .ref U, .ref V, .ref Y, .ref S, .ref D, .ref E, .int hg, .int (nI k0), .int (nI k1), .long tr])), (P, .inr (1, [.ref Pa, .ref Pb, .ref Pc, .ref Pd, .int (nI hs), .int (nI np), .int (nI nm), .int (nI nw)])), (Pd, .inl (g.2.1.1, 18, .inl (zf kp))), (D, .inl (g.2.1.1, 241, .inl (zf to)))] _ := hP
            have hD : va_D A [(E, .inl (g.2.1.1, 64, .inl (zg se))), (C, .inr (4, [.ref X, .ref P, .ref O, .ref T, .ref U, .ref V, .ref Y, .ref S, .ref D, .ref E, .int hg, .int (nI k0), .int (nI k1), .long tr])), (P, .inr (1, [.ref Pa, .ref Pb, .ref Pc, .ref Pd, .int (nI hs), .int (nI np), .int (nI nm), .int (nI nw)])), (Pd, .inl (g.2.1.1, 18, .inl (zf kp))), (D, .inl (g.2.1.1, 241, .inl (zf to)))] := hD
            have hr_10 := hw
            have hr_10 : r_10 = zNo (zEnd kp to i (((zOi a)).toNat)) := hr_10
            subst hr_10
            have hz_10 := zOi_s (zEnd kp to i (((zOi a)).toNat))
            refine lv_istore (lv' := [(5, .int (zNo (zEnd kp to i (((zOi a)).toNat)))), (0, .ref C), (1, .int (nI k)), (2, .int (zNo (zEw kp to se k i))), (3, .int (nI i)), (4, .int (zNo a))]) hx hb dX4_earliestEnd_62 hl (by decide) rfl (fun ls hl => ?_)
            have hP := hP.sub (ws' := [(C, .inr (4, [.ref X, .ref P, .ref O, .ref T, .ref U, .ref V, .ref Y, .ref S, .ref D, .ref E, .int hg, .int (nI k0), .int (nI k1), .long tr])), (P, .inr (1, [.ref Pa, .ref Pb, .ref Pc, .ref Pd, .int (nI hs), .int (nI np), .int (nI nm), .int (nI nw)])), (Pd, .inl (g.2.1.1, 18, .inl (zf kp))), (D, .inl (g.2.1.1, 241, .inl (zf to))), (E, .inl (g.2.1.1, 64, .inl (zg se)))]) [1, 2, 3, 4, 0] rfl
            have hD := hD.sub (ws' := [(C, .inr (4, [.ref X, .ref P, .ref O, .ref T, .ref U, .ref V, .ref Y, .ref S, .ref D, .ref E, .int hg, .int (nI k0), .int (nI k1), .long tr])), (P, .inr (1, [.ref Pa, .ref Pb, .ref Pc, .ref Pd, .int (nI hs), .int (nI np), .int (nI nm), .int (nI nw)])), (Pd, .inl (g.2.1.1, 18, .inl (zf kp))), (D, .inl (g.2.1.1, 241, .inl (zf to))), (E, .inl (g.2.1.1, 64, .inl (zg se)))]) [1, 2, 3, 4, 0] (by decide) rfl
            exact hcut64 (zEnd kp to i (((zOi a)).toNat)) _ _ _ (show (zbit k i = 1 ∧ (zEnd kp to i (((zOi a)).toNat)) = (if se (k - 2 ^ i) < 241 then zEnd kp to i (se (k - 2 ^ i)) else 241)) ∨ (zbit k i = 0 ∧ (zEnd kp to i (((zOi a)).toNat)) = 241) from by (rcases ha with ⟨ha1, ha2⟩ | ⟨ha1, ha2⟩ <;> first | exact Or.inr ⟨ha1, by omega⟩ | (refine Or.inl ⟨ha1, ?_⟩; first | (rw [if_neg (by omega)]; done) | (rw [if_pos (by omega), ← ha2, show (zOi a).toNat = a by omega]; done)) | (exfalso; omega))) hP hD hS (lv_sub hl [1, 2, 3, 4, 5, 0] rfl)
          · refine lv_bipush (v := (-9)) hx hb dX4_earliestEnd_50 (by decide) ?_
            refine lv_goto (tgt := 62) hx hb dX4_earliestEnd_52 (by decide) ?_
            refine lv_istore (lv' := [(5, .int (-9)), (0, .ref C), (1, .int (nI k)), (2, .int (zNo (zEw kp to se k i))), (3, .int (nI i)), (4, .int (zNo a))]) hx hb dX4_earliestEnd_62 hl (by decide) rfl (fun ls hl => ?_)
            exact hcut64 241 _ _ _ (show (zbit k i = 1 ∧ 241 = (if se (k - 2 ^ i) < 241 then zEnd kp to i (se (k - 2 ^ i)) else 241)) ∨ (zbit k i = 0 ∧ 241 = 241) from by (rcases ha with ⟨ha1, ha2⟩ | ⟨ha1, ha2⟩ <;> first | exact Or.inr ⟨ha1, by omega⟩ | (refine Or.inl ⟨ha1, ?_⟩; first | (rw [if_neg (by omega)]; done) | (rw [if_pos (by omega), ← ha2, show (zOi a).toNat = a by omega]; done)) | (exfalso; omega))) hP hD hS (lv_sub hl [1, 2, 3, 4, 5, 0] rfl)
        refine lv_iload_n hx hb dX4_earliestEnd_16 rfl (lv_at hl 1 rfl) ?_
        refine lv_iload_n hx hb dX4_earliestEnd_17 rfl (lv_at hl 3 rfl) ?_
        refine lv_ishr hx hb dX4_earliestEnd_18 ?_
        refine lv_iconst (v := 1) hx hb dX4_earliestEnd_19 (by decide) ?_
        refine lv_iand hx hb dX4_earliestEnd_20 ?_
        have hbl := zbit_lt k i
        refine zz_topi (y := nI (zbit k i)) (zi_bit (by omega) (by omega)) ?_
        refine lv_iconst (v := 1) hx hb dX4_earliestEnd_21 (by decide) ?_
        refine zz_icmp_ne (tgt := 39) hx hb dX4_earliestEnd_22 (by decide) (zi_n (zbit k i)) (zi_c 1 rfl) (by omega) (by omega) (fun c_11 => ?_) (fun c_11 => ?_)
        · refine lv_bipush (v := (-9)) hx hb dX4_earliestEnd_39 (by decide) ?_
          refine lv_istore (lv' := [(4, .int (-9)), (0, .ref C), (1, .int (nI k)), (2, .int (zNo (zEw kp to se k i))), (3, .int (nI i))]) hx hb dX4_earliestEnd_41 hl (by decide) rfl (fun ls hl => ?_)
          exact hcut43 241 _ _ _ (show (zbit k i = 1 ∧ 241 = se (k - 2 ^ i)) ∨ (zbit k i = 0 ∧ 241 = 241) from by omega) hP hD hS (lv_sub hl [1, 2, 3, 4, 0] rfl)
        · refine lv_aload_n hx hb dX4_earliestEnd_25 rfl (lv_at hl 0 rfl) ?_
          refine lv_iload_n hx hb dX4_earliestEnd_26 rfl (lv_at hl 1 rfl) ?_
          refine lv_iconst (v := 1) hx hb dX4_earliestEnd_27 (by decide) ?_
          refine lv_iload_n hx hb dX4_earliestEnd_28 rfl (lv_at hl 3 rfl) ?_
          refine lv_ishl hx hb dX4_earliestEnd_29 ?_
          refine zz_topi (y := nI (2 ^ i)) (zi_shl (by omega)) ?_
          refine lv_iconst (v := (-1)) hx hb dX4_earliestEnd_30 (by decide) ?_
          refine lv_ixor hx hb dX4_earliestEnd_31 ?_
          refine lv_iand hx hb dX4_earliestEnd_32 ?_
          have hpw := zbit_pw (s := k) (w := i) (by omega)
          refine zz_topi (y := nI (k - 2 ^ i)) (zi_clr (by omega) (by omega) (by omega)) ?_
          refine zz_callI (wr := [(P, .inr (1, [.ref Pa, .ref Pb, .ref Pc, .ref Pd, .int (nI hs), .int (nI np), .int (nI nm), .int (nI nw)])), (Pd, .inl (g.2.1.1, 18, .inl (zf kp))), (D, .inl (g.2.1.1, 241, .inl (zf to)))]) (wc := [(C, .inr (4, [.ref X, .ref P, .ref O, .ref T, .ref U, .ref V, .ref Y, .ref S, .ref D, .ref E, .int hg, .int (nI k0), .int (nI k1), .long tr])), (E, .inl (g.2.1.1, 64, .inl (zg se)))]) (As := [.int (nI (k - 2 ^ i))]) (rest := []) F hK hE hA hP hD hS (c_X4_endOfSet l g (C := C) (X := X) (P := P) (O := O) (T := T) (U := U) (V := V) (Y := Y) (S := S) (D := D) (E := E) (hg := hg) (k0 := k0) (k1 := k1) (tr := tr) (se := se) (k := (k - 2 ^ i)) (hk := by first | assumption | omega)) (cwV 1 hts gX4_earliestEnd_X4_endOfSet rfl rfl rfl (by decide +kernel) ⟨Nat.le_of_ble_eq_true rfl, Nat.le_of_ble_eq_true rfl⟩) [0, 4] [1, 2, 3] rfl rfl (by decide) (by decide) (by decide) 4 0 rfl rfl rfl rfl rfl hl.1 (Nat.le_of_ble_eq_true rfl) dX4_earliestEnd_33 ⟨Nat.le_of_ble_eq_true rfl, Nat.le_of_ble_eq_true rfl⟩ (fun r_12 u_12 H locs hw hP hD hS => ?_)
          have hP : va_P g.1 vwCl [(P, .inr (1, [.ref Pa, .ref Pb, .ref Pc, .ref Pd, .int (nI hs), .int (nI np), .int (nI nm), .int (nI nw)])), (Pd, .inl (g.2.1.1, 18, .inl (zf kp))), (D, .inl (g.2.1.1, 241, .inl (zf to))), (C, .inr (4, [.ref X, .ref P, .ref O, .ref T, .ref U, .ref V, .ref Y, .ref S, .ref D, .ref E, .int hg, .int (nI k0), .int (nI k1), .long tr])), (E, .inl (g.2.1.1, 64, .inl (zg se)))] _ := hP
          have hD : va_D A [(P, .inr (1, [.ref Pa, .ref Pb, .ref Pc, .ref Pd, .int (nI hs), .int (nI np), .int (nI nm), .int (nI nw)])), (Pd, .inl (g.2.1.1, 18, .inl (zf kp))), (D, .inl (g.2.1.1, 241, .inl (zf to))), (C, .inr (4, [.ref X, .ref P, .ref O, .ref T, .ref U, .ref V, .ref Y, .ref S, .ref D, .ref E, .int hg, .int (nI k0), .int (nI k1), .long tr])), (E, .inl (g.2.1.1, 64, .inl (zg se)))] := hD
          have hr_12 := hw
          have hr_12 : r_12 = zNo (se (k - 2 ^ i)) := hr_12
          subst hr_12
          have hz_12 := zOi_s (se (k - 2 ^ i))
          refine lv_goto (tgt := 41) hx hb dX4_earliestEnd_36 (by decide) ?_
          refine lv_istore (lv' := [(4, .int (zNo (se (k - 2 ^ i)))), (0, .ref C), (1, .int (nI k)), (2, .int (zNo (zEw kp to se k i))), (3, .int (nI i))]) hx hb dX4_earliestEnd_41 hl (by decide) rfl (fun ls hl => ?_)
          have hP := hP.sub (ws' := [(C, .inr (4, [.ref X, .ref P, .ref O, .ref T, .ref U, .ref V, .ref Y, .ref S, .ref D, .ref E, .int hg, .int (nI k0), .int (nI k1), .long tr])), (P, .inr (1, [.ref Pa, .ref Pb, .ref Pc, .ref Pd, .int (nI hs), .int (nI np), .int (nI nm), .int (nI nw)])), (Pd, .inl (g.2.1.1, 18, .inl (zf kp))), (D, .inl (g.2.1.1, 241, .inl (zf to))), (E, .inl (g.2.1.1, 64, .inl (zg se)))]) [3, 0, 1, 2, 4] rfl
          have hD := hD.sub (ws' := [(C, .inr (4, [.ref X, .ref P, .ref O, .ref T, .ref U, .ref V, .ref Y, .ref S, .ref D, .ref E, .int hg, .int (nI k0), .int (nI k1), .long tr])), (P, .inr (1, [.ref Pa, .ref Pb, .ref Pc, .ref Pd, .int (nI hs), .int (nI np), .int (nI nm), .int (nI nw)])), (Pd, .inl (g.2.1.1, 18, .inl (zf kp))), (D, .inl (g.2.1.1, 241, .inl (zf to))), (E, .inl (g.2.1.1, 64, .inl (zg se)))]) [3, 0, 1, 2, 4] (by decide) rfl
          exact hcut43 (se (k - 2 ^ i)) _ _ _ (show (zbit k i = 1 ∧ (se (k - 2 ^ i)) = se (k - 2 ^ i)) ∨ (zbit k i = 0 ∧ (se (k - 2 ^ i)) = 241) from by omega) hP hD hS (lv_sub hl [1, 2, 3, 4, 0] rfl)
  exact hcut5 ((nw - 0) + 1) 0 _ _ _ (show 0 ≤ nw from by omega) (by omega) hP hD hS (lv_sub hl [2, 3, 1, 0] rfl)

set_option maxHeartbeats 4000000 in
set_option maxRecDepth 100000 in
theorem c_X4_findSetEnds (l : Launch) (g : zG) (C X P O T U V Y S D E : Nat) (hg : Int32) (k0 k1 : Nat) (tr : Int64) (Pa Pb Pc Pd : Nat) (hs np nm nw : Nat) (kp : Nat → Nat) (to : Nat → Nat) (se : Nat → Nat) (hnw : nw ≤ 6) (hkp : ∀ k, kp k < 1000) (hto : ∀ k, to k < 10000000) : zV l yX4_findSetEnds wsX4_findSetEnds 3 73 0 0 g [.ref C] [(C, .inr (4, [.ref X, .ref P, .ref O, .ref T, .ref U, .ref V, .ref Y, .ref S, .ref D, .ref E, .int hg, .int (nI k0), .int (nI k1), .long tr])), (P, .inr (1, [.ref Pa, .ref Pb, .ref Pc, .ref Pd, .int (nI hs), .int (nI np), .int (nI nm), .int (nI nw)])), (Pd, .inl (g.2.1.1, 18, .inl (zf kp))), (D, .inl (g.2.1.1, 241, .inl (zf to))), (E, .inl (g.2.1.1, 64, .inl (zg se)))] (fun (u : Nat → Nat) => ∀ k, k < 2 ^ nw → u k = zEt kp to nw k) (fun (u : Nat → Nat) => [(C, .inr (4, [.ref X, .ref P, .ref O, .ref T, .ref U, .ref V, .ref Y, .ref S, .ref D, .ref E, .int hg, .int (nI k0), .int (nI k1), .long tr])), (P, .inr (1, [.ref Pa, .ref Pb, .ref Pc, .ref Pd, .int (nI hs), .int (nI np), .int (nI nm), .int (nI nw)])), (Pd, .inl (g.2.1.1, 18, .inl (zf kp))), (D, .inl (g.2.1.1, 241, .inl (zf to))), (E, .inl (g.2.1.1, 64, .inl (zg u)))]) := by
  refine zz_bodyV (cc := cX4_findSetEnds) (nL := 3) (own := RX4) (by decide) rfl rfl (Nat.le_of_ble_eq_true rfl) ?_
  intro pP eE s mM below meth cC A Q ls F hin hA hK hE hP hD hl hret
  have hS : va_S A s.heap s.heap [] := va_S.rf
  obtain ⟨hx, hb, hml, hown, hts⟩ := id F
  have hiX1 : ∀ w ∈ u_ws RX1 TX1 8, w ∈ wsX4_findSetEnds := by decide +kernel
  have hiX4 : ∀ w ∈ u_ws RX4 TX4 14, w ∈ wsX4_findSetEnds := by decide +kernel
  have hf0 := hts (.fieldLink RX4 19 "StepClock" "plan" "LStepClock$Plan;") (by decide +kernel)
  have hf1 := hts (.fieldLink RX4 53 "StepClock" "setEnds" "[I") (by decide +kernel)
  have hf2 := hts (.methodLink RX4 272 Lib.Math.min.name) (by decide +kernel)
  have hf3 := hts (.static Lib.Math.min.name) (by decide +kernel)
  have hf4 := hts (.initialized "java/lang/Math") (by decide +kernel)
  have hf5 := hts (.code Lib.Math.min.name Lib.Math.min.code 2 (some .int)) (by decide +kernel)
  have hl : lv_has ls 3 [(0, .ref C)] := hl
  refine lv_iconst (v := 1) hx hb dX4_findSetEnds_0 (by decide) ?_
  refine lv_aload_n hx hb dX4_findSetEnds_1 rfl (lv_at hl 0 rfl) ?_
  refine va_get (D := g.1) (ci := 4) (v := .ref P) (C := RX4) (T := TX4) (N := 14) hx hb hts hiX4 hown hK.1 hP 0 rfl rfl 1 (by decide) hf0 (fun _ h9 => h9) rfl dX4_findSetEnds_2 ?_
  refine va_getN (D := g.1) (ci := 1) (v := .int (nI nw)) (C := RX1) (T := TX1) (N := 8) (host := RX4) (ref := RX1) hx hb hts hiX1 hown hK.1 hP 1 rfl rfl 7 (by decide) (va_Nw.use rfl (hK.2.1 (.fieldLinkNest RX4 259 RX1 "works" "I" RX4) (by decide +kernel))) (fun _ h9 => h9) rfl dX4_findSetEnds_5 ?_
  refine lv_ishl hx hb dX4_findSetEnds_8 ?_
  refine zz_topi (y := nI (2 ^ nw)) (zi_shl (by omega)) ?_
  have hz6 := zp6 (np := nw) (by omega)
  refine lv_aload_n hx hb dX4_findSetEnds_9 rfl (lv_at hl 0 rfl) ?_
  refine va_get (D := g.1) (ci := 4) (v := .ref E) (C := RX4) (T := TX4) (N := 14) hx hb hts hiX4 hown hK.1 hP 0 rfl rfl 9 (by decide) hf1 (fun _ h9 => h9) rfl dX4_findSetEnds_10 ?_
  refine va_alen hx hb hK.1 hP 4 0 (v := 64) rfl rfl rfl dX4_findSetEnds_13 ?_
  refine va_mmin hx hb (by rw [hml]; exact hl.1.symm) hown hf2 hf3 hf4 hf5 (Nat.le_of_ble_eq_true rfl) (Nat.le_of_ble_eq_true rfl) (by decide) (by decide) dX4_findSetEnds_14 ?_
  refine zz_topi (y := nI (2 ^ nw)) (zMin64 (by omega)) ?_
  refine lv_istore_n (lv' := [(1, .int (nI (2 ^ nw))), (0, .ref C)]) hx hb dX4_findSetEnds_17 rfl hl (by decide) rfl (fun ls hl => ?_)
  refine lv_iconst (v := 0) hx hb dX4_findSetEnds_18 (by decide) ?_
  refine lv_istore_n (lv' := [(2, .int 0), (1, .int (nI (2 ^ nw))), (0, .ref C)]) hx hb dX4_findSetEnds_19 rfl hl (by decide) rfl (fun ls hl => ?_)
  have hcut20 : ∀ (fu : Nat) (i : Nat) (s8 : Nat → Nat) (H : Heap) (locs : List Loc) (ls : Array Slot), (i ≤ 2 ^ nw) → (∀ k, k < i → s8 k = zEt kp to nw k) → (2 ^ nw - i) < fu → va_P g.1 vwCl [(C, .inr (4, [.ref X, .ref P, .ref O, .ref T, .ref U, .ref V, .ref Y, .ref S, .ref D, .ref E, .int hg, .int (nI k0), .int (nI k1), .long tr])), (P, .inr (1, [.ref Pa, .ref Pb, .ref Pc, .ref Pd, .int (nI hs), .int (nI np), .int (nI nm), .int (nI nw)])), (Pd, .inl (g.2.1.1, 18, .inl (zf kp))), (D, .inl (g.2.1.1, 241, .inl (zf to))), (E, .inl (g.2.1.1, 64, .inl (zg s8)))] H → va_D A [(C, .inr (4, [.ref X, .ref P, .ref O, .ref T, .ref U, .ref V, .ref Y, .ref S, .ref D, .ref E, .int hg, .int (nI k0), .int (nI k1), .long tr])), (P, .inr (1, [.ref Pa, .ref Pb, .ref Pc, .ref Pd, .int (nI hs), .int (nI np), .int (nI nm), .int (nI nw)])), (Pd, .inl (g.2.1.1, 18, .inl (zf kp))), (D, .inl (g.2.1.1, 241, .inl (zf to))), (E, .inl (g.2.1.1, 64, .inl (zg s8)))] → va_S A s.heap H locs → lv_has ls 3 [(0, .ref C), (1, .int (nI (2 ^ nw))), (2, .int (nI i))] → W pP l eE { frames := 3, cells := 0, slots := 0, locals := 73 } s mM ([.ref C] : List Value).toArray below meth cC H locs 0 0 Q (F0 mM 20 ls []) := by
    intro fu
    induction fu with
    | zero =>
      intro i s8 H locs ls hi hs8 hm
      exact absurd hm (Nat.not_lt_zero _)
    | succ fu ih20 =>
      intro i s8 H locs ls hi hs8 hm hP hD hS hl
      have hz6 := zp6 (np := nw) (by omega)
      refine lv_iload_n hx hb dX4_findSetEnds_20 rfl (lv_at hl 2 rfl) ?_
      refine lv_iload_n hx hb dX4_findSetEnds_21 rfl (lv_at hl 1 rfl) ?_
      refine zz_icmp_ge (tgt := 50) hx hb dX4_findSetEnds_22 (by decide) (zi_n i) (zi_n (2 ^ nw)) (by omega) (by omega) (fun c_1 => ?_) (fun c_1 => ?_)
      · exact hret 50 _ _ _ s8 dX4_findSetEnds_50 hP hD hS (show ∀ k, k < 2 ^ nw → s8 k = zEt kp to nw k from by exact fun k q => hs8 k (by omega))
      · refine lv_aload_n hx hb dX4_findSetEnds_25 rfl (lv_at hl 0 rfl) ?_
        refine va_get (D := g.1) (ci := 4) (v := .ref E) (C := RX4) (T := TX4) (N := 14) hx hb hts hiX4 hown hK.1 hP 0 rfl rfl 9 (by decide) hf1 (fun _ h9 => h9) rfl dX4_findSetEnds_26 ?_
        refine lv_iload_n hx hb dX4_findSetEnds_29 rfl (lv_at hl 2 rfl) ?_
        refine lv_iload_n hx hb dX4_findSetEnds_30 rfl (lv_at hl 2 rfl) ?_
        refine zz_if_ne (tgt := 38) hx hb dX4_findSetEnds_31 (by decide) (zi_n i) (by omega) (fun c_2 => ?_) (fun c_2 => ?_)
        · refine lv_aload_n hx hb dX4_findSetEnds_38 rfl (lv_at hl 0 rfl) ?_
          refine lv_iload_n hx hb dX4_findSetEnds_39 rfl (lv_at hl 2 rfl) ?_
          refine zz_callI (wr := []) (wc := [(C, .inr (4, [.ref X, .ref P, .ref O, .ref T, .ref U, .ref V, .ref Y, .ref S, .ref D, .ref E, .int hg, .int (nI k0), .int (nI k1), .long tr])), (P, .inr (1, [.ref Pa, .ref Pb, .ref Pc, .ref Pd, .int (nI hs), .int (nI np), .int (nI nm), .int (nI nw)])), (Pd, .inl (g.2.1.1, 18, .inl (zf kp))), (D, .inl (g.2.1.1, 241, .inl (zf to))), (E, .inl (g.2.1.1, 64, .inl (zg s8)))]) (As := [.int (nI i)]) (rest := [.int (nI i), .ref E]) F hK hE hA hP hD hS (c_X4_earliestEnd l g (C := C) (X := X) (P := P) (O := O) (T := T) (U := U) (V := V) (Y := Y) (S := S) (D := D) (E := E) (hg := hg) (k0 := k0) (k1 := k1) (tr := tr) (Pa := Pa) (Pb := Pb) (Pc := Pc) (Pd := Pd) (hs := hs) (np := np) (nm := nm) (nw := nw) (kp := kp) (to := to) (se := s8) (k := i) (hnw := by first | assumption | omega) (hkp := by first | assumption | omega) (hto := by first | assumption | omega) (hk := by first | assumption | omega)) (cwV 1 hts gX4_findSetEnds_X4_earliestEnd rfl rfl rfl (by decide +kernel) ⟨Nat.le_of_ble_eq_true rfl, Nat.le_of_ble_eq_true rfl⟩) [0, 1, 2, 3, 4] [] rfl rfl (by decide) (by decide) (by decide) 4 0 rfl rfl rfl rfl rfl hl.1 (Nat.le_of_ble_eq_true rfl) dX4_findSetEnds_40 ⟨Nat.le_of_ble_eq_true rfl, Nat.le_of_ble_eq_true rfl⟩ (fun r_3 u_3 H locs hw hP hD hS => ?_)
          have hP : va_P g.1 vwCl [(C, .inr (4, [.ref X, .ref P, .ref O, .ref T, .ref U, .ref V, .ref Y, .ref S, .ref D, .ref E, .int hg, .int (nI k0), .int (nI k1), .long tr])), (P, .inr (1, [.ref Pa, .ref Pb, .ref Pc, .ref Pd, .int (nI hs), .int (nI np), .int (nI nm), .int (nI nw)])), (Pd, .inl (g.2.1.1, 18, .inl (zf kp))), (D, .inl (g.2.1.1, 241, .inl (zf to))), (E, .inl (g.2.1.1, 64, .inl (zg s8)))] _ := hP
          have hD : va_D A [(C, .inr (4, [.ref X, .ref P, .ref O, .ref T, .ref U, .ref V, .ref Y, .ref S, .ref D, .ref E, .int hg, .int (nI k0), .int (nI k1), .long tr])), (P, .inr (1, [.ref Pa, .ref Pb, .ref Pc, .ref Pd, .int (nI hs), .int (nI np), .int (nI nm), .int (nI nw)])), (Pd, .inl (g.2.1.1, 18, .inl (zf kp))), (D, .inl (g.2.1.1, 241, .inl (zf to))), (E, .inl (g.2.1.1, 64, .inl (zg s8)))] := hD
          have hr_3 := hw
          have hr_3 : r_3 = zNo (zEw kp to s8 i nw) := hr_3
          subst hr_3
          have hz_3 := zOi_s (zEw kp to s8 i nw)
          refine zz_iast hx hb hK.1 hP hD hS 4 0 rfl rfl i rfl (by omega) (by decide) dX4_findSetEnds_43 (fun H locs hP hD hS => ?_)
          have hP : va_P g.1 vwCl [(C, .inr (4, [.ref X, .ref P, .ref O, .ref T, .ref U, .ref V, .ref Y, .ref S, .ref D, .ref E, .int hg, .int (nI k0), .int (nI k1), .long tr])), (P, .inr (1, [.ref Pa, .ref Pb, .ref Pc, .ref Pd, .int (nI hs), .int (nI np), .int (nI nm), .int (nI nw)])), (Pd, .inl (g.2.1.1, 18, .inl (zf kp))), (D, .inl (g.2.1.1, 241, .inl (zf to))), (E, .inl (g.2.1.1, 64, .inl (upd (zg s8) i (zNo (zEw kp to s8 i nw)))))] _ := hP
          have hD : va_D A [(C, .inr (4, [.ref X, .ref P, .ref O, .ref T, .ref U, .ref V, .ref Y, .ref S, .ref D, .ref E, .int hg, .int (nI k0), .int (nI k1), .long tr])), (P, .inr (1, [.ref Pa, .ref Pb, .ref Pc, .ref Pd, .int (nI hs), .int (nI np), .int (nI nm), .int (nI nw)])), (Pd, .inl (g.2.1.1, 18, .inl (zf kp))), (D, .inl (g.2.1.1, 241, .inl (zf to))), (E, .inl (g.2.1.1, 64, .inl (upd (zg s8) i (zNo (zEw kp to s8 i nw)))))] := hD
          rw [zg_upd] at hP hD
          refine lv_iinc (v := nI (i + 1)) (lv' := [(2, .int (nI (i + 1))), (0, .ref C), (1, .int (nI (2 ^ nw)))]) hx hb dX4_findSetEnds_44 hl (k := 2) rfl (zi_eq (zi_add (zi_n i) (zi_c 1 rfl)) (zi_n (i + 1)) (by omega)) (by decide) rfl (fun ls hl => ?_)
          refine lv_goto (tgt := 20) hx hb dX4_findSetEnds_47 (by decide) ?_
          exact ih20 (i + 1) (zu s8 i (zEw kp to s8 i nw)) _ _ _ (show (i + 1) ≤ 2 ^ nw from by omega) (show ∀ k, k < (i + 1) → (zu s8 i (zEw kp to s8 i nw)) k = zEt kp to nw k from by (first | exact zEt_s0 hs8 (by omega) | exact zEt_ss hs8 (by omega) (by omega))) (by omega) hP hD hS (lv_sub hl [1, 2, 0] rfl)
        · refine lv_iconst (v := 0) hx hb dX4_findSetEnds_34 (by decide) ?_
          refine lv_goto (tgt := 43) hx hb dX4_findSetEnds_35 (by decide) ?_
          refine zz_iast hx hb hK.1 hP hD hS 4 0 rfl rfl i rfl (by omega) (by decide) dX4_findSetEnds_43 (fun H locs hP hD hS => ?_)
          have hP : va_P g.1 vwCl [(C, .inr (4, [.ref X, .ref P, .ref O, .ref T, .ref U, .ref V, .ref Y, .ref S, .ref D, .ref E, .int hg, .int (nI k0), .int (nI k1), .long tr])), (P, .inr (1, [.ref Pa, .ref Pb, .ref Pc, .ref Pd, .int (nI hs), .int (nI np), .int (nI nm), .int (nI nw)])), (Pd, .inl (g.2.1.1, 18, .inl (zf kp))), (D, .inl (g.2.1.1, 241, .inl (zf to))), (E, .inl (g.2.1.1, 64, .inl (upd (zg s8) i (zNo 0))))] _ := hP
          have hD : va_D A [(C, .inr (4, [.ref X, .ref P, .ref O, .ref T, .ref U, .ref V, .ref Y, .ref S, .ref D, .ref E, .int hg, .int (nI k0), .int (nI k1), .long tr])), (P, .inr (1, [.ref Pa, .ref Pb, .ref Pc, .ref Pd, .int (nI hs), .int (nI np), .int (nI nm), .int (nI nw)])), (Pd, .inl (g.2.1.1, 18, .inl (zf kp))), (D, .inl (g.2.1.1, 241, .inl (zf to))), (E, .inl (g.2.1.1, 64, .inl (upd (zg s8) i (zNo 0))))] := hD
          rw [zg_upd] at hP hD
          refine lv_iinc (v := nI (i + 1)) (lv' := [(2, .int (nI (i + 1))), (0, .ref C), (1, .int (nI (2 ^ nw)))]) hx hb dX4_findSetEnds_44 hl (k := 2) rfl (zi_eq (zi_add (zi_n i) (zi_c 1 rfl)) (zi_n (i + 1)) (by omega)) (by decide) rfl (fun ls hl => ?_)
          refine lv_goto (tgt := 20) hx hb dX4_findSetEnds_47 (by decide) ?_
          exact ih20 (i + 1) (zu s8 i 0) _ _ _ (show (i + 1) ≤ 2 ^ nw from by omega) (show ∀ k, k < (i + 1) → (zu s8 i 0) k = zEt kp to nw k from by (first | exact zEt_s0 hs8 (by omega) | exact zEt_ss hs8 (by omega) (by omega))) (by omega) hP hD hS (lv_sub hl [1, 2, 0] rfl)
  exact hcut20 ((2 ^ nw - 0) + 1) 0 se _ _ _ (show 0 ≤ 2 ^ nw from by omega) (show ∀ k, k < 0 → se k = zEt kp to nw k from by exact fun k q => absurd q (Nat.not_lt_zero k)) (by omega) hP hD hS (lv_sub hl [2, 1, 0] rfl)

set_option maxHeartbeats 4000000 in
set_option maxRecDepth 100000 in
theorem c_X4_worthOf (l : Launch) (g : zG) (C X P O T U V Y S D E : Nat) (hg : Int32) (k0 k1 : Nat) (tr : Int64) (Pa Pb Pc Pd : Nat) (hs np nm nw : Nat) (kp : Nat → Nat) (k : Nat) (hnw : nw ≤ 6) (hkp : ∀ k, kp k < 1000) (hk : k < 64) : zI l yX4_worthOf wsX4_worthOf 1 23 g [.ref C, .int (nI k)] [(C, .inr (4, [.ref X, .ref P, .ref O, .ref T, .ref U, .ref V, .ref Y, .ref S, .ref D, .ref E, .int hg, .int (nI k0), .int (nI k1), .long tr])), (P, .inr (1, [.ref Pa, .ref Pb, .ref Pc, .ref Pd, .int (nI hs), .int (nI np), .int (nI nm), .int (nI nw)])), (Pd, .inl (g.2.1.1, 18, .inl (zf kp)))] (fun (r : Int32) (u : Unit) => r = nI (zWo kp k nw)) (fun (u : Unit) => [(C, .inr (4, [.ref X, .ref P, .ref O, .ref T, .ref U, .ref V, .ref Y, .ref S, .ref D, .ref E, .int hg, .int (nI k0), .int (nI k1), .long tr])), (P, .inr (1, [.ref Pa, .ref Pb, .ref Pc, .ref Pd, .int (nI hs), .int (nI np), .int (nI nm), .int (nI nw)])), (Pd, .inl (g.2.1.1, 18, .inl (zf kp)))]) := by
  refine zz_bodyI (cc := cX4_worthOf) (nL := 4) (own := RX4) (ty := .int) (by decide) rfl rfl (Nat.le_of_ble_eq_true rfl) ?_
  intro pP eE s mM below meth cC A Q ls F hA hK hE hP hD hl hret
  have hS : va_S A s.heap s.heap [] := va_S.rf
  obtain ⟨hx, hb, hml, hown, hts⟩ := id F
  have hiX1 : ∀ w ∈ u_ws RX1 TX1 8, w ∈ wsX4_worthOf := by decide +kernel
  have hiX4 : ∀ w ∈ u_ws RX4 TX4 14, w ∈ wsX4_worthOf := by decide +kernel
  have hf0 := hts (.fieldLink RX4 19 "StepClock" "plan" "LStepClock$Plan;") (by decide +kernel)
  have hl : lv_has ls 4 [(0, .ref C), (1, .int (nI k))] := hl
  refine lv_iconst (v := 0) hx hb dX4_worthOf_0 (by decide) ?_
  refine lv_istore_n (lv' := [(2, .int 0), (0, .ref C), (1, .int (nI k))]) hx hb dX4_worthOf_1 rfl hl (by decide) rfl (fun ls hl => ?_)
  refine lv_iconst (v := 0) hx hb dX4_worthOf_2 (by decide) ?_
  refine lv_istore_n (lv' := [(3, .int 0), (2, .int 0), (0, .ref C), (1, .int (nI k))]) hx hb dX4_worthOf_3 rfl hl (by decide) rfl (fun ls hl => ?_)
  have hcut4 : ∀ (fu : Nat) (i : Nat) (H : Heap) (locs : List Loc) (ls : Array Slot), (i ≤ nw) → (nw - i) < fu → va_P g.1 vwCl [(C, .inr (4, [.ref X, .ref P, .ref O, .ref T, .ref U, .ref V, .ref Y, .ref S, .ref D, .ref E, .int hg, .int (nI k0), .int (nI k1), .long tr])), (P, .inr (1, [.ref Pa, .ref Pb, .ref Pc, .ref Pd, .int (nI hs), .int (nI np), .int (nI nm), .int (nI nw)])), (Pd, .inl (g.2.1.1, 18, .inl (zf kp)))] H → va_D A [(C, .inr (4, [.ref X, .ref P, .ref O, .ref T, .ref U, .ref V, .ref Y, .ref S, .ref D, .ref E, .int hg, .int (nI k0), .int (nI k1), .long tr])), (P, .inr (1, [.ref Pa, .ref Pb, .ref Pc, .ref Pd, .int (nI hs), .int (nI np), .int (nI nm), .int (nI nw)])), (Pd, .inl (g.2.1.1, 18, .inl (zf kp)))] → va_S A s.heap H locs → lv_has ls 4 [(0, .ref C), (1, .int (nI k)), (2, .int (nI (zWo kp k i))), (3, .int (nI i))] → W pP l eE { frames := 1, cells := 0, slots := 0, locals := 23 } s mM ([.ref C, .int (nI k)] : List Value).toArray below meth cC H locs 0 0 Q (F0 mM 4 ls []) := by
    intro fu
    induction fu with
    | zero =>
      intro i H locs ls hi hm
      exact absurd hm (Nat.not_lt_zero _)
    | succ fu ih4 =>
      intro i H locs ls hi hm hP hD hS hl
      have hwo := zWo_le hkp k i
      refine lv_iload_n hx hb dX4_worthOf_4 rfl (lv_at hl 3 rfl) ?_
      refine lv_aload_n hx hb dX4_worthOf_5 rfl (lv_at hl 0 rfl) ?_
      refine va_get (D := g.1) (ci := 4) (v := .ref P) (C := RX4) (T := TX4) (N := 14) hx hb hts hiX4 hown hK.1 hP 0 rfl rfl 1 (by decide) hf0 (fun _ h9 => h9) rfl dX4_worthOf_6 ?_
      refine va_getN (D := g.1) (ci := 1) (v := .int (nI nw)) (C := RX1) (T := TX1) (N := 8) (host := RX4) (ref := RX1) hx hb hts hiX1 hown hK.1 hP 1 rfl rfl 7 (by decide) (va_Nw.use rfl (hK.2.1 (.fieldLinkNest RX4 259 RX1 "works" "I" RX4) (by decide +kernel))) (fun _ h9 => h9) rfl dX4_worthOf_9 ?_
      refine zz_icmp_ge (tgt := 42) hx hb dX4_worthOf_12 (by decide) (zi_n i) (zi_n nw) (by omega) (by omega) (fun c_1 => ?_) (fun c_1 => ?_)
      · refine lv_iload_n hx hb dX4_worthOf_42 rfl (lv_at hl 2 rfl) ?_
        exact hret 43 _ _ _ (nI (zWo kp k i)) () dX4_worthOf_43 rfl hP hD hS (show (nI (zWo kp k i)) = nI (zWo kp k nw) from by rw [show i = nw by omega])
      · refine lv_iload_n hx hb dX4_worthOf_15 rfl (lv_at hl 1 rfl) ?_
        refine lv_iload_n hx hb dX4_worthOf_16 rfl (lv_at hl 3 rfl) ?_
        refine lv_ishr hx hb dX4_worthOf_17 ?_
        refine lv_iconst (v := 1) hx hb dX4_worthOf_18 (by decide) ?_
        refine lv_iand hx hb dX4_worthOf_19 ?_
        have hbl := zbit_lt k i
        refine zz_topi (y := nI (zbit k i)) (zi_bit (by omega) (by omega)) ?_
        refine lv_iconst (v := 1) hx hb dX4_worthOf_20 (by decide) ?_
        refine zz_icmp_ne (tgt := 36) hx hb dX4_worthOf_21 (by decide) (zi_n (zbit k i)) (zi_c 1 rfl) (by omega) (by omega) (fun c_2 => ?_) (fun c_2 => ?_)
        · refine lv_iinc (v := nI (i + 1)) (lv' := [(3, .int (nI (i + 1))), (0, .ref C), (1, .int (nI k)), (2, .int (nI (zWo kp k i)))]) hx hb dX4_worthOf_36 hl (k := 3) rfl (zi_eq (zi_add (zi_n i) (zi_c 1 rfl)) (zi_n (i + 1)) (by omega)) (by decide) rfl (fun ls hl => ?_)
          refine lv_goto (tgt := 4) hx hb dX4_worthOf_39 (by decide) ?_
          have eq_3 : nI (zWo kp k i) = nI (zWo kp k (i + 1)) := by first | (rw [zWo, zWo, zSm, if_pos (by omega)]; done) | (rw [zWo, zWo, zSm, if_neg (by omega), Nat.add_zero]; done)
          have hl : lv_has ls 4 [(3, .int (nI (i + 1))), (0, .ref C), (1, .int (nI k)), (2, .int (nI (zWo kp k (i + 1))))] := Eq.mp (congrArg (fun z => lv_has ls 4 [(3, .int (nI (i + 1))), (0, .ref C), (1, .int (nI k)), (2, .int (z))]) eq_3) hl
          exact ih4 (i + 1) _ _ _ (show (i + 1) ≤ nw from by omega) (by omega) hP hD hS (lv_sub hl [1, 2, 3, 0] rfl)
        · refine lv_iload_n hx hb dX4_worthOf_24 rfl (lv_at hl 2 rfl) ?_
          refine lv_aload_n hx hb dX4_worthOf_25 rfl (lv_at hl 0 rfl) ?_
          refine va_get (D := g.1) (ci := 4) (v := .ref P) (C := RX4) (T := TX4) (N := 14) hx hb hts hiX4 hown hK.1 hP 0 rfl rfl 1 (by decide) hf0 (fun _ h9 => h9) rfl dX4_worthOf_26 ?_
          refine lv_iload_n hx hb dX4_worthOf_29 rfl (lv_at hl 3 rfl) ?_
          refine lv_iconst (v := 2) hx hb dX4_worthOf_30 (by decide) ?_
          refine zz_callI (wr := [(C, .inr (4, [.ref X, .ref P, .ref O, .ref T, .ref U, .ref V, .ref Y, .ref S, .ref D, .ref E, .int hg, .int (nI k0), .int (nI k1), .long tr]))]) (wc := [(P, .inr (1, [.ref Pa, .ref Pb, .ref Pc, .ref Pd, .int (nI hs), .int (nI np), .int (nI nm), .int (nI nw)])), (Pd, .inl (g.2.1.1, 18, .inl (zf kp)))]) (As := [.int (nI i), .int (nI 2)]) (rest := [.int (nI (zWo kp k i))]) F hK hE hA hP hD hS (c_X1_workPart l g (P := P) (Pa := Pa) (Pb := Pb) (Pc := Pc) (Pd := Pd) (hs := hs) (np := np) (nm := nm) (nw := nw) (kp := kp) (k := i) (w := 2) (hk := by first | assumption | omega) (hw3 := by first | assumption | omega)) (cwV 2 hts gX4_worthOf_X1_workPart rfl rfl rfl (by decide +kernel) ⟨Nat.le_of_ble_eq_true rfl, Nat.le_of_ble_eq_true rfl⟩) [1, 2] [0] rfl rfl (by decide) (by decide) (by decide) 1 0 rfl rfl rfl rfl rfl hl.1 (Nat.le_of_ble_eq_true rfl) dX4_worthOf_31 ⟨Nat.le_of_ble_eq_true rfl, Nat.le_of_ble_eq_true rfl⟩ (fun r_4 u_4 H locs hw hP hD hS => ?_)
          have hP : va_P g.1 vwCl [(C, .inr (4, [.ref X, .ref P, .ref O, .ref T, .ref U, .ref V, .ref Y, .ref S, .ref D, .ref E, .int hg, .int (nI k0), .int (nI k1), .long tr])), (P, .inr (1, [.ref Pa, .ref Pb, .ref Pc, .ref Pd, .int (nI hs), .int (nI np), .int (nI nm), .int (nI nw)])), (Pd, .inl (g.2.1.1, 18, .inl (zf kp)))] _ := hP
          have hD : va_D A [(C, .inr (4, [.ref X, .ref P, .ref O, .ref T, .ref U, .ref V, .ref Y, .ref S, .ref D, .ref E, .int hg, .int (nI k0), .int (nI k1), .long tr])), (P, .inr (1, [.ref Pa, .ref Pb, .ref Pc, .ref Pd, .int (nI hs), .int (nI np), .int (nI nm), .int (nI nw)])), (Pd, .inl (g.2.1.1, 18, .inl (zf kp)))] := hD
          have hr_4 := hw
          have hr_4 : r_4 = nI (kp (3 * i + 2)) := hr_4
          subst hr_4
          have hq9 := hkp (3 * i + 2)
          refine lv_iadd hx hb dX4_worthOf_34 ?_
          refine zz_topi (y := nI ((zWo kp k i) + (kp (3 * i + 2)))) (zi_eq (zi_add (zi_n (zWo kp k i)) (zi_n (kp (3 * i + 2)))) (zi_n ((zWo kp k i) + (kp (3 * i + 2)))) (by omega)) ?_
          refine lv_istore_n (lv' := [(2, .int (nI ((zWo kp k i) + (kp (3 * i + 2))))), (0, .ref C), (1, .int (nI k)), (3, .int (nI i))]) hx hb dX4_worthOf_35 rfl hl (by decide) rfl (fun ls hl => ?_)
          refine lv_iinc (v := nI (i + 1)) (lv' := [(3, .int (nI (i + 1))), (2, .int (nI ((zWo kp k i) + (kp (3 * i + 2))))), (0, .ref C), (1, .int (nI k))]) hx hb dX4_worthOf_36 hl (k := 3) rfl (zi_eq (zi_add (zi_n i) (zi_c 1 rfl)) (zi_n (i + 1)) (by omega)) (by decide) rfl (fun ls hl => ?_)
          refine lv_goto (tgt := 4) hx hb dX4_worthOf_39 (by decide) ?_
          have eq_5 : nI ((zWo kp k i) + (kp (3 * i + 2))) = nI (zWo kp k (i + 1)) := by first | (rw [zWo, zWo, zSm, if_pos (by omega)]; done) | (rw [zWo, zWo, zSm, if_neg (by omega), Nat.add_zero]; done)
          have hl : lv_has ls 4 [(3, .int (nI (i + 1))), (2, .int (nI (zWo kp k (i + 1)))), (0, .ref C), (1, .int (nI k))] := Eq.mp (congrArg (fun z => lv_has ls 4 [(3, .int (nI (i + 1))), (2, .int (z)), (0, .ref C), (1, .int (nI k))]) eq_5) hl
          exact ih4 (i + 1) _ _ _ (show (i + 1) ≤ nw from by omega) (by omega) hP hD hS (lv_sub hl [2, 3, 1, 0] rfl)
  exact hcut4 ((nw - 0) + 1) 0 _ _ _ (show 0 ≤ nw from by omega) (by omega) hP hD hS (lv_sub hl [2, 3, 1, 0] rfl)

set_option maxHeartbeats 4000000 in
set_option maxRecDepth 100000 in
theorem c_X4_bestSet (l : Launch) (g : zG) (C X P O T U V Y S D E : Nat) (hg : Int32) (k0 k1 : Nat) (tr : Int64) (Pa Pb Pc Pd : Nat) (hs np nm nw : Nat) (kp : Nat → Nat) (se : Nat → Nat) (hnw : nw ≤ 6) (hkp : ∀ k, kp k < 1000) : zI l yX4_bestSet wsX4_bestSet 2 46 g [.ref C] [(C, .inr (4, [.ref X, .ref P, .ref O, .ref T, .ref U, .ref V, .ref Y, .ref S, .ref D, .ref E, .int hg, .int (nI k0), .int (nI k1), .long tr])), (P, .inr (1, [.ref Pa, .ref Pb, .ref Pc, .ref Pd, .int (nI hs), .int (nI np), .int (nI nm), .int (nI nw)])), (Pd, .inl (g.2.1.1, 18, .inl (zf kp))), (E, .inl (g.2.1.1, 64, .inl (zg se)))] (fun (r : Int32) (u : Unit) => r = nI (zBt kp se nw (2 ^ nw - 1))) (fun (u : Unit) => [(C, .inr (4, [.ref X, .ref P, .ref O, .ref T, .ref U, .ref V, .ref Y, .ref S, .ref D, .ref E, .int hg, .int (nI k0), .int (nI k1), .long tr])), (P, .inr (1, [.ref Pa, .ref Pb, .ref Pc, .ref Pd, .int (nI hs), .int (nI np), .int (nI nm), .int (nI nw)])), (Pd, .inl (g.2.1.1, 18, .inl (zf kp))), (E, .inl (g.2.1.1, 64, .inl (zg se)))]) := by
  refine zz_bodyI (cc := cX4_bestSet) (nL := 3) (own := RX4) (ty := .int) (by decide) rfl rfl (Nat.le_of_ble_eq_true rfl) ?_
  intro pP eE s mM below meth cC A Q ls F hA hK hE hP hD hl hret
  have hS : va_S A s.heap s.heap [] := va_S.rf
  obtain ⟨hx, hb, hml, hown, hts⟩ := id F
  have hiX1 : ∀ w ∈ u_ws RX1 TX1 8, w ∈ wsX4_bestSet := by decide +kernel
  have hiX4 : ∀ w ∈ u_ws RX4 TX4 14, w ∈ wsX4_bestSet := by decide +kernel
  have hf0 := hts (.fieldLink RX4 19 "StepClock" "plan" "LStepClock$Plan;") (by decide +kernel)
  have hl : lv_has ls 3 [(0, .ref C)] := hl
  have hz6 := zp6 (np := nw) (by omega)
  refine lv_iconst (v := 0) hx hb dX4_bestSet_0 (by decide) ?_
  refine lv_istore_n (lv' := [(1, .int 0), (0, .ref C)]) hx hb dX4_bestSet_1 rfl hl (by decide) rfl (fun ls hl => ?_)
  refine lv_iconst (v := 1) hx hb dX4_bestSet_2 (by decide) ?_
  refine lv_istore_n (lv' := [(2, .int 1), (1, .int 0), (0, .ref C)]) hx hb dX4_bestSet_3 rfl hl (by decide) rfl (fun ls hl => ?_)
  have hcut4 : ∀ (fu : Nat) (i : Nat) (H : Heap) (locs : List Loc) (ls : Array Slot), (i < 2 ^ nw) → (2 ^ nw - i) < fu → va_P g.1 vwCl [(C, .inr (4, [.ref X, .ref P, .ref O, .ref T, .ref U, .ref V, .ref Y, .ref S, .ref D, .ref E, .int hg, .int (nI k0), .int (nI k1), .long tr])), (P, .inr (1, [.ref Pa, .ref Pb, .ref Pc, .ref Pd, .int (nI hs), .int (nI np), .int (nI nm), .int (nI nw)])), (Pd, .inl (g.2.1.1, 18, .inl (zf kp))), (E, .inl (g.2.1.1, 64, .inl (zg se)))] H → va_D A [(C, .inr (4, [.ref X, .ref P, .ref O, .ref T, .ref U, .ref V, .ref Y, .ref S, .ref D, .ref E, .int hg, .int (nI k0), .int (nI k1), .long tr])), (P, .inr (1, [.ref Pa, .ref Pb, .ref Pc, .ref Pd, .int (nI hs), .int (nI np), .int (nI nm), .int (nI nw)])), (Pd, .inl (g.2.1.1, 18, .inl (zf kp))), (E, .inl (g.2.1.1, 64, .inl (zg se)))] → va_S A s.heap H locs → lv_has ls 3 [(0, .ref C), (1, .int (nI (zBt kp se nw i))), (2, .int (nI (i + 1)))] → W pP l eE { frames := 2, cells := 0, slots := 0, locals := 46 } s mM ([.ref C] : List Value).toArray below meth cC H locs 0 0 Q (F0 mM 4 ls []) := by
    intro fu
    induction fu with
    | zero =>
      intro i H locs ls hi hm
      exact absurd hm (Nat.not_lt_zero _)
    | succ fu ih4 =>
      intro i H locs ls hi hm hP hD hS hl
      have hbt := zBt_le kp se nw i
      have hw1 := zWo_le hkp (i + 1) nw
      have hw2 := zWo_le hkp (zBt kp se nw i) nw
      refine lv_iload_n hx hb dX4_bestSet_4 rfl (lv_at hl 2 rfl) ?_
      refine lv_iconst (v := 1) hx hb dX4_bestSet_5 (by decide) ?_
      refine lv_aload_n hx hb dX4_bestSet_6 rfl (lv_at hl 0 rfl) ?_
      refine va_get (D := g.1) (ci := 4) (v := .ref P) (C := RX4) (T := TX4) (N := 14) hx hb hts hiX4 hown hK.1 hP 0 rfl rfl 1 (by decide) hf0 (fun _ h9 => h9) rfl dX4_bestSet_7 ?_
      refine va_getN (D := g.1) (ci := 1) (v := .int (nI nw)) (C := RX1) (T := TX1) (N := 8) (host := RX4) (ref := RX1) hx hb hts hiX1 hown hK.1 hP 1 rfl rfl 7 (by decide) (va_Nw.use rfl (hK.2.1 (.fieldLinkNest RX4 259 RX1 "works" "I" RX4) (by decide +kernel))) (fun _ h9 => h9) rfl dX4_bestSet_10 ?_
      refine lv_ishl hx hb dX4_bestSet_13 ?_
      refine zz_topi (y := nI (2 ^ nw)) (zi_shl (by omega)) ?_
      have hz6 := zp6 (np := nw) (by omega)
      refine zz_icmp_ge (tgt := 48) hx hb dX4_bestSet_14 (by decide) (zi_n (i + 1)) (zi_n (2 ^ nw)) (by omega) (by omega) (fun c_1 => ?_) (fun c_1 => ?_)
      · refine lv_iload_n hx hb dX4_bestSet_48 rfl (lv_at hl 1 rfl) ?_
        exact hret 49 _ _ _ (nI (zBt kp se nw i)) () dX4_bestSet_49 rfl hP hD hS (show (nI (zBt kp se nw i)) = nI (zBt kp se nw (2 ^ nw - 1)) from by rw [show i = 2 ^ nw - 1 by omega])
      · refine lv_aload_n hx hb dX4_bestSet_17 rfl (lv_at hl 0 rfl) ?_
        refine lv_iload_n hx hb dX4_bestSet_18 rfl (lv_at hl 2 rfl) ?_
        refine zz_callI (wr := [(P, .inr (1, [.ref Pa, .ref Pb, .ref Pc, .ref Pd, .int (nI hs), .int (nI np), .int (nI nm), .int (nI nw)])), (Pd, .inl (g.2.1.1, 18, .inl (zf kp)))]) (wc := [(C, .inr (4, [.ref X, .ref P, .ref O, .ref T, .ref U, .ref V, .ref Y, .ref S, .ref D, .ref E, .int hg, .int (nI k0), .int (nI k1), .long tr])), (E, .inl (g.2.1.1, 64, .inl (zg se)))]) (As := [.int (nI (i + 1))]) (rest := []) F hK hE hA hP hD hS (c_X4_endOfSet l g (C := C) (X := X) (P := P) (O := O) (T := T) (U := U) (V := V) (Y := Y) (S := S) (D := D) (E := E) (hg := hg) (k0 := k0) (k1 := k1) (tr := tr) (se := se) (k := (i + 1)) (hk := by first | assumption | omega)) (cwV 1 hts gX4_bestSet_X4_endOfSet rfl rfl rfl (by decide +kernel) ⟨Nat.le_of_ble_eq_true rfl, Nat.le_of_ble_eq_true rfl⟩) [0, 3] [1, 2] rfl rfl (by decide) (by decide) (by decide) 4 0 rfl rfl rfl rfl rfl hl.1 (Nat.le_of_ble_eq_true rfl) dX4_bestSet_19 ⟨Nat.le_of_ble_eq_true rfl, Nat.le_of_ble_eq_true rfl⟩ (fun r_2 u_2 H locs hw hP hD hS => ?_)
        have hP : va_P g.1 vwCl [(P, .inr (1, [.ref Pa, .ref Pb, .ref Pc, .ref Pd, .int (nI hs), .int (nI np), .int (nI nm), .int (nI nw)])), (Pd, .inl (g.2.1.1, 18, .inl (zf kp))), (C, .inr (4, [.ref X, .ref P, .ref O, .ref T, .ref U, .ref V, .ref Y, .ref S, .ref D, .ref E, .int hg, .int (nI k0), .int (nI k1), .long tr])), (E, .inl (g.2.1.1, 64, .inl (zg se)))] _ := hP
        have hD : va_D A [(P, .inr (1, [.ref Pa, .ref Pb, .ref Pc, .ref Pd, .int (nI hs), .int (nI np), .int (nI nm), .int (nI nw)])), (Pd, .inl (g.2.1.1, 18, .inl (zf kp))), (C, .inr (4, [.ref X, .ref P, .ref O, .ref T, .ref U, .ref V, .ref Y, .ref S, .ref D, .ref E, .int hg, .int (nI k0), .int (nI k1), .long tr])), (E, .inl (g.2.1.1, 64, .inl (zg se)))] := hD
        have hr_2 := hw
        have hr_2 : r_2 = zNo (se (i + 1)) := hr_2
        subst hr_2
        have hz_2 := zOi_s (se (i + 1))
        refine lv_bipush (v := (-9)) hx hb dX4_bestSet_22 (by decide) ?_
        refine zz_icmp_eq (tgt := 42) hx hb dX4_bestSet_24 (by decide) (zNo_z (se (i + 1))) (zi_c (-9) rfl) (by omega) (by omega) (fun c_3 => ?_) (fun c_3 => ?_)
        · refine lv_iinc (v := nI (i + 2)) (lv' := [(2, .int (nI (i + 2))), (0, .ref C), (1, .int (nI (zBt kp se nw i)))]) hx hb dX4_bestSet_42 hl (k := 2) rfl (zi_eq (zi_add (zi_n (i + 1)) (zi_c 1 rfl)) (zi_n (i + 2)) (by omega)) (by decide) rfl (fun ls hl => ?_)
          refine lv_goto (tgt := 4) hx hb dX4_bestSet_45 (by decide) ?_
          have hP := hP.sub (ws' := [(C, .inr (4, [.ref X, .ref P, .ref O, .ref T, .ref U, .ref V, .ref Y, .ref S, .ref D, .ref E, .int hg, .int (nI k0), .int (nI k1), .long tr])), (P, .inr (1, [.ref Pa, .ref Pb, .ref Pc, .ref Pd, .int (nI hs), .int (nI np), .int (nI nm), .int (nI nw)])), (Pd, .inl (g.2.1.1, 18, .inl (zf kp))), (E, .inl (g.2.1.1, 64, .inl (zg se)))]) [2, 0, 1, 3] rfl
          have hD := hD.sub (ws' := [(C, .inr (4, [.ref X, .ref P, .ref O, .ref T, .ref U, .ref V, .ref Y, .ref S, .ref D, .ref E, .int hg, .int (nI k0), .int (nI k1), .long tr])), (P, .inr (1, [.ref Pa, .ref Pb, .ref Pc, .ref Pd, .int (nI hs), .int (nI np), .int (nI nm), .int (nI nw)])), (Pd, .inl (g.2.1.1, 18, .inl (zf kp))), (E, .inl (g.2.1.1, 64, .inl (zg se)))]) [2, 0, 1, 3] (by decide) rfl
          have eq_4 : nI (zBt kp se nw i) = nI (zBt kp se nw (i + 1)) := by first | (rw [zBt, if_pos ⟨by omega, by omega⟩]; done) | (rw [zBt, if_neg (fun q => by have q1 := q.1; have q2 := q.2; omega)]; done)
          have hl : lv_has ls 3 [(2, .int (nI (i + 2))), (0, .ref C), (1, .int (nI (zBt kp se nw (i + 1))))] := Eq.mp (congrArg (fun z => lv_has ls 3 [(2, .int (nI (i + 2))), (0, .ref C), (1, .int (z))]) eq_4) hl
          have eq_5 : nI (i + 2) = nI ((i + 1) + 1) := by rfl
          have hl : lv_has ls 3 [(2, .int (nI ((i + 1) + 1))), (0, .ref C), (1, .int (nI (zBt kp se nw (i + 1))))] := Eq.mp (congrArg (fun z => lv_has ls 3 [(2, .int (z)), (0, .ref C), (1, .int (nI (zBt kp se nw (i + 1))))]) eq_5) hl
          exact ih4 (i + 1) _ _ _ (show (i + 1) < 2 ^ nw from by omega) (by omega) hP hD hS (lv_sub hl [1, 2, 0] rfl)
        · refine lv_aload_n hx hb dX4_bestSet_27 rfl (lv_at hl 0 rfl) ?_
          refine lv_iload_n hx hb dX4_bestSet_28 rfl (lv_at hl 2 rfl) ?_
          refine zz_callI (wr := [(E, .inl (g.2.1.1, 64, .inl (zg se)))]) (wc := [(C, .inr (4, [.ref X, .ref P, .ref O, .ref T, .ref U, .ref V, .ref Y, .ref S, .ref D, .ref E, .int hg, .int (nI k0), .int (nI k1), .long tr])), (P, .inr (1, [.ref Pa, .ref Pb, .ref Pc, .ref Pd, .int (nI hs), .int (nI np), .int (nI nm), .int (nI nw)])), (Pd, .inl (g.2.1.1, 18, .inl (zf kp)))]) (As := [.int (nI (i + 1))]) (rest := []) F hK hE hA hP hD hS (c_X4_worthOf l g (C := C) (X := X) (P := P) (O := O) (T := T) (U := U) (V := V) (Y := Y) (S := S) (D := D) (E := E) (hg := hg) (k0 := k0) (k1 := k1) (tr := tr) (Pa := Pa) (Pb := Pb) (Pc := Pc) (Pd := Pd) (hs := hs) (np := np) (nm := nm) (nw := nw) (kp := kp) (k := (i + 1)) (hnw := by first | assumption | omega) (hkp := by first | assumption | omega) (hk := by first | assumption | omega)) (cwV 1 hts gX4_bestSet_X4_worthOf rfl rfl rfl (by decide +kernel) ⟨Nat.le_of_ble_eq_true rfl, Nat.le_of_ble_eq_true rfl⟩) [2, 0, 1] [3] rfl rfl (by decide) (by decide) (by decide) 4 0 rfl rfl rfl rfl rfl hl.1 (Nat.le_of_ble_eq_true rfl) dX4_bestSet_29 ⟨Nat.le_of_ble_eq_true rfl, Nat.le_of_ble_eq_true rfl⟩ (fun r_6 u_6 H locs hw hP hD hS => ?_)
          have hP : va_P g.1 vwCl [(E, .inl (g.2.1.1, 64, .inl (zg se))), (C, .inr (4, [.ref X, .ref P, .ref O, .ref T, .ref U, .ref V, .ref Y, .ref S, .ref D, .ref E, .int hg, .int (nI k0), .int (nI k1), .long tr])), (P, .inr (1, [.ref Pa, .ref Pb, .ref Pc, .ref Pd, .int (nI hs), .int (nI np), .int (nI nm), .int (nI nw)])), (Pd, .inl (g.2.1.1, 18, .inl (zf kp)))] _ := hP
          have hD : va_D A [(E, .inl (g.2.1.1, 64, .inl (zg se))), (C, .inr (4, [.ref X, .ref P, .ref O, .ref T, .ref U, .ref V, .ref Y, .ref S, .ref D, .ref E, .int hg, .int (nI k0), .int (nI k1), .long tr])), (P, .inr (1, [.ref Pa, .ref Pb, .ref Pc, .ref Pd, .int (nI hs), .int (nI np), .int (nI nm), .int (nI nw)])), (Pd, .inl (g.2.1.1, 18, .inl (zf kp)))] := hD
          have hr_6 := hw
          have hr_6 : r_6 = nI (zWo kp (i + 1) nw) := hr_6
          subst hr_6
          refine lv_aload_n hx hb dX4_bestSet_32 rfl (lv_at hl 0 rfl) ?_
          refine lv_iload_n hx hb dX4_bestSet_33 rfl (lv_at hl 1 rfl) ?_
          refine zz_callI (wr := [(E, .inl (g.2.1.1, 64, .inl (zg se)))]) (wc := [(C, .inr (4, [.ref X, .ref P, .ref O, .ref T, .ref U, .ref V, .ref Y, .ref S, .ref D, .ref E, .int hg, .int (nI k0), .int (nI k1), .long tr])), (P, .inr (1, [.ref Pa, .ref Pb, .ref Pc, .ref Pd, .int (nI hs), .int (nI np), .int (nI nm), .int (nI nw)])), (Pd, .inl (g.2.1.1, 18, .inl (zf kp)))]) (As := [.int (nI (zBt kp se nw i))]) (rest := [.int (nI (zWo kp (i + 1) nw))]) F hK hE hA hP hD hS (c_X4_worthOf l g (C := C) (X := X) (P := P) (O := O) (T := T) (U := U) (V := V) (Y := Y) (S := S) (D := D) (E := E) (hg := hg) (k0 := k0) (k1 := k1) (tr := tr) (Pa := Pa) (Pb := Pb) (Pc := Pc) (Pd := Pd) (hs := hs) (np := np) (nm := nm) (nw := nw) (kp := kp) (k := (zBt kp se nw i)) (hnw := by first | assumption | omega) (hkp := by first | assumption | omega) (hk := by first | assumption | omega)) (cwV 1 hts gX4_bestSet_X4_worthOf rfl rfl rfl (by decide +kernel) ⟨Nat.le_of_ble_eq_true rfl, Nat.le_of_ble_eq_true rfl⟩) [1, 2, 3] [0] rfl rfl (by decide) (by decide) (by decide) 4 0 rfl rfl rfl rfl rfl hl.1 (Nat.le_of_ble_eq_true rfl) dX4_bestSet_34 ⟨Nat.le_of_ble_eq_true rfl, Nat.le_of_ble_eq_true rfl⟩ (fun r_7 u_7 H locs hw hP hD hS => ?_)
          have hP : va_P g.1 vwCl [(E, .inl (g.2.1.1, 64, .inl (zg se))), (C, .inr (4, [.ref X, .ref P, .ref O, .ref T, .ref U, .ref V, .ref Y, .ref S, .ref D, .ref E, .int hg, .int (nI k0), .int (nI k1), .long tr])), (P, .inr (1, [.ref Pa, .ref Pb, .ref Pc, .ref Pd, .int (nI hs), .int (nI np), .int (nI nm), .int (nI nw)])), (Pd, .inl (g.2.1.1, 18, .inl (zf kp)))] _ := hP
          have hD : va_D A [(E, .inl (g.2.1.1, 64, .inl (zg se))), (C, .inr (4, [.ref X, .ref P, .ref O, .ref T, .ref U, .ref V, .ref Y, .ref S, .ref D, .ref E, .int hg, .int (nI k0), .int (nI k1), .long tr])), (P, .inr (1, [.ref Pa, .ref Pb, .ref Pc, .ref Pd, .int (nI hs), .int (nI np), .int (nI nm), .int (nI nw)])), (Pd, .inl (g.2.1.1, 18, .inl (zf kp)))] := hD
          have hr_7 := hw
          have hr_7 : r_7 = nI (zWo kp (zBt kp se nw i) nw) := hr_7
          subst hr_7
          refine zz_icmp_le (tgt := 42) hx hb dX4_bestSet_37 (by decide) (zi_n (zWo kp (i + 1) nw)) (zi_n (zWo kp (zBt kp se nw i) nw)) (by omega) (by omega) (fun c_8 => ?_) (fun c_8 => ?_)
          · refine lv_iinc (v := nI (i + 2)) (lv' := [(2, .int (nI (i + 2))), (0, .ref C), (1, .int (nI (zBt kp se nw i)))]) hx hb dX4_bestSet_42 hl (k := 2) rfl (zi_eq (zi_add (zi_n (i + 1)) (zi_c 1 rfl)) (zi_n (i + 2)) (by omega)) (by decide) rfl (fun ls hl => ?_)
            refine lv_goto (tgt := 4) hx hb dX4_bestSet_45 (by decide) ?_
            have hP := hP.sub (ws' := [(C, .inr (4, [.ref X, .ref P, .ref O, .ref T, .ref U, .ref V, .ref Y, .ref S, .ref D, .ref E, .int hg, .int (nI k0), .int (nI k1), .long tr])), (P, .inr (1, [.ref Pa, .ref Pb, .ref Pc, .ref Pd, .int (nI hs), .int (nI np), .int (nI nm), .int (nI nw)])), (Pd, .inl (g.2.1.1, 18, .inl (zf kp))), (E, .inl (g.2.1.1, 64, .inl (zg se)))]) [1, 2, 3, 0] rfl
            have hD := hD.sub (ws' := [(C, .inr (4, [.ref X, .ref P, .ref O, .ref T, .ref U, .ref V, .ref Y, .ref S, .ref D, .ref E, .int hg, .int (nI k0), .int (nI k1), .long tr])), (P, .inr (1, [.ref Pa, .ref Pb, .ref Pc, .ref Pd, .int (nI hs), .int (nI np), .int (nI nm), .int (nI nw)])), (Pd, .inl (g.2.1.1, 18, .inl (zf kp))), (E, .inl (g.2.1.1, 64, .inl (zg se)))]) [1, 2, 3, 0] (by decide) rfl
            have eq_9 : nI (zBt kp se nw i) = nI (zBt kp se nw (i + 1)) := by first | (rw [zBt, if_pos ⟨by omega, by omega⟩]; done) | (rw [zBt, if_neg (fun q => by have q1 := q.1; have q2 := q.2; omega)]; done)
            have hl : lv_has ls 3 [(2, .int (nI (i + 2))), (0, .ref C), (1, .int (nI (zBt kp se nw (i + 1))))] := Eq.mp (congrArg (fun z => lv_has ls 3 [(2, .int (nI (i + 2))), (0, .ref C), (1, .int (z))]) eq_9) hl
            have eq_10 : nI (i + 2) = nI ((i + 1) + 1) := by rfl
            have hl : lv_has ls 3 [(2, .int (nI ((i + 1) + 1))), (0, .ref C), (1, .int (nI (zBt kp se nw (i + 1))))] := Eq.mp (congrArg (fun z => lv_has ls 3 [(2, .int (z)), (0, .ref C), (1, .int (nI (zBt kp se nw (i + 1))))]) eq_10) hl
            exact ih4 (i + 1) _ _ _ (show (i + 1) < 2 ^ nw from by omega) (by omega) hP hD hS (lv_sub hl [1, 2, 0] rfl)
          · refine lv_iload_n hx hb dX4_bestSet_40 rfl (lv_at hl 2 rfl) ?_
            refine lv_istore_n (lv' := [(1, .int (nI (i + 1))), (0, .ref C), (2, .int (nI (i + 1)))]) hx hb dX4_bestSet_41 rfl hl (by decide) rfl (fun ls hl => ?_)
            refine lv_iinc (v := nI (i + 2)) (lv' := [(2, .int (nI (i + 2))), (1, .int (nI (i + 1))), (0, .ref C)]) hx hb dX4_bestSet_42 hl (k := 2) rfl (zi_eq (zi_add (zi_n (i + 1)) (zi_c 1 rfl)) (zi_n (i + 2)) (by omega)) (by decide) rfl (fun ls hl => ?_)
            refine lv_goto (tgt := 4) hx hb dX4_bestSet_45 (by decide) ?_
            have hP := hP.sub (ws' := [(C, .inr (4, [.ref X, .ref P, .ref O, .ref T, .ref U, .ref V, .ref Y, .ref S, .ref D, .ref E, .int hg, .int (nI k0), .int (nI k1), .long tr])), (P, .inr (1, [.ref Pa, .ref Pb, .ref Pc, .ref Pd, .int (nI hs), .int (nI np), .int (nI nm), .int (nI nw)])), (Pd, .inl (g.2.1.1, 18, .inl (zf kp))), (E, .inl (g.2.1.1, 64, .inl (zg se)))]) [1, 2, 3, 0] rfl
            have hD := hD.sub (ws' := [(C, .inr (4, [.ref X, .ref P, .ref O, .ref T, .ref U, .ref V, .ref Y, .ref S, .ref D, .ref E, .int hg, .int (nI k0), .int (nI k1), .long tr])), (P, .inr (1, [.ref Pa, .ref Pb, .ref Pc, .ref Pd, .int (nI hs), .int (nI np), .int (nI nm), .int (nI nw)])), (Pd, .inl (g.2.1.1, 18, .inl (zf kp))), (E, .inl (g.2.1.1, 64, .inl (zg se)))]) [1, 2, 3, 0] (by decide) rfl
            have eq_11 : nI (i + 1) = nI (zBt kp se nw (i + 1)) := by first | (rw [zBt, if_pos ⟨by omega, by omega⟩]; done) | (rw [zBt, if_neg (fun q => by have q1 := q.1; have q2 := q.2; omega)]; done)
            have hl : lv_has ls 3 [(2, .int (nI (i + 2))), (1, .int (nI (zBt kp se nw (i + 1)))), (0, .ref C)] := Eq.mp (congrArg (fun z => lv_has ls 3 [(2, .int (nI (i + 2))), (1, .int (z)), (0, .ref C)]) eq_11) hl
            have eq_12 : nI (i + 2) = nI ((i + 1) + 1) := by rfl
            have hl : lv_has ls 3 [(2, .int (nI ((i + 1) + 1))), (1, .int (nI (zBt kp se nw (i + 1)))), (0, .ref C)] := Eq.mp (congrArg (fun z => lv_has ls 3 [(2, .int (z)), (1, .int (nI (zBt kp se nw (i + 1)))), (0, .ref C)]) eq_12) hl
            exact ih4 (i + 1) _ _ _ (show (i + 1) < 2 ^ nw from by omega) (by omega) hP hD hS (lv_sub hl [2, 1, 0] rfl)
  exact hcut4 ((2 ^ nw - 0) + 1) 0 _ _ _ (show 0 < 2 ^ nw from by omega) (by omega) hP hD hS (lv_sub hl [2, 1, 0] rfl)

set_option maxHeartbeats 4000000 in
set_option maxRecDepth 100000 in
theorem c_X4_oneDay (l : Launch) (g : zG) (C X P O T U V Y S D E : Nat) (hg : Int32) (k0 k1 : Nat) (tr : Int64) (Pa Pb Pc Pd : Nat) (hs np nm nw : Nat) (kp : Nat → Nat) (to : Nat → Nat) (se : Nat → Nat) (w : Int32) (hnw : nw ≤ 6) (hkp : ∀ k, kp k < 1000) (hto : ∀ k, to k < 10000000) : zI l yX4_oneDay wsX4_oneDay 4 95 g [.ref C, .int w] [(C, .inr (4, [.ref X, .ref P, .ref O, .ref T, .ref U, .ref V, .ref Y, .ref S, .ref D, .ref E, .int hg, .int (nI k0), .int (nI k1), .long tr])), (P, .inr (1, [.ref Pa, .ref Pb, .ref Pc, .ref Pd, .int (nI hs), .int (nI np), .int (nI nm), .int (nI nw)])), (Pd, .inl (g.2.1.1, 18, .inl (zf kp))), (D, .inl (g.2.1.1, 241, .inl (zf to))), (E, .inl (g.2.1.1, 64, .inl (zg se)))] (fun (r : Int32) (u : Nat → Nat) => r = zDayA kp to nw w) (fun (u : Nat → Nat) => [(C, .inr (4, [.ref X, .ref P, .ref O, .ref T, .ref U, .ref V, .ref Y, .ref S, .ref D, .ref E, .int hg, .int (nI k0), .int (nI k1), .long tr])), (P, .inr (1, [.ref Pa, .ref Pb, .ref Pc, .ref Pd, .int (nI hs), .int (nI np), .int (nI nm), .int (nI nw)])), (Pd, .inl (g.2.1.1, 18, .inl (zf kp))), (D, .inl (g.2.1.1, 241, .inl (zf to))), (E, .inl (g.2.1.1, 64, .inl (zg u)))]) := by
  refine zz_bodyI (cc := cX4_oneDay) (nL := 3) (own := RX4) (ty := .int) (by decide) rfl rfl (Nat.le_of_ble_eq_true rfl) ?_
  intro pP eE s mM below meth cC A Q ls F hA hK hE hP hD hl hret
  have hS : va_S A s.heap s.heap [] := va_S.rf
  obtain ⟨hx, hb, hml, hown, hts⟩ := id F
  have hl : lv_has ls 3 [(0, .ref C), (1, .int w)] := hl
  have hlow := zi_lo w
  have hhiw := zi_hi w
  have hz6 := zp6 (np := nw) (by omega)
  refine lv_iload_n hx hb dX4_oneDay_0 rfl (lv_at hl 1 rfl) ?_
  refine lv_iconst (v := 0) hx hb dX4_oneDay_1 (by decide) ?_
  refine lv_iconst (v := 2) hx hb dX4_oneDay_2 (by decide) ?_
  refine zz_callSI (wr := [(C, .inr (4, [.ref X, .ref P, .ref O, .ref T, .ref U, .ref V, .ref Y, .ref S, .ref D, .ref E, .int hg, .int (nI k0), .int (nI k1), .long tr])), (P, .inr (1, [.ref Pa, .ref Pb, .ref Pc, .ref Pd, .int (nI hs), .int (nI np), .int (nI nm), .int (nI nw)])), (Pd, .inl (g.2.1.1, 18, .inl (zf kp))), (D, .inl (g.2.1.1, 241, .inl (zf to))), (E, .inl (g.2.1.1, 64, .inl (zg se)))]) (wc := []) (As := [.int w, .int (nI 0), .int (nI 2)]) (rest := []) F hK hE hA hP hD hS (c_X4_within l g (x := w) (a := 0) (b := 2) (hab := by first | assumption | omega)) (va_cwS 3 hts gX4_oneDay_X4_within rfl rfl rfl (by decide +kernel) ⟨Nat.le_of_ble_eq_true rfl, Nat.le_of_ble_eq_true rfl⟩) [] [0, 1, 2, 3, 4] rfl rfl (by decide) (by decide) (by decide) rfl rfl hl.1 (Nat.le_of_ble_eq_true rfl) dX4_oneDay_3 ⟨Nat.le_of_ble_eq_true rfl, Nat.le_of_ble_eq_true rfl⟩ (fun r_1 u_1 H locs hw hP hD hS => ?_)
  have hP : va_P g.1 vwCl [(C, .inr (4, [.ref X, .ref P, .ref O, .ref T, .ref U, .ref V, .ref Y, .ref S, .ref D, .ref E, .int hg, .int (nI k0), .int (nI k1), .long tr])), (P, .inr (1, [.ref Pa, .ref Pb, .ref Pc, .ref Pd, .int (nI hs), .int (nI np), .int (nI nm), .int (nI nw)])), (Pd, .inl (g.2.1.1, 18, .inl (zf kp))), (D, .inl (g.2.1.1, 241, .inl (zf to))), (E, .inl (g.2.1.1, 64, .inl (zg se)))] _ := hP
  have hD : va_D A [(C, .inr (4, [.ref X, .ref P, .ref O, .ref T, .ref U, .ref V, .ref Y, .ref S, .ref D, .ref E, .int hg, .int (nI k0), .int (nI k1), .long tr])), (P, .inr (1, [.ref Pa, .ref Pb, .ref Pc, .ref Pd, .int (nI hs), .int (nI np), .int (nI nm), .int (nI nw)])), (Pd, .inl (g.2.1.1, 18, .inl (zf kp))), (D, .inl (g.2.1.1, 241, .inl (zf to))), (E, .inl (g.2.1.1, 64, .inl (zg se)))] := hD
  have hr_1 := hw
  have hr_1 : r_1 = if (0 : Int) ≤ w.toInt ∧ w.toInt ≤ (2 : Int) then 1 else 0 := hr_1
  by_cases b_2 : (0 : Int) ≤ w.toInt ∧ w.toInt ≤ (2 : Int)
  · rw [if_pos b_2] at hr_1
    subst hr_1
    refine zz_if_ne (tgt := 11) hx hb dX4_oneDay_6 (by decide) (zi_c 1 rfl) (by omega) (fun c_3 => ?_) (fun c_3 => (by exfalso; omega))
    refine lv_aload_n hx hb dX4_oneDay_11 rfl (lv_at hl 0 rfl) ?_
    refine zz_callV (wr := []) (wc := [(C, .inr (4, [.ref X, .ref P, .ref O, .ref T, .ref U, .ref V, .ref Y, .ref S, .ref D, .ref E, .int hg, .int (nI k0), .int (nI k1), .long tr])), (P, .inr (1, [.ref Pa, .ref Pb, .ref Pc, .ref Pd, .int (nI hs), .int (nI np), .int (nI nm), .int (nI nw)])), (Pd, .inl (g.2.1.1, 18, .inl (zf kp))), (D, .inl (g.2.1.1, 241, .inl (zf to))), (E, .inl (g.2.1.1, 64, .inl (zg se)))]) (As := []) (rest := []) F hK hE hA hP hD hS (c_X4_findSetEnds l g (C := C) (X := X) (P := P) (O := O) (T := T) (U := U) (V := V) (Y := Y) (S := S) (D := D) (E := E) (hg := hg) (k0 := k0) (k1 := k1) (tr := tr) (Pa := Pa) (Pb := Pb) (Pc := Pc) (Pd := Pd) (hs := hs) (np := np) (nm := nm) (nw := nw) (kp := kp) (to := to) (se := se) (hnw := by first | assumption | omega) (hkp := by first | assumption | omega) (hto := by first | assumption | omega)) (cwV 0 hts gX4_oneDay_X4_findSetEnds rfl rfl rfl (by decide +kernel) ⟨Nat.le_of_ble_eq_true rfl, Nat.le_of_ble_eq_true rfl⟩) [0, 1, 2, 3, 4] [] rfl rfl (by decide) (by decide) (by decide) 4 0 rfl rfl rfl rfl rfl hl.1 (Nat.le_of_ble_eq_true rfl) dX4_oneDay_12 ⟨Nat.le_of_ble_eq_true rfl, Nat.le_of_ble_eq_true rfl⟩ (fun s9_4 H locs hw hP hD hS => ?_)
    have hP : va_P g.1 vwCl [(C, .inr (4, [.ref X, .ref P, .ref O, .ref T, .ref U, .ref V, .ref Y, .ref S, .ref D, .ref E, .int hg, .int (nI k0), .int (nI k1), .long tr])), (P, .inr (1, [.ref Pa, .ref Pb, .ref Pc, .ref Pd, .int (nI hs), .int (nI np), .int (nI nm), .int (nI nw)])), (Pd, .inl (g.2.1.1, 18, .inl (zf kp))), (D, .inl (g.2.1.1, 241, .inl (zf to))), (E, .inl (g.2.1.1, 64, .inl (zg s9_4)))] _ := hP
    have hD : va_D A [(C, .inr (4, [.ref X, .ref P, .ref O, .ref T, .ref U, .ref V, .ref Y, .ref S, .ref D, .ref E, .int hg, .int (nI k0), .int (nI k1), .long tr])), (P, .inr (1, [.ref Pa, .ref Pb, .ref Pc, .ref Pd, .int (nI hs), .int (nI np), .int (nI nm), .int (nI nw)])), (Pd, .inl (g.2.1.1, 18, .inl (zf kp))), (D, .inl (g.2.1.1, 241, .inl (zf to))), (E, .inl (g.2.1.1, 64, .inl (zg s9_4)))] := hD
    have hw_4 : ∀ k, k < 2 ^ nw → s9_4 k = zEt kp to nw k := hw
    have hbe := zBt_cong (kp := kp) (nw := nw) hw_4 (2 ^ nw - 1) (by omega)
    have hsE := hw_4
    refine lv_aload_n hx hb dX4_oneDay_15 rfl (lv_at hl 0 rfl) ?_
    refine zz_callI (wr := [(D, .inl (g.2.1.1, 241, .inl (zf to)))]) (wc := [(C, .inr (4, [.ref X, .ref P, .ref O, .ref T, .ref U, .ref V, .ref Y, .ref S, .ref D, .ref E, .int hg, .int (nI k0), .int (nI k1), .long tr])), (P, .inr (1, [.ref Pa, .ref Pb, .ref Pc, .ref Pd, .int (nI hs), .int (nI np), .int (nI nm), .int (nI nw)])), (Pd, .inl (g.2.1.1, 18, .inl (zf kp))), (E, .inl (g.2.1.1, 64, .inl (zg s9_4)))]) (As := []) (rest := []) F hK hE hA hP hD hS (c_X4_bestSet l g (C := C) (X := X) (P := P) (O := O) (T := T) (U := U) (V := V) (Y := Y) (S := S) (D := D) (E := E) (hg := hg) (k0 := k0) (k1 := k1) (tr := tr) (Pa := Pa) (Pb := Pb) (Pc := Pc) (Pd := Pd) (hs := hs) (np := np) (nm := nm) (nw := nw) (kp := kp) (se := s9_4) (hnw := by first | assumption | omega) (hkp := by first | assumption | omega)) (cwV 0 hts gX4_oneDay_X4_bestSet rfl rfl rfl (by decide +kernel) ⟨Nat.le_of_ble_eq_true rfl, Nat.le_of_ble_eq_true rfl⟩) [0, 1, 2, 4] [3] rfl rfl (by decide) (by decide) (by decide) 4 0 rfl rfl rfl rfl rfl hl.1 (Nat.le_of_ble_eq_true rfl) dX4_oneDay_16 ⟨Nat.le_of_ble_eq_true rfl, Nat.le_of_ble_eq_true rfl⟩ (fun r_5 u_5 H locs hw hP hD hS => ?_)
    have hP : va_P g.1 vwCl [(D, .inl (g.2.1.1, 241, .inl (zf to))), (C, .inr (4, [.ref X, .ref P, .ref O, .ref T, .ref U, .ref V, .ref Y, .ref S, .ref D, .ref E, .int hg, .int (nI k0), .int (nI k1), .long tr])), (P, .inr (1, [.ref Pa, .ref Pb, .ref Pc, .ref Pd, .int (nI hs), .int (nI np), .int (nI nm), .int (nI nw)])), (Pd, .inl (g.2.1.1, 18, .inl (zf kp))), (E, .inl (g.2.1.1, 64, .inl (zg s9_4)))] _ := hP
    have hD : va_D A [(D, .inl (g.2.1.1, 241, .inl (zf to))), (C, .inr (4, [.ref X, .ref P, .ref O, .ref T, .ref U, .ref V, .ref Y, .ref S, .ref D, .ref E, .int hg, .int (nI k0), .int (nI k1), .long tr])), (P, .inr (1, [.ref Pa, .ref Pb, .ref Pc, .ref Pd, .int (nI hs), .int (nI np), .int (nI nm), .int (nI nw)])), (Pd, .inl (g.2.1.1, 18, .inl (zf kp))), (E, .inl (g.2.1.1, 64, .inl (zg s9_4)))] := hD
    have hr_5 := hw
    have hr_5 : r_5 = nI (zBt kp s9_4 nw (2 ^ nw - 1)) := hr_5
    subst hr_5
    have hbt := zBt_le kp s9_4 nw (2 ^ nw - 1)
    refine lv_istore_n (lv' := [(2, .int (nI (zBt kp s9_4 nw (2 ^ nw - 1)))), (0, .ref C), (1, .int w)]) hx hb dX4_oneDay_19 rfl hl (by decide) rfl (fun ls hl => ?_)
    refine lv_iload_n hx hb dX4_oneDay_20 rfl (lv_at hl 2 rfl) ?_
    by_cases c_6 : w.toInt = (0 : Int)
    · refine zz_topi (y := 0) (zi_eq (zi_self w) (zi_c 0 rfl) c_6) ?_
      refine lv_lookup (off := 27) (tgt := 48) hx hb dX4_oneDay_21 (by decide) (by decide) (by decide) ?_
      refine lv_aload_n hx hb dX4_oneDay_48 rfl (lv_at hl 1 rfl) ?_
      refine lv_iload_n hx hb dX4_oneDay_49 rfl (lv_at hl 0 rfl) ?_
      refine zz_callI (wr := [(D, .inl (g.2.1.1, 241, .inl (zf to))), (E, .inl (g.2.1.1, 64, .inl (zg s9_4)))]) (wc := [(C, .inr (4, [.ref X, .ref P, .ref O, .ref T, .ref U, .ref V, .ref Y, .ref S, .ref D, .ref E, .int hg, .int (nI k0), .int (nI k1), .long tr])), (P, .inr (1, [.ref Pa, .ref Pb, .ref Pc, .ref Pd, .int (nI hs), .int (nI np), .int (nI nm), .int (nI nw)])), (Pd, .inl (g.2.1.1, 18, .inl (zf kp)))]) (As := [.int (nI (zBt kp s9_4 nw (2 ^ nw - 1)))]) (rest := []) F hK hE hA hP hD hS (c_X4_worthOf l g (C := C) (X := X) (P := P) (O := O) (T := T) (U := U) (V := V) (Y := Y) (S := S) (D := D) (E := E) (hg := hg) (k0 := k0) (k1 := k1) (tr := tr) (Pa := Pa) (Pb := Pb) (Pc := Pc) (Pd := Pd) (hs := hs) (np := np) (nm := nm) (nw := nw) (kp := kp) (k := (zBt kp s9_4 nw (2 ^ nw - 1))) (hnw := by first | assumption | omega) (hkp := by first | assumption | omega) (hk := by first | assumption | omega)) (cwV 1 hts gX4_oneDay_X4_worthOf rfl rfl rfl (by decide +kernel) ⟨Nat.le_of_ble_eq_true rfl, Nat.le_of_ble_eq_true rfl⟩) [1, 2, 3] [0, 4] rfl rfl (by decide) (by decide) (by decide) 4 0 rfl rfl rfl rfl rfl hl.1 (Nat.le_of_ble_eq_true rfl) dX4_oneDay_50 ⟨Nat.le_of_ble_eq_true rfl, Nat.le_of_ble_eq_true rfl⟩ (fun r_7 u_7 H locs hw hP hD hS => ?_)
      have hP : va_P g.1 vwCl [(D, .inl (g.2.1.1, 241, .inl (zf to))), (E, .inl (g.2.1.1, 64, .inl (zg s9_4))), (C, .inr (4, [.ref X, .ref P, .ref O, .ref T, .ref U, .ref V, .ref Y, .ref S, .ref D, .ref E, .int hg, .int (nI k0), .int (nI k1), .long tr])), (P, .inr (1, [.ref Pa, .ref Pb, .ref Pc, .ref Pd, .int (nI hs), .int (nI np), .int (nI nm), .int (nI nw)])), (Pd, .inl (g.2.1.1, 18, .inl (zf kp)))] _ := hP
      have hD : va_D A [(D, .inl (g.2.1.1, 241, .inl (zf to))), (E, .inl (g.2.1.1, 64, .inl (zg s9_4))), (C, .inr (4, [.ref X, .ref P, .ref O, .ref T, .ref U, .ref V, .ref Y, .ref S, .ref D, .ref E, .int hg, .int (nI k0), .int (nI k1), .long tr])), (P, .inr (1, [.ref Pa, .ref Pb, .ref Pc, .ref Pd, .int (nI hs), .int (nI np), .int (nI nm), .int (nI nw)])), (Pd, .inl (g.2.1.1, 18, .inl (zf kp)))] := hD
      have hr_7 := hw
      have hr_7 : r_7 = nI (zWo kp (zBt kp s9_4 nw (2 ^ nw - 1)) nw) := hr_7
      subst hr_7
      have hP := hP.sub (ws' := [(C, .inr (4, [.ref X, .ref P, .ref O, .ref T, .ref U, .ref V, .ref Y, .ref S, .ref D, .ref E, .int hg, .int (nI k0), .int (nI k1), .long tr])), (P, .inr (1, [.ref Pa, .ref Pb, .ref Pc, .ref Pd, .int (nI hs), .int (nI np), .int (nI nm), .int (nI nw)])), (Pd, .inl (g.2.1.1, 18, .inl (zf kp))), (D, .inl (g.2.1.1, 241, .inl (zf to))), (E, .inl (g.2.1.1, 64, .inl (zg s9_4)))]) [2, 3, 4, 0, 1] rfl
      have hD := hD.sub (ws' := [(C, .inr (4, [.ref X, .ref P, .ref O, .ref T, .ref U, .ref V, .ref Y, .ref S, .ref D, .ref E, .int hg, .int (nI k0), .int (nI k1), .long tr])), (P, .inr (1, [.ref Pa, .ref Pb, .ref Pc, .ref Pd, .int (nI hs), .int (nI np), .int (nI nm), .int (nI nw)])), (Pd, .inl (g.2.1.1, 18, .inl (zf kp))), (D, .inl (g.2.1.1, 241, .inl (zf to))), (E, .inl (g.2.1.1, 64, .inl (zg s9_4)))]) [2, 3, 4, 0, 1] (by decide) rfl
      exact hret 53 _ _ _ (nI (zWo kp (zBt kp s9_4 nw (2 ^ nw - 1)) nw)) s9_4 dX4_oneDay_53 rfl hP hD hS (show (nI (zWo kp (zBt kp s9_4 nw (2 ^ nw - 1)) nw)) = zDayA kp to nw w from by first | (rw [zDayA, if_neg (by omega)]; done) | (rw [zDayA, if_pos (by omega), if_pos (zi_w (by assumption) rfl), ← hbe]; done) | (rw [zDayA, if_pos (by omega), if_neg (zi_wn (by assumption) rfl), if_pos (zi_w (by assumption) rfl), ← hbe]; done) | (rw [zDayA, if_pos (by omega), if_neg (zi_wn (by assumption) rfl), if_neg (zi_wn (by assumption) rfl), ← hbe]; exact congrArg zNo (hsE _ (by omega))))
    · by_cases c_8 : w.toInt = (1 : Int)
      · refine zz_topi (y := 1) (zi_eq (zi_self w) (zi_c 1 rfl) c_8) ?_
        refine lv_lookup (off := 33) (tgt := 54) hx hb dX4_oneDay_21 (by decide) (by decide) (by decide) ?_
        refine lv_iload_n hx hb dX4_oneDay_54 rfl (lv_at hl 0 rfl) ?_
        have hP := hP.sub (ws' := [(C, .inr (4, [.ref X, .ref P, .ref O, .ref T, .ref U, .ref V, .ref Y, .ref S, .ref D, .ref E, .int hg, .int (nI k0), .int (nI k1), .long tr])), (P, .inr (1, [.ref Pa, .ref Pb, .ref Pc, .ref Pd, .int (nI hs), .int (nI np), .int (nI nm), .int (nI nw)])), (Pd, .inl (g.2.1.1, 18, .inl (zf kp))), (D, .inl (g.2.1.1, 241, .inl (zf to))), (E, .inl (g.2.1.1, 64, .inl (zg s9_4)))]) [1, 2, 3, 0, 4] rfl
        have hD := hD.sub (ws' := [(C, .inr (4, [.ref X, .ref P, .ref O, .ref T, .ref U, .ref V, .ref Y, .ref S, .ref D, .ref E, .int hg, .int (nI k0), .int (nI k1), .long tr])), (P, .inr (1, [.ref Pa, .ref Pb, .ref Pc, .ref Pd, .int (nI hs), .int (nI np), .int (nI nm), .int (nI nw)])), (Pd, .inl (g.2.1.1, 18, .inl (zf kp))), (D, .inl (g.2.1.1, 241, .inl (zf to))), (E, .inl (g.2.1.1, 64, .inl (zg s9_4)))]) [1, 2, 3, 0, 4] (by decide) rfl
        exact hret 55 _ _ _ (nI (zBt kp s9_4 nw (2 ^ nw - 1))) s9_4 dX4_oneDay_55 rfl hP hD hS (show (nI (zBt kp s9_4 nw (2 ^ nw - 1))) = zDayA kp to nw w from by first | (rw [zDayA, if_neg (by omega)]; done) | (rw [zDayA, if_pos (by omega), if_pos (zi_w (by assumption) rfl), ← hbe]; done) | (rw [zDayA, if_pos (by omega), if_neg (zi_wn (by assumption) rfl), if_pos (zi_w (by assumption) rfl), ← hbe]; done) | (rw [zDayA, if_pos (by omega), if_neg (zi_wn (by assumption) rfl), if_neg (zi_wn (by assumption) rfl), ← hbe]; exact congrArg zNo (hsE _ (by omega))))
      · have c_6_t : ¬ (w).toInt = 0 := by rw [(zi_self w), zi_t (by omega) (by omega)]; exact c_6
        have c_8_t : ¬ (w).toInt = 1 := by rw [(zi_self w), zi_t (by omega) (by omega)]; exact c_8
        refine lv_lookup (off := 35) (tgt := 56) hx hb dX4_oneDay_21 (by decide) (by first | (simp only [Op.lookupswitch.offset_cons, eq_comm (b := (w).toInt), c_6_t, eq_comm (b := (w).toInt), c_8_t, if_false, ite_false]; rfl) | simp [Op.lookupswitch.offset, c_6_t, c_8_t]) (by decide) ?_
        refine lv_aload_n hx hb dX4_oneDay_56 rfl (lv_at hl 1 rfl) ?_
        refine lv_iload_n hx hb dX4_oneDay_57 rfl (lv_at hl 0 rfl) ?_
        refine zz_callI (wr := [(D, .inl (g.2.1.1, 241, .inl (zf to))), (P, .inr (1, [.ref Pa, .ref Pb, .ref Pc, .ref Pd, .int (nI hs), .int (nI np), .int (nI nm), .int (nI nw)])), (Pd, .inl (g.2.1.1, 18, .inl (zf kp)))]) (wc := [(C, .inr (4, [.ref X, .ref P, .ref O, .ref T, .ref U, .ref V, .ref Y, .ref S, .ref D, .ref E, .int hg, .int (nI k0), .int (nI k1), .long tr])), (E, .inl (g.2.1.1, 64, .inl (zg s9_4)))]) (As := [.int (nI (zBt kp s9_4 nw (2 ^ nw - 1)))]) (rest := []) F hK hE hA hP hD hS (c_X4_endOfSet l g (C := C) (X := X) (P := P) (O := O) (T := T) (U := U) (V := V) (Y := Y) (S := S) (D := D) (E := E) (hg := hg) (k0 := k0) (k1 := k1) (tr := tr) (se := s9_4) (k := (zBt kp s9_4 nw (2 ^ nw - 1))) (hk := by first | assumption | omega)) (cwV 1 hts gX4_oneDay_X4_endOfSet rfl rfl rfl (by decide +kernel) ⟨Nat.le_of_ble_eq_true rfl, Nat.le_of_ble_eq_true rfl⟩) [1, 4] [0, 2, 3] rfl rfl (by decide) (by decide) (by decide) 4 0 rfl rfl rfl rfl rfl hl.1 (Nat.le_of_ble_eq_true rfl) dX4_oneDay_58 ⟨Nat.le_of_ble_eq_true rfl, Nat.le_of_ble_eq_true rfl⟩ (fun r_9 u_9 H locs hw hP hD hS => ?_)
        have hP : va_P g.1 vwCl [(D, .inl (g.2.1.1, 241, .inl (zf to))), (P, .inr (1, [.ref Pa, .ref Pb, .ref Pc, .ref Pd, .int (nI hs), .int (nI np), .int (nI nm), .int (nI nw)])), (Pd, .inl (g.2.1.1, 18, .inl (zf kp))), (C, .inr (4, [.ref X, .ref P, .ref O, .ref T, .ref U, .ref V, .ref Y, .ref S, .ref D, .ref E, .int hg, .int (nI k0), .int (nI k1), .long tr])), (E, .inl (g.2.1.1, 64, .inl (zg s9_4)))] _ := hP
        have hD : va_D A [(D, .inl (g.2.1.1, 241, .inl (zf to))), (P, .inr (1, [.ref Pa, .ref Pb, .ref Pc, .ref Pd, .int (nI hs), .int (nI np), .int (nI nm), .int (nI nw)])), (Pd, .inl (g.2.1.1, 18, .inl (zf kp))), (C, .inr (4, [.ref X, .ref P, .ref O, .ref T, .ref U, .ref V, .ref Y, .ref S, .ref D, .ref E, .int hg, .int (nI k0), .int (nI k1), .long tr])), (E, .inl (g.2.1.1, 64, .inl (zg s9_4)))] := hD
        have hr_9 := hw
        have hr_9 : r_9 = zNo (s9_4 (zBt kp s9_4 nw (2 ^ nw - 1))) := hr_9
        subst hr_9
        have hz_9 := zOi_s (s9_4 (zBt kp s9_4 nw (2 ^ nw - 1)))
        have hP := hP.sub (ws' := [(C, .inr (4, [.ref X, .ref P, .ref O, .ref T, .ref U, .ref V, .ref Y, .ref S, .ref D, .ref E, .int hg, .int (nI k0), .int (nI k1), .long tr])), (P, .inr (1, [.ref Pa, .ref Pb, .ref Pc, .ref Pd, .int (nI hs), .int (nI np), .int (nI nm), .int (nI nw)])), (Pd, .inl (g.2.1.1, 18, .inl (zf kp))), (D, .inl (g.2.1.1, 241, .inl (zf to))), (E, .inl (g.2.1.1, 64, .inl (zg s9_4)))]) [3, 1, 2, 0, 4] rfl
        have hD := hD.sub (ws' := [(C, .inr (4, [.ref X, .ref P, .ref O, .ref T, .ref U, .ref V, .ref Y, .ref S, .ref D, .ref E, .int hg, .int (nI k0), .int (nI k1), .long tr])), (P, .inr (1, [.ref Pa, .ref Pb, .ref Pc, .ref Pd, .int (nI hs), .int (nI np), .int (nI nm), .int (nI nw)])), (Pd, .inl (g.2.1.1, 18, .inl (zf kp))), (D, .inl (g.2.1.1, 241, .inl (zf to))), (E, .inl (g.2.1.1, 64, .inl (zg s9_4)))]) [3, 1, 2, 0, 4] (by decide) rfl
        exact hret 61 _ _ _ (zNo (s9_4 (zBt kp s9_4 nw (2 ^ nw - 1)))) s9_4 dX4_oneDay_61 rfl hP hD hS (show (zNo (s9_4 (zBt kp s9_4 nw (2 ^ nw - 1)))) = zDayA kp to nw w from by first | (rw [zDayA, if_neg (by omega)]; done) | (rw [zDayA, if_pos (by omega), if_pos (zi_w (by assumption) rfl), ← hbe]; done) | (rw [zDayA, if_pos (by omega), if_neg (zi_wn (by assumption) rfl), if_pos (zi_w (by assumption) rfl), ← hbe]; done) | (rw [zDayA, if_pos (by omega), if_neg (zi_wn (by assumption) rfl), if_neg (zi_wn (by assumption) rfl), ← hbe]; exact congrArg zNo (hsE _ (by omega))))
  · rw [if_neg b_2] at hr_1
    subst hr_1
    refine zz_if_ne (tgt := 11) hx hb dX4_oneDay_6 (by decide) (zi_c 0 rfl) (by omega) (fun c_10 => (by exfalso; omega)) (fun c_10 => ?_)
    refine lv_iconst (v := (-1)) hx hb dX4_oneDay_9 (by decide) ?_
    exact hret 10 _ _ _ (-1) se dX4_oneDay_10 rfl hP hD hS (show (-1) = zDayA kp to nw w from by first | (rw [zDayA, if_neg (by omega)]; done) | (rw [zDayA, if_pos (by omega), if_pos (zi_w (by assumption) rfl), ← hbe]; done) | (rw [zDayA, if_pos (by omega), if_neg (zi_wn (by assumption) rfl), if_pos (zi_w (by assumption) rfl), ← hbe]; done) | (rw [zDayA, if_pos (by omega), if_neg (zi_wn (by assumption) rfl), if_neg (zi_wn (by assumption) rfl), ← hbe]; exact congrArg zNo (hsE _ (by omega))))

set_option maxHeartbeats 4000000 in
set_option maxRecDepth 100000 in
theorem c_X4_hoursPay (l : Launch) (g : zG) (C X P O T U V Y S D E : Nat) (hg : Int32) (k0 k1 : Nat) (tr : Int64) (Pa Pb Pc Pd : Nat) (hs np nm nw : Nat) (a : Nat) (w : Nat) (hhs : 0 < hs ∧ hs < 1000) (ha : a ≤ 20000) (hw : w ≤ 99) : zI l yX4_hoursPay wsX4_hoursPay 1 21 g [.ref C, .int (nI a), .int (nI w)] [(C, .inr (4, [.ref X, .ref P, .ref O, .ref T, .ref U, .ref V, .ref Y, .ref S, .ref D, .ref E, .int hg, .int (nI k0), .int (nI k1), .long tr])), (P, .inr (1, [.ref Pa, .ref Pb, .ref Pc, .ref Pd, .int (nI hs), .int (nI np), .int (nI nm), .int (nI nw)]))] (fun (r : Int32) (u : Unit) => r = nI (zPay hs a w)) (fun (u : Unit) => [(C, .inr (4, [.ref X, .ref P, .ref O, .ref T, .ref U, .ref V, .ref Y, .ref S, .ref D, .ref E, .int hg, .int (nI k0), .int (nI k1), .long tr])), (P, .inr (1, [.ref Pa, .ref Pb, .ref Pc, .ref Pd, .int (nI hs), .int (nI np), .int (nI nm), .int (nI nw)]))]) := by
  refine zz_bodyI (cc := cX4_hoursPay) (nL := 3) (own := RX4) (ty := .int) (by decide) rfl rfl (Nat.le_of_ble_eq_true rfl) ?_
  intro pP eE s mM below meth cC A Q ls F hA hK hE hP hD hl hret
  have hS : va_S A s.heap s.heap [] := va_S.rf
  obtain ⟨hx, hb, hml, hown, hts⟩ := id F
  have hiX4 : ∀ w ∈ u_ws RX4 TX4 14, w ∈ wsX4_hoursPay := by decide +kernel
  have hf0 := hts (.fieldLink RX4 19 "StepClock" "plan" "LStepClock$Plan;") (by decide +kernel)
  have hl : lv_has ls 3 [(0, .ref C), (1, .int (nI a)), (2, .int (nI w))] := hl
  refine lv_aload_n hx hb dX4_hoursPay_0 rfl (lv_at hl 0 rfl) ?_
  refine va_get (D := g.1) (ci := 4) (v := .ref P) (C := RX4) (T := TX4) (N := 14) hx hb hts hiX4 hown hK.1 hP 0 rfl rfl 1 (by decide) hf0 (fun _ h9 => h9) rfl dX4_hoursPay_1 ?_
  refine lv_iload_n hx hb dX4_hoursPay_4 rfl (lv_at hl 1 rfl) ?_
  refine zz_callI (wr := [(C, .inr (4, [.ref X, .ref P, .ref O, .ref T, .ref U, .ref V, .ref Y, .ref S, .ref D, .ref E, .int hg, .int (nI k0), .int (nI k1), .long tr]))]) (wc := [(P, .inr (1, [.ref Pa, .ref Pb, .ref Pc, .ref Pd, .int (nI hs), .int (nI np), .int (nI nm), .int (nI nw)]))]) (As := [.int (nI a)]) (rest := []) F hK hE hA hP hD hS (c_X1_hourOf l g (P := P) (Pa := Pa) (Pb := Pb) (Pc := Pc) (Pd := Pd) (hs := hs) (np := np) (nm := nm) (nw := nw) (x := a) (hhs := by first | assumption | omega) (hx1 := by first | assumption | omega)) (cwV 1 hts gX4_hoursPay_X1_hourOf rfl rfl rfl (by decide +kernel) ⟨Nat.le_of_ble_eq_true rfl, Nat.le_of_ble_eq_true rfl⟩) [1] [0] rfl rfl (by decide) (by decide) (by decide) 1 0 rfl rfl rfl rfl rfl hl.1 (Nat.le_of_ble_eq_true rfl) dX4_hoursPay_5 ⟨Nat.le_of_ble_eq_true rfl, Nat.le_of_ble_eq_true rfl⟩ (fun r_1 u_1 H locs hw hP hD hS => ?_)
  have hP : va_P g.1 vwCl [(C, .inr (4, [.ref X, .ref P, .ref O, .ref T, .ref U, .ref V, .ref Y, .ref S, .ref D, .ref E, .int hg, .int (nI k0), .int (nI k1), .long tr])), (P, .inr (1, [.ref Pa, .ref Pb, .ref Pc, .ref Pd, .int (nI hs), .int (nI np), .int (nI nm), .int (nI nw)]))] _ := hP
  have hD : va_D A [(C, .inr (4, [.ref X, .ref P, .ref O, .ref T, .ref U, .ref V, .ref Y, .ref S, .ref D, .ref E, .int hg, .int (nI k0), .int (nI k1), .long tr])), (P, .inr (1, [.ref Pa, .ref Pb, .ref Pc, .ref Pd, .int (nI hs), .int (nI np), .int (nI nm), .int (nI nw)]))] := hD
  have hr_1 := hw
  have hr_1 : r_1 = nI (a / hs) := hr_1
  subst hr_1
  refine lv_iload_n hx hb dX4_hoursPay_8 rfl (lv_at hl 2 rfl) ?_
  refine lv_imul hx hb dX4_hoursPay_9 ?_
  exact hret 10 _ _ _ ((nI (a / hs)) * (nI w)) () dX4_hoursPay_10 rfl hP hD hS (show ((nI (a / hs)) * (nI w)) = nI (zPay hs a w) from by exact pk_mul _ _)

set_option maxHeartbeats 4000000 in
set_option maxRecDepth 100000 in
theorem c_X4_isRest (l : Launch) (g : zG) (C X P O T U V Y S D E : Nat) (hg : Int32) (k0 k1 : Nat) (tr : Int64) (Pa Pb Pc Pd : Nat) (hs np nm nw : Nat) (k : Nat) (n : Nat) (b : Nat) (t1 : Nat) (w : Nat) (t : Nat) (hhs : 0 < hs ∧ hs < 1000) (hk : k ≤ n) (hn : n ≤ 8) (hbb : b ≤ 9999) (ht1 : t1 ≤ 999) (hw : w ≤ 99) (ht : t ≤ 99) : zI l yX4_isRest wsX4_isRest 2 43 g [.ref C, .int (nI k), .int (nI n), .int (nI b), .int (nI t1), .int (nI w), .int (nI t)] [(C, .inr (4, [.ref X, .ref P, .ref O, .ref T, .ref U, .ref V, .ref Y, .ref S, .ref D, .ref E, .int hg, .int (nI k0), .int (nI k1), .long tr])), (P, .inr (1, [.ref Pa, .ref Pb, .ref Pc, .ref Pd, .int (nI hs), .int (nI np), .int (nI nm), .int (nI nw)]))] (fun (r : Int32) (u : Unit) => r = if zRest hs k n b t1 w t then 1 else 0) (fun (u : Unit) => [(C, .inr (4, [.ref X, .ref P, .ref O, .ref T, .ref U, .ref V, .ref Y, .ref S, .ref D, .ref E, .int hg, .int (nI k0), .int (nI k1), .long tr])), (P, .inr (1, [.ref Pa, .ref Pb, .ref Pc, .ref Pd, .int (nI hs), .int (nI np), .int (nI nm), .int (nI nw)]))]) := by
  refine zz_bodyI (cc := cX4_isRest) (nL := 10) (own := RX4) (ty := .boolean) (by decide) rfl rfl (Nat.le_of_ble_eq_true rfl) ?_
  intro pP eE s mM below meth cC A Q ls F hA hK hE hP hD hl hret
  have hS : va_S A s.heap s.heap [] := va_S.rf
  obtain ⟨hx, hb, hml, hown, hts⟩ := id F
  have hl : lv_has ls 10 [(0, .ref C), (1, .int (nI k)), (2, .int (nI n)), (3, .int (nI b)), (4, .int (nI t1)), (5, .int (nI w)), (6, .int (nI t))] := hl
  have hm0 : k * t1 ≤ 8 * 999 := Nat.mul_le_mul (by omega) (by omega)
  have hm1 : (k - 1) * t1 ≤ 8 * 999 := Nat.mul_le_mul (by omega) (by omega)
  have hm2 : (k + 1) * t1 ≤ 9 * 999 := Nat.mul_le_mul (by omega) (by omega)
  have hp0 := zPay_le (a := b + k * t1) (w := w) hhs.1 (by omega) (by omega)
  have hp1 := zPay_le (a := b + (k - 1) * t1) (w := w) hhs.1 (by omega) (by omega)
  have hp2 := zPay_le (a := b + (k + 1) * t1) (w := w) hhs.1 (by omega) (by omega)
  have hm3 : ((k : Int) + 1) * (t1 : Int) = (((k + 1) * t1 : Nat) : Int) := by rw [Int.natCast_mul, Int.natCast_add]; rfl
  have hm4 : 1 ≤ k → ((k : Int) - 1) * (t1 : Int) = (((k - 1) * t1 : Nat) : Int) := fun q => by rw [Int.natCast_mul, Int.natCast_sub q]; rfl
  refine lv_aload_n hx hb dX4_isRest_0 rfl (lv_at hl 0 rfl) ?_
  refine lv_iload_n hx hb dX4_isRest_1 rfl (lv_at hl 3 rfl) ?_
  refine lv_iload_n hx hb dX4_isRest_2 rfl (lv_at hl 1 rfl) ?_
  refine lv_iload hx hb dX4_isRest_3 (lv_at hl 4 rfl) ?_
  refine lv_imul hx hb dX4_isRest_5 ?_
  refine lv_iadd hx hb dX4_isRest_6 ?_
  refine lv_iload hx hb dX4_isRest_7 (lv_at hl 5 rfl) ?_
  refine zz_st (st2 := [.int (nI w), .int (nI (b + (k * t1))), .ref C]) (congrArg (fun z : Int32 => ([.int (nI w), .int z, .ref C] : List Value)) (show (nI b) + ((nI k) * (nI t1)) = nI (b + (k * t1)) from (zi_eq (zi_add (zi_n b) (zi_mul (zi_n k) (zi_n t1))) (zi_n (b + (k * t1))) (by omega)))) ?_
  refine zz_callI (wr := []) (wc := [(C, .inr (4, [.ref X, .ref P, .ref O, .ref T, .ref U, .ref V, .ref Y, .ref S, .ref D, .ref E, .int hg, .int (nI k0), .int (nI k1), .long tr])), (P, .inr (1, [.ref Pa, .ref Pb, .ref Pc, .ref Pd, .int (nI hs), .int (nI np), .int (nI nm), .int (nI nw)]))]) (As := [.int (nI (b + (k * t1))), .int (nI w)]) (rest := []) F hK hE hA hP hD hS (c_X4_hoursPay l g (C := C) (X := X) (P := P) (O := O) (T := T) (U := U) (V := V) (Y := Y) (S := S) (D := D) (E := E) (hg := hg) (k0 := k0) (k1 := k1) (tr := tr) (Pa := Pa) (Pb := Pb) (Pc := Pc) (Pd := Pd) (hs := hs) (np := np) (nm := nm) (nw := nw) (a := (b + (k * t1))) (w := w) (hhs := by first | assumption | omega) (ha := by first | assumption | omega) (hw := by first | assumption | omega)) (cwV 2 hts gX4_isRest_X4_hoursPay rfl rfl rfl (by decide +kernel) ⟨Nat.le_of_ble_eq_true rfl, Nat.le_of_ble_eq_true rfl⟩) [0, 1] [] rfl rfl (by decide) (by decide) (by decide) 4 0 rfl rfl rfl rfl rfl hl.1 (Nat.le_of_ble_eq_true rfl) dX4_isRest_9 ⟨Nat.le_of_ble_eq_true rfl, Nat.le_of_ble_eq_true rfl⟩ (fun r_1 u_1 H locs hw hP hD hS => ?_)
  have hP : va_P g.1 vwCl [(C, .inr (4, [.ref X, .ref P, .ref O, .ref T, .ref U, .ref V, .ref Y, .ref S, .ref D, .ref E, .int hg, .int (nI k0), .int (nI k1), .long tr])), (P, .inr (1, [.ref Pa, .ref Pb, .ref Pc, .ref Pd, .int (nI hs), .int (nI np), .int (nI nm), .int (nI nw)]))] _ := hP
  have hD : va_D A [(C, .inr (4, [.ref X, .ref P, .ref O, .ref T, .ref U, .ref V, .ref Y, .ref S, .ref D, .ref E, .int hg, .int (nI k0), .int (nI k1), .long tr])), (P, .inr (1, [.ref Pa, .ref Pb, .ref Pc, .ref Pd, .int (nI hs), .int (nI np), .int (nI nm), .int (nI nw)]))] := hD
  have hr_1 := hw
  have hr_1 : r_1 = nI (zPay hs (b + (k * t1)) w) := hr_1
  subst hr_1
  refine lv_istore (lv' := [(7, .int (nI (zPay hs (b + (k * t1)) w))), (0, .ref C), (1, .int (nI k)), (2, .int (nI n)), (3, .int (nI b)), (4, .int (nI t1)), (5, .int (nI w)), (6, .int (nI t))]) hx hb dX4_isRest_12 hl (by decide) rfl (fun ls hl => ?_)
  have hcut47 : ∀ (c1 : Nat) (H : Heap) (locs : List Loc) (ls : Array Slot), ((c1 = 1 ∧ (k = 0 ∨ zPay hs (b + (k - 1) * t1) w + t ≤ zPay hs (b + k * t1) w)) ∨ (c1 = 0 ∧ ¬ (k = 0 ∨ zPay hs (b + (k - 1) * t1) w + t ≤ zPay hs (b + k * t1) w))) → va_P g.1 vwCl [(C, .inr (4, [.ref X, .ref P, .ref O, .ref T, .ref U, .ref V, .ref Y, .ref S, .ref D, .ref E, .int hg, .int (nI k0), .int (nI k1), .long tr])), (P, .inr (1, [.ref Pa, .ref Pb, .ref Pc, .ref Pd, .int (nI hs), .int (nI np), .int (nI nm), .int (nI nw)]))] H → va_D A [(C, .inr (4, [.ref X, .ref P, .ref O, .ref T, .ref U, .ref V, .ref Y, .ref S, .ref D, .ref E, .int hg, .int (nI k0), .int (nI k1), .long tr])), (P, .inr (1, [.ref Pa, .ref Pb, .ref Pc, .ref Pd, .int (nI hs), .int (nI np), .int (nI nm), .int (nI nw)]))] → va_S A s.heap H locs → lv_has ls 10 [(0, .ref C), (1, .int (nI k)), (2, .int (nI n)), (3, .int (nI b)), (4, .int (nI t1)), (5, .int (nI w)), (6, .int (nI t)), (7, .int (nI (zPay hs (b + (k * t1)) w))), (8, .int (nI c1))] → W pP l eE { frames := 2, cells := 0, slots := 0, locals := 43 } s mM ([.ref C, .int (nI k), .int (nI n), .int (nI b), .int (nI t1), .int (nI w), .int (nI t)] : List Value).toArray below meth cC H locs 0 0 Q (F0 mM 47 ls []) := by
    intro c1 H locs ls h1 hP hD hS hl
    have hcut81 : ∀ (c2 : Nat) (H : Heap) (locs : List Loc) (ls : Array Slot), ((c2 = 1 ∧ (k = n ∨ zPay hs (b + (k + 1) * t1) w ≤ zPay hs (b + k * t1) w + t)) ∨ (c2 = 0 ∧ ¬ (k = n ∨ zPay hs (b + (k + 1) * t1) w ≤ zPay hs (b + k * t1) w + t))) → va_P g.1 vwCl [(C, .inr (4, [.ref X, .ref P, .ref O, .ref T, .ref U, .ref V, .ref Y, .ref S, .ref D, .ref E, .int hg, .int (nI k0), .int (nI k1), .long tr])), (P, .inr (1, [.ref Pa, .ref Pb, .ref Pc, .ref Pd, .int (nI hs), .int (nI np), .int (nI nm), .int (nI nw)]))] H → va_D A [(C, .inr (4, [.ref X, .ref P, .ref O, .ref T, .ref U, .ref V, .ref Y, .ref S, .ref D, .ref E, .int hg, .int (nI k0), .int (nI k1), .long tr])), (P, .inr (1, [.ref Pa, .ref Pb, .ref Pc, .ref Pd, .int (nI hs), .int (nI np), .int (nI nm), .int (nI nw)]))] → va_S A s.heap H locs → lv_has ls 10 [(0, .ref C), (1, .int (nI k)), (2, .int (nI n)), (3, .int (nI b)), (4, .int (nI t1)), (5, .int (nI w)), (6, .int (nI t)), (7, .int (nI (zPay hs (b + (k * t1)) w))), (8, .int (nI c1)), (9, .int (nI c2))] → W pP l eE { frames := 2, cells := 0, slots := 0, locals := 43 } s mM ([.ref C, .int (nI k), .int (nI n), .int (nI b), .int (nI t1), .int (nI w), .int (nI t)] : List Value).toArray below meth cC H locs 0 0 Q (F0 mM 81 ls []) := by
      intro c2 H locs ls h2 hP hD hS hl
      refine lv_iload hx hb dX4_isRest_81 (lv_at hl 8 rfl) ?_
      refine zz_if_eq (tgt := 95) hx hb dX4_isRest_83 (by decide) (zi_n c1) (by omega) (fun c_2 => ?_) (fun c_2 => ?_)
      · refine lv_iconst (v := 0) hx hb dX4_isRest_95 (by decide) ?_
        exact hret 96 _ _ _ 0 () dX4_isRest_96 rfl hP hD hS (show 0 = if zRest hs k n b t1 w t then 1 else 0 from by first | (rw [if_pos ⟨by omega, by omega⟩]; done) | (rw [if_neg (fun q => by have q1 := q.1; have q2 := q.2; omega)]; done))
      · refine lv_iload hx hb dX4_isRest_86 (lv_at hl 9 rfl) ?_
        refine zz_if_eq (tgt := 95) hx hb dX4_isRest_88 (by decide) (zi_n c2) (by omega) (fun c_3 => ?_) (fun c_3 => ?_)
        · refine lv_iconst (v := 0) hx hb dX4_isRest_95 (by decide) ?_
          exact hret 96 _ _ _ 0 () dX4_isRest_96 rfl hP hD hS (show 0 = if zRest hs k n b t1 w t then 1 else 0 from by first | (rw [if_pos ⟨by omega, by omega⟩]; done) | (rw [if_neg (fun q => by have q1 := q.1; have q2 := q.2; omega)]; done))
        · refine lv_iconst (v := 1) hx hb dX4_isRest_91 (by decide) ?_
          refine lv_goto (tgt := 96) hx hb dX4_isRest_92 (by decide) ?_
          exact hret 96 _ _ _ 1 () dX4_isRest_96 rfl hP hD hS (show 1 = if zRest hs k n b t1 w t then 1 else 0 from by first | (rw [if_pos ⟨by omega, by omega⟩]; done) | (rw [if_neg (fun q => by have q1 := q.1; have q2 := q.2; omega)]; done))
    refine lv_iload_n hx hb dX4_isRest_47 rfl (lv_at hl 1 rfl) ?_
    refine lv_iload_n hx hb dX4_isRest_48 rfl (lv_at hl 2 rfl) ?_
    refine zz_icmp_eq (tgt := 74) hx hb dX4_isRest_49 (by decide) (zi_n k) (zi_n n) (by omega) (by omega) (fun c_4 => ?_) (fun c_4 => ?_)
    · refine lv_iconst (v := 1) hx hb dX4_isRest_74 (by decide) ?_
      refine lv_goto (tgt := 79) hx hb dX4_isRest_75 (by decide) ?_
      refine lv_istore (lv' := [(9, .int 1), (0, .ref C), (1, .int (nI k)), (2, .int (nI n)), (3, .int (nI b)), (4, .int (nI t1)), (5, .int (nI w)), (6, .int (nI t)), (7, .int (nI (zPay hs (b + (k * t1)) w))), (8, .int (nI c1))]) hx hb dX4_isRest_79 hl (by decide) rfl (fun ls hl => ?_)
      exact hcut81 1 _ _ _ (show (1 = 1 ∧ (k = n ∨ zPay hs (b + (k + 1) * t1) w ≤ zPay hs (b + k * t1) w + t)) ∨ (1 = 0 ∧ ¬ (k = n ∨ zPay hs (b + (k + 1) * t1) w ≤ zPay hs (b + k * t1) w + t)) from by omega) hP hD hS (lv_sub hl [1, 2, 3, 4, 5, 6, 7, 8, 9, 0] rfl)
    · refine lv_aload_n hx hb dX4_isRest_52 rfl (lv_at hl 0 rfl) ?_
      refine lv_iload_n hx hb dX4_isRest_53 rfl (lv_at hl 3 rfl) ?_
      refine lv_iload_n hx hb dX4_isRest_54 rfl (lv_at hl 1 rfl) ?_
      refine lv_iconst (v := 1) hx hb dX4_isRest_55 (by decide) ?_
      refine lv_iadd hx hb dX4_isRest_56 ?_
      refine lv_iload hx hb dX4_isRest_57 (lv_at hl 4 rfl) ?_
      refine lv_imul hx hb dX4_isRest_59 ?_
      refine lv_iadd hx hb dX4_isRest_60 ?_
      refine lv_iload hx hb dX4_isRest_61 (lv_at hl 5 rfl) ?_
      refine zz_st (st2 := [.int (nI w), .int (nI (b + ((k + 1) * t1))), .ref C]) (congrArg (fun z : Int32 => ([.int (nI w), .int z, .ref C] : List Value)) (show (nI b) + (((nI k) + 1) * (nI t1)) = nI (b + ((k + 1) * t1)) from (zi_eq (zi_add (zi_n b) (zi_mul (zi_add (zi_n k) (zi_c 1 rfl)) (zi_n t1))) (zi_n (b + ((k + 1) * t1))) (by omega)))) ?_
      refine zz_callI (wr := []) (wc := [(C, .inr (4, [.ref X, .ref P, .ref O, .ref T, .ref U, .ref V, .ref Y, .ref S, .ref D, .ref E, .int hg, .int (nI k0), .int (nI k1), .long tr])), (P, .inr (1, [.ref Pa, .ref Pb, .ref Pc, .ref Pd, .int (nI hs), .int (nI np), .int (nI nm), .int (nI nw)]))]) (As := [.int (nI (b + ((k + 1) * t1))), .int (nI w)]) (rest := []) F hK hE hA hP hD hS (c_X4_hoursPay l g (C := C) (X := X) (P := P) (O := O) (T := T) (U := U) (V := V) (Y := Y) (S := S) (D := D) (E := E) (hg := hg) (k0 := k0) (k1 := k1) (tr := tr) (Pa := Pa) (Pb := Pb) (Pc := Pc) (Pd := Pd) (hs := hs) (np := np) (nm := nm) (nw := nw) (a := (b + ((k + 1) * t1))) (w := w) (hhs := by first | assumption | omega) (ha := by first | assumption | omega) (hw := by first | assumption | omega)) (cwV 2 hts gX4_isRest_X4_hoursPay rfl rfl rfl (by decide +kernel) ⟨Nat.le_of_ble_eq_true rfl, Nat.le_of_ble_eq_true rfl⟩) [0, 1] [] rfl rfl (by decide) (by decide) (by decide) 4 0 rfl rfl rfl rfl rfl hl.1 (Nat.le_of_ble_eq_true rfl) dX4_isRest_63 ⟨Nat.le_of_ble_eq_true rfl, Nat.le_of_ble_eq_true rfl⟩ (fun r_5 u_5 H locs hw hP hD hS => ?_)
      have hP : va_P g.1 vwCl [(C, .inr (4, [.ref X, .ref P, .ref O, .ref T, .ref U, .ref V, .ref Y, .ref S, .ref D, .ref E, .int hg, .int (nI k0), .int (nI k1), .long tr])), (P, .inr (1, [.ref Pa, .ref Pb, .ref Pc, .ref Pd, .int (nI hs), .int (nI np), .int (nI nm), .int (nI nw)]))] _ := hP
      have hD : va_D A [(C, .inr (4, [.ref X, .ref P, .ref O, .ref T, .ref U, .ref V, .ref Y, .ref S, .ref D, .ref E, .int hg, .int (nI k0), .int (nI k1), .long tr])), (P, .inr (1, [.ref Pa, .ref Pb, .ref Pc, .ref Pd, .int (nI hs), .int (nI np), .int (nI nm), .int (nI nw)]))] := hD
      have hr_5 := hw
      have hr_5 : r_5 = nI (zPay hs (b + ((k + 1) * t1)) w) := hr_5
      subst hr_5
      refine lv_iload hx hb dX4_isRest_66 (lv_at hl 6 rfl) ?_
      refine lv_isub hx hb dX4_isRest_68 ?_
      refine lv_iload hx hb dX4_isRest_69 (lv_at hl 7 rfl) ?_
      refine zz_icmp_gt (tgt := 78) hx hb dX4_isRest_71 (by decide) (zi_sub (zi_n (zPay hs (b + ((k + 1) * t1)) w)) (zi_n t)) (zi_n (zPay hs (b + (k * t1)) w)) (by omega) (by omega) (fun c_6 => ?_) (fun c_6 => ?_)
      · refine lv_iconst (v := 0) hx hb dX4_isRest_78 (by decide) ?_
        refine lv_istore (lv' := [(9, .int 0), (0, .ref C), (1, .int (nI k)), (2, .int (nI n)), (3, .int (nI b)), (4, .int (nI t1)), (5, .int (nI w)), (6, .int (nI t)), (7, .int (nI (zPay hs (b + (k * t1)) w))), (8, .int (nI c1))]) hx hb dX4_isRest_79 hl (by decide) rfl (fun ls hl => ?_)
        exact hcut81 0 _ _ _ (show (0 = 1 ∧ (k = n ∨ zPay hs (b + (k + 1) * t1) w ≤ zPay hs (b + k * t1) w + t)) ∨ (0 = 0 ∧ ¬ (k = n ∨ zPay hs (b + (k + 1) * t1) w ≤ zPay hs (b + k * t1) w + t)) from by omega) hP hD hS (lv_sub hl [1, 2, 3, 4, 5, 6, 7, 8, 9, 0] rfl)
      · refine lv_iconst (v := 1) hx hb dX4_isRest_74 (by decide) ?_
        refine lv_goto (tgt := 79) hx hb dX4_isRest_75 (by decide) ?_
        refine lv_istore (lv' := [(9, .int 1), (0, .ref C), (1, .int (nI k)), (2, .int (nI n)), (3, .int (nI b)), (4, .int (nI t1)), (5, .int (nI w)), (6, .int (nI t)), (7, .int (nI (zPay hs (b + (k * t1)) w))), (8, .int (nI c1))]) hx hb dX4_isRest_79 hl (by decide) rfl (fun ls hl => ?_)
        exact hcut81 1 _ _ _ (show (1 = 1 ∧ (k = n ∨ zPay hs (b + (k + 1) * t1) w ≤ zPay hs (b + k * t1) w + t)) ∨ (1 = 0 ∧ ¬ (k = n ∨ zPay hs (b + (k + 1) * t1) w ≤ zPay hs (b + k * t1) w + t)) from by omega) hP hD hS (lv_sub hl [1, 2, 3, 4, 5, 6, 7, 8, 9, 0] rfl)
  refine lv_iload_n hx hb dX4_isRest_14 rfl (lv_at hl 2 rfl) ?_
  refine zz_if_eq (tgt := 40) hx hb dX4_isRest_15 (by decide) (zi_n k) (by omega) (fun c_7 => ?_) (fun c_7 => ?_)
  · refine lv_iconst (v := 1) hx hb dX4_isRest_40 (by decide) ?_
    refine lv_goto (tgt := 45) hx hb dX4_isRest_41 (by decide) ?_
    refine lv_istore (lv' := [(8, .int 1), (7, .int (nI (zPay hs (b + (k * t1)) w))), (0, .ref C), (1, .int (nI k)), (2, .int (nI n)), (3, .int (nI b)), (4, .int (nI t1)), (5, .int (nI w)), (6, .int (nI t))]) hx hb dX4_isRest_45 hl (by decide) rfl (fun ls hl => ?_)
    exact hcut47 1 _ _ _ (show (1 = 1 ∧ (k = 0 ∨ zPay hs (b + (k - 1) * t1) w + t ≤ zPay hs (b + k * t1) w)) ∨ (1 = 0 ∧ ¬ (k = 0 ∨ zPay hs (b + (k - 1) * t1) w + t ≤ zPay hs (b + k * t1) w)) from by omega) hP hD hS (lv_sub hl [2, 3, 4, 5, 6, 7, 8, 1, 0] rfl)
  · refine lv_aload_n hx hb dX4_isRest_18 rfl (lv_at hl 1 rfl) ?_
    refine lv_iload_n hx hb dX4_isRest_19 rfl (lv_at hl 4 rfl) ?_
    refine lv_iload_n hx hb dX4_isRest_20 rfl (lv_at hl 2 rfl) ?_
    refine lv_iconst (v := 1) hx hb dX4_isRest_21 (by decide) ?_
    refine lv_isub hx hb dX4_isRest_22 ?_
    refine lv_iload hx hb dX4_isRest_23 (lv_at hl 5 rfl) ?_
    refine lv_imul hx hb dX4_isRest_25 ?_
    refine lv_iadd hx hb dX4_isRest_26 ?_
    refine lv_iload hx hb dX4_isRest_27 (lv_at hl 6 rfl) ?_
    refine zz_st (st2 := [.int (nI w), .int (nI (b + ((k - 1) * t1))), .ref C]) (congrArg (fun z : Int32 => ([.int (nI w), .int z, .ref C] : List Value)) (show (nI b) + (((nI k) - 1) * (nI t1)) = nI (b + ((k - 1) * t1)) from (zi_eq (zi_add (zi_n b) (zi_mul (zi_sub (zi_n k) (zi_c 1 rfl)) (zi_n t1))) (zi_n (b + ((k - 1) * t1))) (by omega)))) ?_
    refine zz_callI (wr := []) (wc := [(C, .inr (4, [.ref X, .ref P, .ref O, .ref T, .ref U, .ref V, .ref Y, .ref S, .ref D, .ref E, .int hg, .int (nI k0), .int (nI k1), .long tr])), (P, .inr (1, [.ref Pa, .ref Pb, .ref Pc, .ref Pd, .int (nI hs), .int (nI np), .int (nI nm), .int (nI nw)]))]) (As := [.int (nI (b + ((k - 1) * t1))), .int (nI w)]) (rest := []) F hK hE hA hP hD hS (c_X4_hoursPay l g (C := C) (X := X) (P := P) (O := O) (T := T) (U := U) (V := V) (Y := Y) (S := S) (D := D) (E := E) (hg := hg) (k0 := k0) (k1 := k1) (tr := tr) (Pa := Pa) (Pb := Pb) (Pc := Pc) (Pd := Pd) (hs := hs) (np := np) (nm := nm) (nw := nw) (a := (b + ((k - 1) * t1))) (w := w) (hhs := by first | assumption | omega) (ha := by first | assumption | omega) (hw := by first | assumption | omega)) (cwV 2 hts gX4_isRest_X4_hoursPay rfl rfl rfl (by decide +kernel) ⟨Nat.le_of_ble_eq_true rfl, Nat.le_of_ble_eq_true rfl⟩) [0, 1] [] rfl rfl (by decide) (by decide) (by decide) 4 0 rfl rfl rfl rfl rfl hl.1 (Nat.le_of_ble_eq_true rfl) dX4_isRest_29 ⟨Nat.le_of_ble_eq_true rfl, Nat.le_of_ble_eq_true rfl⟩ (fun r_8 u_8 H locs hw hP hD hS => ?_)
    have hP : va_P g.1 vwCl [(C, .inr (4, [.ref X, .ref P, .ref O, .ref T, .ref U, .ref V, .ref Y, .ref S, .ref D, .ref E, .int hg, .int (nI k0), .int (nI k1), .long tr])), (P, .inr (1, [.ref Pa, .ref Pb, .ref Pc, .ref Pd, .int (nI hs), .int (nI np), .int (nI nm), .int (nI nw)]))] _ := hP
    have hD : va_D A [(C, .inr (4, [.ref X, .ref P, .ref O, .ref T, .ref U, .ref V, .ref Y, .ref S, .ref D, .ref E, .int hg, .int (nI k0), .int (nI k1), .long tr])), (P, .inr (1, [.ref Pa, .ref Pb, .ref Pc, .ref Pd, .int (nI hs), .int (nI np), .int (nI nm), .int (nI nw)]))] := hD
    have hr_8 := hw
    have hr_8 : r_8 = nI (zPay hs (b + ((k - 1) * t1)) w) := hr_8
    subst hr_8
    refine lv_iload hx hb dX4_isRest_32 (lv_at hl 0 rfl) ?_
    refine lv_iload hx hb dX4_isRest_34 (lv_at hl 7 rfl) ?_
    refine lv_isub hx hb dX4_isRest_36 ?_
    refine zz_icmp_gt (tgt := 44) hx hb dX4_isRest_37 (by decide) (zi_n (zPay hs (b + ((k - 1) * t1)) w)) (zi_sub (zi_n (zPay hs (b + (k * t1)) w)) (zi_n t)) (by omega) (by omega) (fun c_9 => ?_) (fun c_9 => ?_)
    · refine lv_iconst (v := 0) hx hb dX4_isRest_44 (by decide) ?_
      refine lv_istore (lv' := [(8, .int 0), (7, .int (nI (zPay hs (b + (k * t1)) w))), (0, .ref C), (1, .int (nI k)), (2, .int (nI n)), (3, .int (nI b)), (4, .int (nI t1)), (5, .int (nI w)), (6, .int (nI t))]) hx hb dX4_isRest_45 hl (by decide) rfl (fun ls hl => ?_)
      exact hcut47 0 _ _ _ (show (0 = 1 ∧ (k = 0 ∨ zPay hs (b + (k - 1) * t1) w + t ≤ zPay hs (b + k * t1) w)) ∨ (0 = 0 ∧ ¬ (k = 0 ∨ zPay hs (b + (k - 1) * t1) w + t ≤ zPay hs (b + k * t1) w)) from by omega) hP hD hS (lv_sub hl [2, 3, 4, 5, 6, 7, 8, 1, 0] rfl)
    · refine lv_iconst (v := 1) hx hb dX4_isRest_40 (by decide) ?_
      refine lv_goto (tgt := 45) hx hb dX4_isRest_41 (by decide) ?_
      refine lv_istore (lv' := [(8, .int 1), (7, .int (nI (zPay hs (b + (k * t1)) w))), (0, .ref C), (1, .int (nI k)), (2, .int (nI n)), (3, .int (nI b)), (4, .int (nI t1)), (5, .int (nI w)), (6, .int (nI t))]) hx hb dX4_isRest_45 hl (by decide) rfl (fun ls hl => ?_)
      exact hcut47 1 _ _ _ (show (1 = 1 ∧ (k = 0 ∨ zPay hs (b + (k - 1) * t1) w + t ≤ zPay hs (b + k * t1) w)) ∨ (1 = 0 ∧ ¬ (k = 0 ∨ zPay hs (b + (k - 1) * t1) w + t ≤ zPay hs (b + k * t1) w)) from by omega) hP hD hS (lv_sub hl [2, 3, 4, 5, 6, 7, 8, 1, 0] rfl)
