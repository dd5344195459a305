set_option maxHeartbeats 4000000 in
set_option maxRecDepth 100000 in
theorem c_X5_hangs (l : Launch) (g : zG) (M Mt Mc Mp Mw My Mm Mh Mk Mo Ms Mi Mb Me Md : Nat) (mt : Int64) (ty xa xs xo xv xh dy : Nat) (xf : Int32) (ck : Nat → Nat) (pe : Nat → Nat) (wy : Nat → Nat) (wa : Nat → Nat) (mr : Nat → Nat) (mh : Nat → Nat) (sd : Nat → Nat) (bh : Nat → Nat) (hs : Nat) (np : Nat) (nm : Nat) (wc wp mp : Nat → Nat) (w : Int32) (hPB : zPB hs np nm wc wp mp) (hMB : zMB hs np nm wc wp mp ck pe wy wa mr mh) : zI l yX5_hangs wsX5_hangs 4 96 g [.ref M, .int w] [(M, .inr (5, [.long mt, .ref Mt, .int (nI ty), .ref Mc, .ref Mp, .ref Mw, .ref My, .ref Mm, .ref Mh, .ref Mk, .ref Mo, .int (nI xa), .int (nI xs), .int (nI xo), .int (nI xv), .int xf, .int (nI xh), .ref Ms, .ref Mi, .ref Mb, .ref Me, .int (nI dy), .ref Md])), (Mc, .inl (g.2.1.1, 2, .inl (zf ck))), (Mp, .inl (g.2.1.1, 2, .inl (zf pe))), (Mw, .inl (g.2.1.1, 12, .inl (zf wy))), (My, .inl (g.2.1.1, 192, .inl (zf wa))), (Mm, .inl (g.2.1.1, 2, .inl (zf mr))), (Mh, .inl (g.2.1.1, 24, .inl (zf mh))), (Ms, .inl (g.2.1.1, 108, .inl (zf sd))), (Mb, .inl (g.2.1.1, 241, .inl (zf bh)))] (fun (r : Int32) (u : (Nat → Nat) × (Nat → Nat)) => r = zHangA (nI (zHang hs np nm wc wp mp)) (zBh hs np nm wc wp mp 0 0) w ∧ zOut 27 sd u.1) (fun (u : (Nat → Nat) × (Nat → Nat)) => [(M, .inr (5, [.long mt, .ref Mt, .int (nI ty), .ref Mc, .ref Mp, .ref Mw, .ref My, .ref Mm, .ref Mh, .ref Mk, .ref Mo, .int (nI xa), .int (nI xs), .int (nI xo), .int (nI xv), .int xf, .int (nI xh), .ref Ms, .ref Mi, .ref Mb, .ref Me, .int (nI dy), .ref Md])), (Mc, .inl (g.2.1.1, 2, .inl (zf ck))), (Mp, .inl (g.2.1.1, 2, .inl (zf pe))), (Mw, .inl (g.2.1.1, 12, .inl (zf wy))), (My, .inl (g.2.1.1, 192, .inl (zf wa))), (Mm, .inl (g.2.1.1, 2, .inl (zf mr))), (Mh, .inl (g.2.1.1, 24, .inl (zf mh))), (Ms, .inl (g.2.1.1, 108, .inl (zf u.1))), (Mb, .inl (g.2.1.1, 241, .inl (zf u.2)))]) := by
  refine zz_bodyI (cc := cX5_hangs) (nL := 7) (own := RX5) (ty := .int) (by decide) rfl rfl (Nat.le_of_ble_eq_true rfl) ?_
  intro pP eE s mM below meth cC A Q ls F hA hK hE hP hD hl hret
  have hS : va_S A s.heap s.heap [] := va_S.rf
  obtain ⟨hx, hb, hml, hown, hts⟩ := id F
  have hiX5 : ∀ w ∈ u_ws RX5 TX5 23, w ∈ wsX5_hangs := by decide +kernel
  have hf0 := hts (.fieldLink RX5 17 "StepClockModel" "people" "[I") (by decide +kernel)
  have hf1 := hts (.fieldLink RX5 38 "StepClockModel" "stand" "[I") (by decide +kernel)
  have hf2 := hts (.fieldLink RX5 20 "StepClockModel" "ways" "[I") (by decide +kernel)
  have hf3 := hts (.fieldLink RX5 23 "StepClockModel" "way" "[I") (by decide +kernel)
  have hf4 := hts (.fieldLink RX5 45 "StepClockModel" "behind" "[I") (by decide +kernel)
  have hl : lv_has ls 7 [(0, .ref M), (1, .int w)] := hl
  obtain ⟨hhs, hnp, hnm, hwc, hwp, hmp, hwk⟩ := id hPB
  obtain ⟨hck0, hpe0, hmr0, hwy, hwa, hmh⟩ := id hMB
  have hlow := zi_lo w
  have hhiw := zi_hi w
  refine lv_iload_n hx hb dX5_hangs_0 rfl (lv_at hl 1 rfl) ?_
  refine lv_iconst (v := 0) hx hb dX5_hangs_1 (by decide) ?_
  refine lv_iconst (v := 1) hx hb dX5_hangs_2 (by decide) ?_
  refine zz_callSI (wr := [(M, .inr (5, [.long mt, .ref Mt, .int (nI ty), .ref Mc, .ref Mp, .ref Mw, .ref My, .ref Mm, .ref Mh, .ref Mk, .ref Mo, .int (nI xa), .int (nI xs), .int (nI xo), .int (nI xv), .int xf, .int (nI xh), .ref Ms, .ref Mi, .ref Mb, .ref Me, .int (nI dy), .ref Md])), (Mc, .inl (g.2.1.1, 2, .inl (zf ck))), (Mp, .inl (g.2.1.1, 2, .inl (zf pe))), (Mw, .inl (g.2.1.1, 12, .inl (zf wy))), (My, .inl (g.2.1.1, 192, .inl (zf wa))), (Mm, .inl (g.2.1.1, 2, .inl (zf mr))), (Mh, .inl (g.2.1.1, 24, .inl (zf mh))), (Ms, .inl (g.2.1.1, 108, .inl (zf sd))), (Mb, .inl (g.2.1.1, 241, .inl (zf bh)))]) (wc := []) (As := [.int w, .int (nI 0), .int (nI 1)]) (rest := []) F hK hE hA hP hD hS (c_X5_in l g (x := w) (a := 0) (b := 1) (hab := by first | assumption | omega)) (va_cwS 3 hts gX5_hangs_X5_in rfl rfl rfl (by decide +kernel) ⟨Nat.le_of_ble_eq_true rfl, Nat.le_of_ble_eq_true rfl⟩) [] [0, 1, 2, 3, 4, 5, 6, 7, 8] rfl rfl (by decide) (by decide) (by decide) rfl rfl hl.1 (Nat.le_of_ble_eq_true rfl) dX5_hangs_3 ⟨Nat.le_of_ble_eq_true rfl, Nat.le_of_ble_eq_true rfl⟩ (fun r_1 u_1 H locs hw hP hD hS => ?_)
  have hP : va_P g.1 vwCl [(M, .inr (5, [.long mt, .ref Mt, .int (nI ty), .ref Mc, .ref Mp, .ref Mw, .ref My, .ref Mm, .ref Mh, .ref Mk, .ref Mo, .int (nI xa), .int (nI xs), .int (nI xo), .int (nI xv), .int xf, .int (nI xh), .ref Ms, .ref Mi, .ref Mb, .ref Me, .int (nI dy), .ref Md])), (Mc, .inl (g.2.1.1, 2, .inl (zf ck))), (Mp, .inl (g.2.1.1, 2, .inl (zf pe))), (Mw, .inl (g.2.1.1, 12, .inl (zf wy))), (My, .inl (g.2.1.1, 192, .inl (zf wa))), (Mm, .inl (g.2.1.1, 2, .inl (zf mr))), (Mh, .inl (g.2.1.1, 24, .inl (zf mh))), (Ms, .inl (g.2.1.1, 108, .inl (zf sd))), (Mb, .inl (g.2.1.1, 241, .inl (zf bh)))] _ := hP
  have hD : va_D A [(M, .inr (5, [.long mt, .ref Mt, .int (nI ty), .ref Mc, .ref Mp, .ref Mw, .ref My, .ref Mm, .ref Mh, .ref Mk, .ref Mo, .int (nI xa), .int (nI xs), .int (nI xo), .int (nI xv), .int xf, .int (nI xh), .ref Ms, .ref Mi, .ref Mb, .ref Me, .int (nI dy), .ref Md])), (Mc, .inl (g.2.1.1, 2, .inl (zf ck))), (Mp, .inl (g.2.1.1, 2, .inl (zf pe))), (Mw, .inl (g.2.1.1, 12, .inl (zf wy))), (My, .inl (g.2.1.1, 192, .inl (zf wa))), (Mm, .inl (g.2.1.1, 2, .inl (zf mr))), (Mh, .inl (g.2.1.1, 24, .inl (zf mh))), (Ms, .inl (g.2.1.1, 108, .inl (zf sd))), (Mb, .inl (g.2.1.1, 241, .inl (zf bh)))] := hD
  have hr_1 := hw
  have hr_1 : r_1 = if (0 : Int) ≤ w.toInt ∧ w.toInt ≤ (1 : Int) then 1 else 0 := hr_1
  by_cases b_2 : (0 : Int) ≤ w.toInt ∧ w.toInt ≤ (1 : Int)
  · rw [if_pos b_2] at hr_1
    subst hr_1
    refine zz_if_ne (tgt := 11) hx hb dX5_hangs_6 (by decide) (zi_c 1 rfl) (by omega) (fun c_3 => ?_) (fun c_3 => (by exfalso; omega))
    refine lv_aload_n hx hb dX5_hangs_11 rfl (lv_at hl 0 rfl) ?_
    refine lv_iconst (v := 0) hx hb dX5_hangs_12 (by decide) ?_
    refine lv_iconst (v := 0) hx hb dX5_hangs_13 (by decide) ?_
    refine zz_callV (wr := []) (wc := [(M, .inr (5, [.long mt, .ref Mt, .int (nI ty), .ref Mc, .ref Mp, .ref Mw, .ref My, .ref Mm, .ref Mh, .ref Mk, .ref Mo, .int (nI xa), .int (nI xs), .int (nI xo), .int (nI xv), .int xf, .int (nI xh), .ref Ms, .ref Mi, .ref Mb, .ref Me, .int (nI dy), .ref Md])), (Mc, .inl (g.2.1.1, 2, .inl (zf ck))), (Mp, .inl (g.2.1.1, 2, .inl (zf pe))), (Mw, .inl (g.2.1.1, 12, .inl (zf wy))), (My, .inl (g.2.1.1, 192, .inl (zf wa))), (Mm, .inl (g.2.1.1, 2, .inl (zf mr))), (Mh, .inl (g.2.1.1, 24, .inl (zf mh))), (Ms, .inl (g.2.1.1, 108, .inl (zf sd))), (Mb, .inl (g.2.1.1, 241, .inl (zf bh)))]) (As := [.int (nI 0), .int (nI 0)]) (rest := []) F hK hE hA hP hD hS (c_X5_goAll l g (M := M) (Mt := Mt) (Mc := Mc) (Mp := Mp) (Mw := Mw) (My := My) (Mm := Mm) (Mh := Mh) (Mk := Mk) (Mo := Mo) (Ms := Ms) (Mi := Mi) (Mb := Mb) (Me := Me) (Md := Md) (mt := mt) (ty := ty) (xa := xa) (xs := xs) (xo := xo) (xv := xv) (xh := xh) (dy := dy) (xf := xf) (ck := ck) (pe := pe) (wy := wy) (wa := wa) (mr := mr) (mh := mh) (sd := sd) (bh := bh) (s1 := 0) (f := 0) (hs := hs) (np := np) (nm := nm) (wc := wc) (wp := wp) (mp := mp) (hPB := by first | assumption | omega) (hMB := by first | assumption | omega) (hs1 := by first | assumption | omega) (hf := by first | assumption | omega)) (cwV 2 hts gX5_hangs_X5_goAll rfl rfl rfl (by decide +kernel) ⟨Nat.le_of_ble_eq_true rfl, Nat.le_of_ble_eq_true rfl⟩) [0, 1, 2, 3, 4, 5, 6, 7, 8] [] rfl rfl (by decide) (by decide) (by decide) 5 0 rfl rfl rfl rfl rfl hl.1 (Nat.le_of_ble_eq_true rfl) dX5_hangs_14 ⟨Nat.le_of_ble_eq_true rfl, Nat.le_of_ble_eq_true rfl⟩ (fun sd9_4 H locs hw hP hD hS => ?_)
    have hP : va_P g.1 vwCl [(M, .inr (5, [.long mt, .ref Mt, .int (nI ty), .ref Mc, .ref Mp, .ref Mw, .ref My, .ref Mm, .ref Mh, .ref Mk, .ref Mo, .int (nI xa), .int (nI xs), .int (nI xo), .int (nI xv), .int xf, .int (nI xh), .ref Ms, .ref Mi, .ref Mb, .ref Me, .int (nI dy), .ref Md])), (Mc, .inl (g.2.1.1, 2, .inl (zf ck))), (Mp, .inl (g.2.1.1, 2, .inl (zf pe))), (Mw, .inl (g.2.1.1, 12, .inl (zf wy))), (My, .inl (g.2.1.1, 192, .inl (zf wa))), (Mm, .inl (g.2.1.1, 2, .inl (zf mr))), (Mh, .inl (g.2.1.1, 24, .inl (zf mh))), (Ms, .inl (g.2.1.1, 108, .inl (zf sd9_4))), (Mb, .inl (g.2.1.1, 241, .inl (zf (zBh hs np nm wc wp mp 0 0))))] _ := hP
    have hD : va_D A [(M, .inr (5, [.long mt, .ref Mt, .int (nI ty), .ref Mc, .ref Mp, .ref Mw, .ref My, .ref Mm, .ref Mh, .ref Mk, .ref Mo, .int (nI xa), .int (nI xs), .int (nI xo), .int (nI xv), .int xf, .int (nI xh), .ref Ms, .ref Mi, .ref Mb, .ref Me, .int (nI dy), .ref Md])), (Mc, .inl (g.2.1.1, 2, .inl (zf ck))), (Mp, .inl (g.2.1.1, 2, .inl (zf pe))), (Mw, .inl (g.2.1.1, 12, .inl (zf wy))), (My, .inl (g.2.1.1, 192, .inl (zf wa))), (Mm, .inl (g.2.1.1, 2, .inl (zf mr))), (Mh, .inl (g.2.1.1, 24, .inl (zf mh))), (Ms, .inl (g.2.1.1, 108, .inl (zf sd9_4))), (Mb, .inl (g.2.1.1, 241, .inl (zf (zBh hs np nm wc wp mp 0 0))))] := hD
    have hw_4 : zRel 27 sd9_4 240 (zTr hs np nm wc wp mp 0 0 240).1 0 (zTr hs np nm wc wp mp 0 0 240).2.1 (zTr hs np nm wc wp mp 0 0 240).2.2.1 (zTr hs np nm wc wp mp 0 0 240).2.2.2 ∧ zOut 27 sd sd9_4 := hw
    have hR9 := hw_4.1
    have hO9 := hw_4.2
    have hbl := zBh_lt (si := 0) (f := 0) hPB (by omega)
    obtain ⟨ht0, ht1, ht2, ht3⟩ := id hR9
    have hgn2 := zTr_ok (hs := hs) (wc := wc) (si := 0) (f := 0) hnp hnm hwp hmp 240
    have hq0 : ((zTr hs np nm wc wp mp 0 0 240).1 / hs) ≤ (zTr hs np nm wc wp mp 0 0 240).1 := Nat.div_le_self _ _
    have hqz : (0 : Int) ≤ ((((zTr hs np nm wc wp mp 0 0 240).1 / hs) : Nat) : Int) := Int.natCast_nonneg _
    refine lv_iload_n hx hb dX5_hangs_17 rfl (lv_at hl 1 rfl) ?_
    refine lv_iconst (v := 1) hx hb dX5_hangs_18 (by decide) ?_
    refine zz_icmp_ne (tgt := 55) hx hb dX5_hangs_19 (by decide) (zi_self w) (zi_c 1 rfl) (by omega) (by omega) (fun c_5 => ?_) (fun c_5 => ?_)
    · refine lv_iconst (v := 0) hx hb dX5_hangs_55 (by decide) ?_
      refine lv_istore_n (lv' := [(2, .int 0), (0, .ref M), (1, .int w)]) hx hb dX5_hangs_56 rfl hl (by decide) rfl (fun ls hl => ?_)
      refine lv_iconst (v := 0) hx hb dX5_hangs_57 (by decide) ?_
      refine lv_istore_n (lv' := [(3, .int 0), (2, .int 0), (0, .ref M), (1, .int w)]) hx hb dX5_hangs_58 rfl hl (by decide) rfl (fun ls hl => ?_)
      have hcut59 : ∀ (fu : Nat) (i : Nat) (H : Heap) (locs : List Loc) (ls : Array Slot), (i ≤ np) → (np - i) < fu → va_P g.1 vwCl [(M, .inr (5, [.long mt, .ref Mt, .int (nI ty), .ref Mc, .ref Mp, .ref Mw, .ref My, .ref Mm, .ref Mh, .ref Mk, .ref Mo, .int (nI xa), .int (nI xs), .int (nI xo), .int (nI xv), .int xf, .int (nI xh), .ref Ms, .ref Mi, .ref Mb, .ref Me, .int (nI dy), .ref Md])), (Mc, .inl (g.2.1.1, 2, .inl (zf ck))), (Mp, .inl (g.2.1.1, 2, .inl (zf pe))), (Mw, .inl (g.2.1.1, 12, .inl (zf wy))), (My, .inl (g.2.1.1, 192, .inl (zf wa))), (Mm, .inl (g.2.1.1, 2, .inl (zf mr))), (Mh, .inl (g.2.1.1, 24, .inl (zf mh))), (Ms, .inl (g.2.1.1, 108, .inl (zf sd9_4))), (Mb, .inl (g.2.1.1, 241, .inl (zf (zBh hs np nm wc wp mp 0 0))))] H → va_D A [(M, .inr (5, [.long mt, .ref Mt, .int (nI ty), .ref Mc, .ref Mp, .ref Mw, .ref My, .ref Mm, .ref Mh, .ref Mk, .ref Mo, .int (nI xa), .int (nI xs), .int (nI xo), .int (nI xv), .int xf, .int (nI xh), .ref Ms, .ref Mi, .ref Mb, .ref Me, .int (nI dy), .ref Md])), (Mc, .inl (g.2.1.1, 2, .inl (zf ck))), (Mp, .inl (g.2.1.1, 2, .inl (zf pe))), (Mw, .inl (g.2.1.1, 12, .inl (zf wy))), (My, .inl (g.2.1.1, 192, .inl (zf wa))), (Mm, .inl (g.2.1.1, 2, .inl (zf mr))), (Mh, .inl (g.2.1.1, 24, .inl (zf mh))), (Ms, .inl (g.2.1.1, 108, .inl (zf sd9_4))), (Mb, .inl (g.2.1.1, 241, .inl (zf (zBh hs np nm wc wp mp 0 0))))] → va_S A s.heap H locs → lv_has ls 7 [(0, .ref M), (1, .int w), (2, .int (nI (zSm (zWb wc wp (zTr hs np nm wc wp mp 0 0 240).2.1 (zTr hs np nm wc wp mp 0 0 240).2.2.1 ((zTr hs np nm wc wp mp 0 0 240).1 / hs)) i))), (3, .int (nI i))] → W pP l eE { frames := 4, cells := 0, slots := 0, locals := 96 } s mM ([.ref M, .int w] : List Value).toArray below meth cC H locs 0 0 Q (F0 mM 59 ls []) := by
        intro fu
        induction fu with
        | zero =>
          intro i H locs ls hi hm
          exact absurd hm (Nat.not_lt_zero _)
        | succ fu ih59 =>
          intro i H locs ls hi hm hP hD hS hl
          have hsw := zWb_lt wc wp (zTr hs np nm wc wp mp 0 0 240).2.1 (zTr hs np nm wc wp mp 0 0 240).2.2.1 ((zTr hs np nm wc wp mp 0 0 240).1 / hs) i
          have hz6 := zp6 (np := i) (by omega)
          refine lv_iload_n hx hb dX5_hangs_59 rfl (lv_at hl 3 rfl) ?_
          refine lv_aload_n hx hb dX5_hangs_60 rfl (lv_at hl 0 rfl) ?_
          refine va_get (D := g.1) (ci := 5) (v := .ref Mp) (C := RX5) (T := TX5) (N := 23) hx hb hts hiX5 hown hK.1 hP 0 rfl rfl 4 (by decide) hf0 (fun _ h9 => h9) rfl dX5_hangs_61 ?_
          refine lv_iconst (v := 0) hx hb dX5_hangs_64 (by decide) ?_
          refine zz_iald hx hb hK.1 hP 2 0 rfl rfl 0 (zi_eq (zi_c 0 rfl) (zi_n 0) (by omega)) (by omega) (by decide) dX5_hangs_65 ?_
          refine zz_topi (y := nI np) (congrArg nI (hpe0)) ?_
          refine zz_icmp_ge (tgt := 171) hx hb dX5_hangs_66 (by decide) (zi_n i) (zi_n np) (by omega) (by omega) (fun c_6 => ?_) (fun c_6 => ?_)
          · refine lv_iload_n hx hb dX5_hangs_171 rfl (lv_at hl 2 rfl) ?_
            exact hret 172 _ _ _ (nI (zSm (zWb wc wp (zTr hs np nm wc wp mp 0 0 240).2.1 (zTr hs np nm wc wp mp 0 0 240).2.2.1 ((zTr hs np nm wc wp mp 0 0 240).1 / hs)) i)) (sd9_4, (zBh hs np nm wc wp mp 0 0)) dX5_hangs_172 rfl hP hD hS (show (nI (zSm (zWb wc wp (zTr hs np nm wc wp mp 0 0 240).2.1 (zTr hs np nm wc wp mp 0 0 240).2.2.1 ((zTr hs np nm wc wp mp 0 0 240).1 / hs)) i)) = zHangA (nI (zHang hs np nm wc wp mp)) (zBh hs np nm wc wp mp 0 0) w ∧ zOut 27 sd sd9_4 from by (refine ⟨?_, hO9⟩; rw [zHangA, if_pos (zi_w (a := 0) (by omega) rfl), zHang, show np = i by omega]))
          · have hdi := hgn2.1.1 i
            have hwci := hwc i
            have hli := hgn2.1.2.2 i
            obtain ⟨hi1, hi2, hi3, hi4⟩ := ht3 i (by omega)
            have ho1 : (zTr hs np nm wc wp mp 0 0 240).2.2.1 i = 0 → sd9_4 (36 + i) = 0 := fun h => (show sd9_4 (36 + i) = _ from hi2).trans (if_pos h)
            have ho2 : (zTr hs np nm wc wp mp 0 0 240).2.2.1 i ≠ 0 → sd9_4 (36 + i) = 1 := fun h => (show sd9_4 (36 + i) = _ from hi2).trans (if_neg h)
            refine lv_aload_n hx hb dX5_hangs_69 rfl (lv_at hl 0 rfl) ?_
            refine va_get (D := g.1) (ci := 5) (v := .ref Ms) (C := RX5) (T := TX5) (N := 23) hx hb hts hiX5 hown hK.1 hP 0 rfl rfl 17 (by decide) hf1 (fun _ h9 => h9) rfl dX5_hangs_70 ?_
            refine lv_bipush (v := 30) hx hb dX5_hangs_73 (by decide) ?_
            refine lv_iload_n hx hb dX5_hangs_75 rfl (lv_at hl 3 rfl) ?_
            refine lv_iadd hx hb dX5_hangs_76 ?_
            refine zz_iald hx hb hK.1 hP 7 0 rfl rfl (30 + i) (zi_eq (zi_add (zi_c 30 rfl) (zi_n i)) (zi_n (30 + i)) (by omega)) (by omega) (by decide) dX5_hangs_77 ?_
            refine zz_topi (y := nI ((zTr hs np nm wc wp mp 0 0 240).2.1 i)) (congrArg nI (hi1)) ?_
            refine lv_istore (lv' := [(4, .int (nI ((zTr hs np nm wc wp mp 0 0 240).2.1 i))), (0, .ref M), (1, .int w), (2, .int (nI (zSm (zWb wc wp (zTr hs np nm wc wp mp 0 0 240).2.1 (zTr hs np nm wc wp mp 0 0 240).2.2.1 ((zTr hs np nm wc wp mp 0 0 240).1 / hs)) i))), (3, .int (nI i))]) hx hb dX5_hangs_78 hl (by decide) rfl (fun ls hl => ?_)
            refine lv_bipush (v := 16) hx hb dX5_hangs_80 (by decide) ?_
            refine lv_iload_n hx hb dX5_hangs_82 rfl (lv_at hl 4 rfl) ?_
            refine lv_imul hx hb dX5_hangs_83 ?_
            refine lv_iconst (v := 4) hx hb dX5_hangs_84 (by decide) ?_
            refine lv_iload hx hb dX5_hangs_85 (lv_at hl 0 rfl) ?_
            refine lv_imul hx hb dX5_hangs_87 ?_
            refine lv_iadd hx hb dX5_hangs_88 ?_
            refine zz_topi (y := nI ((16 * i) + (4 * ((zTr hs np nm wc wp mp 0 0 240).2.1 i)))) (zi_eq (zi_add (zi_mul (zi_c 16 rfl) (zi_n i)) (zi_mul (zi_c 4 rfl) (zi_n ((zTr hs np nm wc wp mp 0 0 240).2.1 i)))) (zi_n ((16 * i) + (4 * ((zTr hs np nm wc wp mp 0 0 240).2.1 i)))) (by omega)) ?_
            refine lv_istore (lv' := [(5, .int (nI ((16 * i) + (4 * ((zTr hs np nm wc wp mp 0 0 240).2.1 i))))), (4, .int (nI ((zTr hs np nm wc wp mp 0 0 240).2.1 i))), (0, .ref M), (1, .int w), (2, .int (nI (zSm (zWb wc wp (zTr hs np nm wc wp mp 0 0 240).2.1 (zTr hs np nm wc wp mp 0 0 240).2.2.1 ((zTr hs np nm wc wp mp 0 0 240).1 / hs)) i))), (3, .int (nI i))]) hx hb dX5_hangs_89 hl (by decide) rfl (fun ls hl => ?_)
            refine lv_aload_n hx hb dX5_hangs_91 rfl (lv_at hl 2 rfl) ?_
            refine va_get (D := g.1) (ci := 5) (v := .ref Ms) (C := RX5) (T := TX5) (N := 23) hx hb hts hiX5 hown hK.1 hP 0 rfl rfl 17 (by decide) hf1 (fun _ h9 => h9) rfl dX5_hangs_92 ?_
            refine lv_bipush (v := 36) hx hb dX5_hangs_95 (by decide) ?_
            refine lv_iload_n hx hb dX5_hangs_97 rfl (lv_at hl 5 rfl) ?_
            refine lv_iadd hx hb dX5_hangs_98 ?_
            refine zz_iald hx hb hK.1 hP 7 0 rfl rfl (36 + i) (zi_eq (zi_add (zi_c 36 rfl) (zi_n i)) (zi_n (36 + i)) (by omega)) (by omega) (by decide) dX5_hangs_99 ?_
            refine zz_if_ne (tgt := 147) hx hb dX5_hangs_100 (by decide) (zi_n (sd9_4 (36 + i))) (by omega) (fun c_7 => ?_) (fun c_7 => ?_)
            · refine lv_iconst (v := 0) hx hb dX5_hangs_147 (by decide) ?_
              refine lv_istore (lv' := [(6, .int 0), (5, .int (nI ((16 * i) + (4 * ((zTr hs np nm wc wp mp 0 0 240).2.1 i))))), (4, .int (nI ((zTr hs np nm wc wp mp 0 0 240).2.1 i))), (0, .ref M), (1, .int w), (2, .int (nI (zSm (zWb wc wp (zTr hs np nm wc wp mp 0 0 240).2.1 (zTr hs np nm wc wp mp 0 0 240).2.2.1 ((zTr hs np nm wc wp mp 0 0 240).1 / hs)) i))), (3, .int (nI i))]) hx hb dX5_hangs_148 hl (by decide) rfl (fun ls hl => ?_)
              refine lv_iload_n hx hb dX5_hangs_150 rfl (lv_at hl 5 rfl) ?_
              refine lv_iload hx hb dX5_hangs_151 (lv_at hl 0 rfl) ?_
              refine zz_if_eq (tgt := 162) hx hb dX5_hangs_153 (by decide) (zi_c 0 rfl) (by omega) (fun c_8 => ?_) (fun c_8 => (by exfalso; omega))
              refine lv_iconst (v := 0) hx hb dX5_hangs_162 (by decide) ?_
              refine lv_ior hx hb dX5_hangs_163 ?_
              refine zz_topi (y := nI (zSm (zWb wc wp (zTr hs np nm wc wp mp 0 0 240).2.1 (zTr hs np nm wc wp mp 0 0 240).2.2.1 ((zTr hs np nm wc wp mp 0 0 240).1 / hs)) i)) (zOr0 _) ?_
              refine lv_istore_n (lv' := [(2, .int (nI (zSm (zWb wc wp (zTr hs np nm wc wp mp 0 0 240).2.1 (zTr hs np nm wc wp mp 0 0 240).2.2.1 ((zTr hs np nm wc wp mp 0 0 240).1 / hs)) i))), (6, .int 0), (5, .int (nI ((16 * i) + (4 * ((zTr hs np nm wc wp mp 0 0 240).2.1 i))))), (4, .int (nI ((zTr hs np nm wc wp mp 0 0 240).2.1 i))), (0, .ref M), (1, .int w), (3, .int (nI i))]) hx hb dX5_hangs_164 rfl hl (by decide) rfl (fun ls hl => ?_)
              refine lv_iinc (v := nI (i + 1)) (lv' := [(3, .int (nI (i + 1))), (2, .int (nI (zSm (zWb wc wp (zTr hs np nm wc wp mp 0 0 240).2.1 (zTr hs np nm wc wp mp 0 0 240).2.2.1 ((zTr hs np nm wc wp mp 0 0 240).1 / hs)) i))), (6, .int 0), (5, .int (nI ((16 * i) + (4 * ((zTr hs np nm wc wp mp 0 0 240).2.1 i))))), (4, .int (nI ((zTr hs np nm wc wp mp 0 0 240).2.1 i))), (0, .ref M), (1, .int w)]) hx hb dX5_hangs_165 hl (k := 6) rfl (zi_eq (zi_add (zi_n i) (zi_c 1 rfl)) (zi_n (i + 1)) (by omega)) (by decide) rfl (fun ls hl => ?_)
              refine lv_goto (tgt := 59) hx hb dX5_hangs_168 (by decide) ?_
              have eq_9 : nI (zSm (zWb wc wp (zTr hs np nm wc wp mp 0 0 240).2.1 (zTr hs np nm wc wp mp 0 0 240).2.2.1 ((zTr hs np nm wc wp mp 0 0 240).1 / hs)) i) = nI (zSm (zWb wc wp (zTr hs np nm wc wp mp 0 0 240).2.1 (zTr hs np nm wc wp mp 0 0 240).2.2.1 ((zTr hs np nm wc wp mp 0 0 240).1 / hs)) (i + 1)) := by first | (rw [zSm, zWb, if_pos ⟨by omega, by omega, by omega, by omega⟩]; done) | (rw [zSm, zWb, if_neg (fun q => by have q1 := q.1; have q2 := q.2.1; have q3 := q.2.2.1; have q4 := q.2.2.2; omega), Nat.add_zero]; done)
              have hl : lv_has ls 7 [(3, .int (nI (i + 1))), (2, .int (nI (zSm (zWb wc wp (zTr hs np nm wc wp mp 0 0 240).2.1 (zTr hs np nm wc wp mp 0 0 240).2.2.1 ((zTr hs np nm wc wp mp 0 0 240).1 / hs)) (i + 1)))), (6, .int 0), (5, .int (nI ((16 * i) + (4 * ((zTr hs np nm wc wp mp 0 0 240).2.1 i))))), (4, .int (nI ((zTr hs np nm wc wp mp 0 0 240).2.1 i))), (0, .ref M), (1, .int w)] := Eq.mp (congrArg (fun z => lv_has ls 7 [(3, .int (nI (i + 1))), (2, .int (z)), (6, .int 0), (5, .int (nI ((16 * i) + (4 * ((zTr hs np nm wc wp mp 0 0 240).2.1 i))))), (4, .int (nI ((zTr hs np nm wc wp mp 0 0 240).2.1 i))), (0, .ref M), (1, .int w)]) eq_9) hl
              exact ih59 (i + 1) _ _ _ (show (i + 1) ≤ np from by omega) (by omega) hP hD hS (lv_sub hl [5, 6, 1, 0] rfl)
            · refine lv_iload hx hb dX5_hangs_103 (lv_at hl 1 rfl) ?_
              refine lv_aload_n hx hb dX5_hangs_105 rfl (lv_at hl 2 rfl) ?_
              refine va_get (D := g.1) (ci := 5) (v := .ref Mw) (C := RX5) (T := TX5) (N := 23) hx hb hts hiX5 hown hK.1 hP 0 rfl rfl 5 (by decide) hf2 (fun _ h9 => h9) rfl dX5_hangs_106 ?_
              refine lv_iload_n hx hb dX5_hangs_109 rfl (lv_at hl 5 rfl) ?_
              refine zz_iald hx hb hK.1 hP 3 0 rfl rfl i rfl (by omega) (by decide) dX5_hangs_110 ?_
              refine zz_topi (y := nI (wc i)) (congrArg nI (hwy i (by omega))) ?_
              refine zz_icmp_ge (tgt := 147) hx hb dX5_hangs_111 (by decide) (zi_n ((zTr hs np nm wc wp mp 0 0 240).2.1 i)) (zi_n (wc i)) (by omega) (by omega) (fun c_10 => ?_) (fun c_10 => ?_)
              · refine lv_iconst (v := 0) hx hb dX5_hangs_147 (by decide) ?_
                refine lv_istore (lv' := [(6, .int 0), (5, .int (nI ((16 * i) + (4 * ((zTr hs np nm wc wp mp 0 0 240).2.1 i))))), (4, .int (nI ((zTr hs np nm wc wp mp 0 0 240).2.1 i))), (0, .ref M), (1, .int w), (2, .int (nI (zSm (zWb wc wp (zTr hs np nm wc wp mp 0 0 240).2.1 (zTr hs np nm wc wp mp 0 0 240).2.2.1 ((zTr hs np nm wc wp mp 0 0 240).1 / hs)) i))), (3, .int (nI i))]) hx hb dX5_hangs_148 hl (by decide) rfl (fun ls hl => ?_)
                refine lv_iload_n hx hb dX5_hangs_150 rfl (lv_at hl 5 rfl) ?_
                refine lv_iload hx hb dX5_hangs_151 (lv_at hl 0 rfl) ?_
                refine zz_if_eq (tgt := 162) hx hb dX5_hangs_153 (by decide) (zi_c 0 rfl) (by omega) (fun c_11 => ?_) (fun c_11 => (by exfalso; omega))
                refine lv_iconst (v := 0) hx hb dX5_hangs_162 (by decide) ?_
                refine lv_ior hx hb dX5_hangs_163 ?_
                refine zz_topi (y := nI (zSm (zWb wc wp (zTr hs np nm wc wp mp 0 0 240).2.1 (zTr hs np nm wc wp mp 0 0 240).2.2.1 ((zTr hs np nm wc wp mp 0 0 240).1 / hs)) i)) (zOr0 _) ?_
                refine lv_istore_n (lv' := [(2, .int (nI (zSm (zWb wc wp (zTr hs np nm wc wp mp 0 0 240).2.1 (zTr hs np nm wc wp mp 0 0 240).2.2.1 ((zTr hs np nm wc wp mp 0 0 240).1 / hs)) i))), (6, .int 0), (5, .int (nI ((16 * i) + (4 * ((zTr hs np nm wc wp mp 0 0 240).2.1 i))))), (4, .int (nI ((zTr hs np nm wc wp mp 0 0 240).2.1 i))), (0, .ref M), (1, .int w), (3, .int (nI i))]) hx hb dX5_hangs_164 rfl hl (by decide) rfl (fun ls hl => ?_)
                refine lv_iinc (v := nI (i + 1)) (lv' := [(3, .int (nI (i + 1))), (2, .int (nI (zSm (zWb wc wp (zTr hs np nm wc wp mp 0 0 240).2.1 (zTr hs np nm wc wp mp 0 0 240).2.2.1 ((zTr hs np nm wc wp mp 0 0 240).1 / hs)) i))), (6, .int 0), (5, .int (nI ((16 * i) + (4 * ((zTr hs np nm wc wp mp 0 0 240).2.1 i))))), (4, .int (nI ((zTr hs np nm wc wp mp 0 0 240).2.1 i))), (0, .ref M), (1, .int w)]) hx hb dX5_hangs_165 hl (k := 6) rfl (zi_eq (zi_add (zi_n i) (zi_c 1 rfl)) (zi_n (i + 1)) (by omega)) (by decide) rfl (fun ls hl => ?_)
                refine lv_goto (tgt := 59) hx hb dX5_hangs_168 (by decide) ?_
                have eq_12 : nI (zSm (zWb wc wp (zTr hs np nm wc wp mp 0 0 240).2.1 (zTr hs np nm wc wp mp 0 0 240).2.2.1 ((zTr hs np nm wc wp mp 0 0 240).1 / hs)) i) = nI (zSm (zWb wc wp (zTr hs np nm wc wp mp 0 0 240).2.1 (zTr hs np nm wc wp mp 0 0 240).2.2.1 ((zTr hs np nm wc wp mp 0 0 240).1 / hs)) (i + 1)) := by first | (rw [zSm, zWb, if_pos ⟨by omega, by omega, by omega, by omega⟩]; done) | (rw [zSm, zWb, if_neg (fun q => by have q1 := q.1; have q2 := q.2.1; have q3 := q.2.2.1; have q4 := q.2.2.2; omega), Nat.add_zero]; done)
                have hl : lv_has ls 7 [(3, .int (nI (i + 1))), (2, .int (nI (zSm (zWb wc wp (zTr hs np nm wc wp mp 0 0 240).2.1 (zTr hs np nm wc wp mp 0 0 240).2.2.1 ((zTr hs np nm wc wp mp 0 0 240).1 / hs)) (i + 1)))), (6, .int 0), (5, .int (nI ((16 * i) + (4 * ((zTr hs np nm wc wp mp 0 0 240).2.1 i))))), (4, .int (nI ((zTr hs np nm wc wp mp 0 0 240).2.1 i))), (0, .ref M), (1, .int w)] := Eq.mp (congrArg (fun z => lv_has ls 7 [(3, .int (nI (i + 1))), (2, .int (z)), (6, .int 0), (5, .int (nI ((16 * i) + (4 * ((zTr hs np nm wc wp mp 0 0 240).2.1 i))))), (4, .int (nI ((zTr hs np nm wc wp mp 0 0 240).2.1 i))), (0, .ref M), (1, .int w)]) eq_12) hl
                exact ih59 (i + 1) _ _ _ (show (i + 1) ≤ np from by omega) (by omega) hP hD hS (lv_sub hl [5, 6, 1, 0] rfl)
              · refine lv_aload_n hx hb dX5_hangs_114 rfl (lv_at hl 2 rfl) ?_
                refine va_get (D := g.1) (ci := 5) (v := .ref My) (C := RX5) (T := TX5) (N := 23) hx hb hts hiX5 hown hK.1 hP 0 rfl rfl 6 (by decide) hf3 (fun _ h9 => h9) rfl dX5_hangs_115 ?_
                refine lv_iload hx hb dX5_hangs_118 (lv_at hl 0 rfl) ?_
                refine zz_iald hx hb hK.1 hP 4 0 rfl rfl ((16 * i) + (4 * ((zTr hs np nm wc wp mp 0 0 240).2.1 i))) rfl (by omega) (by decide) dX5_hangs_120 ?_
                refine zz_topi (y := nI (wp ((16 * i) + (4 * ((zTr hs np nm wc wp mp 0 0 240).2.1 i))))) (congrArg nI (hwa i (by omega) ((zTr hs np nm wc wp mp 0 0 240).2.1 i) (by omega) 0 (by decide))) ?_
                have hz0 : wp (16 * i + 4 * ((zTr hs np nm wc wp mp 0 0 240).2.1 i) + 0) = wp ((16 * i) + (4 * ((zTr hs np nm wc wp mp 0 0 240).2.1 i))) := rfl
                have hw0 := hwp ((16 * i) + (4 * ((zTr hs np nm wc wp mp 0 0 240).2.1 i)))
                have hw1 := hwp (((16 * i) + (4 * ((zTr hs np nm wc wp mp 0 0 240).2.1 i))) + 1)
                refine lv_iconst (v := 1) hx hb dX5_hangs_121 (by decide) ?_
                refine zz_icmp_ne (tgt := 147) hx hb dX5_hangs_122 (by decide) (zi_n (wp ((16 * i) + (4 * ((zTr hs np nm wc wp mp 0 0 240).2.1 i))))) (zi_c 1 rfl) (by omega) (by omega) (fun c_13 => ?_) (fun c_13 => ?_)
                · refine lv_iconst (v := 0) hx hb dX5_hangs_147 (by decide) ?_
                  refine lv_istore (lv' := [(6, .int 0), (5, .int (nI ((16 * i) + (4 * ((zTr hs np nm wc wp mp 0 0 240).2.1 i))))), (4, .int (nI ((zTr hs np nm wc wp mp 0 0 240).2.1 i))), (0, .ref M), (1, .int w), (2, .int (nI (zSm (zWb wc wp (zTr hs np nm wc wp mp 0 0 240).2.1 (zTr hs np nm wc wp mp 0 0 240).2.2.1 ((zTr hs np nm wc wp mp 0 0 240).1 / hs)) i))), (3, .int (nI i))]) hx hb dX5_hangs_148 hl (by decide) rfl (fun ls hl => ?_)
                  refine lv_iload_n hx hb dX5_hangs_150 rfl (lv_at hl 5 rfl) ?_
                  refine lv_iload hx hb dX5_hangs_151 (lv_at hl 0 rfl) ?_
                  refine zz_if_eq (tgt := 162) hx hb dX5_hangs_153 (by decide) (zi_c 0 rfl) (by omega) (fun c_14 => ?_) (fun c_14 => (by exfalso; omega))
                  refine lv_iconst (v := 0) hx hb dX5_hangs_162 (by decide) ?_
                  refine lv_ior hx hb dX5_hangs_163 ?_
                  refine zz_topi (y := nI (zSm (zWb wc wp (zTr hs np nm wc wp mp 0 0 240).2.1 (zTr hs np nm wc wp mp 0 0 240).2.2.1 ((zTr hs np nm wc wp mp 0 0 240).1 / hs)) i)) (zOr0 _) ?_
                  refine lv_istore_n (lv' := [(2, .int (nI (zSm (zWb wc wp (zTr hs np nm wc wp mp 0 0 240).2.1 (zTr hs np nm wc wp mp 0 0 240).2.2.1 ((zTr hs np nm wc wp mp 0 0 240).1 / hs)) i))), (6, .int 0), (5, .int (nI ((16 * i) + (4 * ((zTr hs np nm wc wp mp 0 0 240).2.1 i))))), (4, .int (nI ((zTr hs np nm wc wp mp 0 0 240).2.1 i))), (0, .ref M), (1, .int w), (3, .int (nI i))]) hx hb dX5_hangs_164 rfl hl (by decide) rfl (fun ls hl => ?_)
                  refine lv_iinc (v := nI (i + 1)) (lv' := [(3, .int (nI (i + 1))), (2, .int (nI (zSm (zWb wc wp (zTr hs np nm wc wp mp 0 0 240).2.1 (zTr hs np nm wc wp mp 0 0 240).2.2.1 ((zTr hs np nm wc wp mp 0 0 240).1 / hs)) i))), (6, .int 0), (5, .int (nI ((16 * i) + (4 * ((zTr hs np nm wc wp mp 0 0 240).2.1 i))))), (4, .int (nI ((zTr hs np nm wc wp mp 0 0 240).2.1 i))), (0, .ref M), (1, .int w)]) hx hb dX5_hangs_165 hl (k := 6) rfl (zi_eq (zi_add (zi_n i) (zi_c 1 rfl)) (zi_n (i + 1)) (by omega)) (by decide) rfl (fun ls hl => ?_)
                  refine lv_goto (tgt := 59) hx hb dX5_hangs_168 (by decide) ?_
                  have eq_15 : nI (zSm (zWb wc wp (zTr hs np nm wc wp mp 0 0 240).2.1 (zTr hs np nm wc wp mp 0 0 240).2.2.1 ((zTr hs np nm wc wp mp 0 0 240).1 / hs)) i) = nI (zSm (zWb wc wp (zTr hs np nm wc wp mp 0 0 240).2.1 (zTr hs np nm wc wp mp 0 0 240).2.2.1 ((zTr hs np nm wc wp mp 0 0 240).1 / hs)) (i + 1)) := by first | (rw [zSm, zWb, if_pos ⟨by omega, by omega, by omega, by omega⟩]; done) | (rw [zSm, zWb, if_neg (fun q => by have q1 := q.1; have q2 := q.2.1; have q3 := q.2.2.1; have q4 := q.2.2.2; omega), Nat.add_zero]; done)
                  have hl : lv_has ls 7 [(3, .int (nI (i + 1))), (2, .int (nI (zSm (zWb wc wp (zTr hs np nm wc wp mp 0 0 240).2.1 (zTr hs np nm wc wp mp 0 0 240).2.2.1 ((zTr hs np nm wc wp mp 0 0 240).1 / hs)) (i + 1)))), (6, .int 0), (5, .int (nI ((16 * i) + (4 * ((zTr hs np nm wc wp mp 0 0 240).2.1 i))))), (4, .int (nI ((zTr hs np nm wc wp mp 0 0 240).2.1 i))), (0, .ref M), (1, .int w)] := Eq.mp (congrArg (fun z => lv_has ls 7 [(3, .int (nI (i + 1))), (2, .int (z)), (6, .int 0), (5, .int (nI ((16 * i) + (4 * ((zTr hs np nm wc wp mp 0 0 240).2.1 i))))), (4, .int (nI ((zTr hs np nm wc wp mp 0 0 240).2.1 i))), (0, .ref M), (1, .int w)]) eq_15) hl
                  exact ih59 (i + 1) _ _ _ (show (i + 1) ≤ np from by omega) (by omega) hP hD hS (lv_sub hl [5, 6, 1, 0] rfl)
                · refine lv_aload_n hx hb dX5_hangs_125 rfl (lv_at hl 2 rfl) ?_
                  refine va_get (D := g.1) (ci := 5) (v := .ref My) (C := RX5) (T := TX5) (N := 23) hx hb hts hiX5 hown hK.1 hP 0 rfl rfl 6 (by decide) hf3 (fun _ h9 => h9) rfl dX5_hangs_126 ?_
                  refine lv_iload hx hb dX5_hangs_129 (lv_at hl 0 rfl) ?_
                  refine lv_iconst (v := 1) hx hb dX5_hangs_131 (by decide) ?_
                  refine lv_iadd hx hb dX5_hangs_132 ?_
                  refine zz_iald hx hb hK.1 hP 4 0 rfl rfl (((16 * i) + (4 * ((zTr hs np nm wc wp mp 0 0 240).2.1 i))) + 1) (zi_eq (zi_add (zi_n ((16 * i) + (4 * ((zTr hs np nm wc wp mp 0 0 240).2.1 i)))) (zi_c 1 rfl)) (zi_n (((16 * i) + (4 * ((zTr hs np nm wc wp mp 0 0 240).2.1 i))) + 1)) (by omega)) (by omega) (by decide) dX5_hangs_133 ?_
                  refine zz_topi (y := nI (wp (((16 * i) + (4 * ((zTr hs np nm wc wp mp 0 0 240).2.1 i))) + 1))) (congrArg nI (hwa i (by omega) ((zTr hs np nm wc wp mp 0 0 240).2.1 i) (by omega) 1 (by decide))) ?_
                  refine lv_aload_n hx hb dX5_hangs_134 rfl (lv_at hl 2 rfl) ?_
                  refine lv_bipush (v := 27) hx hb dX5_hangs_135 (by decide) ?_
                  refine zz_callI (wr := [(Mp, .inl (g.2.1.1, 2, .inl (zf pe))), (Mw, .inl (g.2.1.1, 12, .inl (zf wy))), (My, .inl (g.2.1.1, 192, .inl (zf wa))), (Mm, .inl (g.2.1.1, 2, .inl (zf mr))), (Mh, .inl (g.2.1.1, 24, .inl (zf mh))), (Mb, .inl (g.2.1.1, 241, .inl (zf (zBh hs np nm wc wp mp 0 0))))]) (wc := [(M, .inr (5, [.long mt, .ref Mt, .int (nI ty), .ref Mc, .ref Mp, .ref Mw, .ref My, .ref Mm, .ref Mh, .ref Mk, .ref Mo, .int (nI xa), .int (nI xs), .int (nI xo), .int (nI xv), .int xf, .int (nI xh), .ref Ms, .ref Mi, .ref Mb, .ref Me, .int (nI dy), .ref Md])), (Mc, .inl (g.2.1.1, 2, .inl (zf ck))), (Ms, .inl (g.2.1.1, 108, .inl (zf sd9_4)))]) (As := [.int (nI 27)]) (rest := [.int (nI (wp (((16 * i) + (4 * ((zTr hs np nm wc wp mp 0 0 240).2.1 i))) + 1)))]) F hK hE hA hP hD hS (c_X5_hourOf l g (M := M) (Mt := Mt) (Mc := Mc) (Mp := Mp) (Mw := Mw) (My := My) (Mm := Mm) (Mh := Mh) (Mk := Mk) (Mo := Mo) (Ms := Ms) (Mi := Mi) (Mb := Mb) (Me := Me) (Md := Md) (mt := mt) (ty := ty) (xa := xa) (xs := xs) (xo := xo) (xv := xv) (xh := xh) (dy := dy) (xf := xf) (ck := ck) (sd := sd9_4) (q := 27) (hq := by omega) (hck := by omega) (hsd := by (rw [show _ = _ from ht1]; have := hgn2.2.2; omega))) (cwV 1 hts gX5_hangs_X5_hourOf rfl rfl rfl (by decide +kernel) ⟨Nat.le_of_ble_eq_true rfl, Nat.le_of_ble_eq_true rfl⟩) [0, 1, 7] [2, 3, 4, 5, 6, 8] rfl rfl (by decide) (by decide) (by decide) 5 0 rfl rfl rfl rfl rfl hl.1 (Nat.le_of_ble_eq_true rfl) dX5_hangs_137 ⟨Nat.le_of_ble_eq_true rfl, Nat.le_of_ble_eq_true rfl⟩ (fun r_16 u_16 H locs hw hP hD hS => ?_)
                  have hP : va_P g.1 vwCl [(Mp, .inl (g.2.1.1, 2, .inl (zf pe))), (Mw, .inl (g.2.1.1, 12, .inl (zf wy))), (My, .inl (g.2.1.1, 192, .inl (zf wa))), (Mm, .inl (g.2.1.1, 2, .inl (zf mr))), (Mh, .inl (g.2.1.1, 24, .inl (zf mh))), (Mb, .inl (g.2.1.1, 241, .inl (zf (zBh hs np nm wc wp mp 0 0)))), (M, .inr (5, [.long mt, .ref Mt, .int (nI ty), .ref Mc, .ref Mp, .ref Mw, .ref My, .ref Mm, .ref Mh, .ref Mk, .ref Mo, .int (nI xa), .int (nI xs), .int (nI xo), .int (nI xv), .int xf, .int (nI xh), .ref Ms, .ref Mi, .ref Mb, .ref Me, .int (nI dy), .ref Md])), (Mc, .inl (g.2.1.1, 2, .inl (zf ck))), (Ms, .inl (g.2.1.1, 108, .inl (zf sd9_4)))] _ := hP
                  have hD : va_D A [(Mp, .inl (g.2.1.1, 2, .inl (zf pe))), (Mw, .inl (g.2.1.1, 12, .inl (zf wy))), (My, .inl (g.2.1.1, 192, .inl (zf wa))), (Mm, .inl (g.2.1.1, 2, .inl (zf mr))), (Mh, .inl (g.2.1.1, 24, .inl (zf mh))), (Mb, .inl (g.2.1.1, 241, .inl (zf (zBh hs np nm wc wp mp 0 0)))), (M, .inr (5, [.long mt, .ref Mt, .int (nI ty), .ref Mc, .ref Mp, .ref Mw, .ref My, .ref Mm, .ref Mh, .ref Mk, .ref Mo, .int (nI xa), .int (nI xs), .int (nI xo), .int (nI xv), .int xf, .int (nI xh), .ref Ms, .ref Mi, .ref Mb, .ref Me, .int (nI dy), .ref Md])), (Mc, .inl (g.2.1.1, 2, .inl (zf ck))), (Ms, .inl (g.2.1.1, 108, .inl (zf sd9_4)))] := hD
                  have hr_16 := hw
                  have hr_16 : r_16 = nI (sd9_4 (27 + 1) / ck 0) := hr_16
                  subst hr_16
                  refine zz_topi (y := nI ((zTr hs np nm wc wp mp 0 0 240).1 / hs)) (congrArg nI ((by rw [hck0]; exact congrArg (fun z => z / hs) ht1))) ?_
                  refine zz_icmp_le (tgt := 147) hx hb dX5_hangs_140 (by decide) (zi_n (wp (((16 * i) + (4 * ((zTr hs np nm wc wp mp 0 0 240).2.1 i))) + 1))) (zi_n ((zTr hs np nm wc wp mp 0 0 240).1 / hs)) (by omega) (by omega) (fun c_17 => ?_) (fun c_17 => ?_)
                  · refine lv_iconst (v := 0) hx hb dX5_hangs_147 (by decide) ?_
                    refine lv_istore (lv' := [(6, .int 0), (5, .int (nI ((16 * i) + (4 * ((zTr hs np nm wc wp mp 0 0 240).2.1 i))))), (4, .int (nI ((zTr hs np nm wc wp mp 0 0 240).2.1 i))), (0, .ref M), (1, .int w), (2, .int (nI (zSm (zWb wc wp (zTr hs np nm wc wp mp 0 0 240).2.1 (zTr hs np nm wc wp mp 0 0 240).2.2.1 ((zTr hs np nm wc wp mp 0 0 240).1 / hs)) i))), (3, .int (nI i))]) hx hb dX5_hangs_148 hl (by decide) rfl (fun ls hl => ?_)
                    refine lv_iload_n hx hb dX5_hangs_150 rfl (lv_at hl 5 rfl) ?_
                    refine lv_iload hx hb dX5_hangs_151 (lv_at hl 0 rfl) ?_
                    refine zz_if_eq (tgt := 162) hx hb dX5_hangs_153 (by decide) (zi_c 0 rfl) (by omega) (fun c_18 => ?_) (fun c_18 => (by exfalso; omega))
                    refine lv_iconst (v := 0) hx hb dX5_hangs_162 (by decide) ?_
                    refine lv_ior hx hb dX5_hangs_163 ?_
                    refine zz_topi (y := nI (zSm (zWb wc wp (zTr hs np nm wc wp mp 0 0 240).2.1 (zTr hs np nm wc wp mp 0 0 240).2.2.1 ((zTr hs np nm wc wp mp 0 0 240).1 / hs)) i)) (zOr0 _) ?_
                    refine lv_istore_n (lv' := [(2, .int (nI (zSm (zWb wc wp (zTr hs np nm wc wp mp 0 0 240).2.1 (zTr hs np nm wc wp mp 0 0 240).2.2.1 ((zTr hs np nm wc wp mp 0 0 240).1 / hs)) i))), (6, .int 0), (5, .int (nI ((16 * i) + (4 * ((zTr hs np nm wc wp mp 0 0 240).2.1 i))))), (4, .int (nI ((zTr hs np nm wc wp mp 0 0 240).2.1 i))), (0, .ref M), (1, .int w), (3, .int (nI i))]) hx hb dX5_hangs_164 rfl hl (by decide) rfl (fun ls hl => ?_)
                    refine lv_iinc (v := nI (i + 1)) (lv' := [(3, .int (nI (i + 1))), (2, .int (nI (zSm (zWb wc wp (zTr hs np nm wc wp mp 0 0 240).2.1 (zTr hs np nm wc wp mp 0 0 240).2.2.1 ((zTr hs np nm wc wp mp 0 0 240).1 / hs)) i))), (6, .int 0), (5, .int (nI ((16 * i) + (4 * ((zTr hs np nm wc wp mp 0 0 240).2.1 i))))), (4, .int (nI ((zTr hs np nm wc wp mp 0 0 240).2.1 i))), (0, .ref M), (1, .int w)]) hx hb dX5_hangs_165 hl (k := 6) rfl (zi_eq (zi_add (zi_n i) (zi_c 1 rfl)) (zi_n (i + 1)) (by omega)) (by decide) rfl (fun ls hl => ?_)
                    refine lv_goto (tgt := 59) hx hb dX5_hangs_168 (by decide) ?_
                    have hP := hP.sub (ws' := [(M, .inr (5, [.long mt, .ref Mt, .int (nI ty), .ref Mc, .ref Mp, .ref Mw, .ref My, .ref Mm, .ref Mh, .ref Mk, .ref Mo, .int (nI xa), .int (nI xs), .int (nI xo), .int (nI xv), .int xf, .int (nI xh), .ref Ms, .ref Mi, .ref Mb, .ref Me, .int (nI dy), .ref Md])), (Mc, .inl (g.2.1.1, 2, .inl (zf ck))), (Mp, .inl (g.2.1.1, 2, .inl (zf pe))), (Mw, .inl (g.2.1.1, 12, .inl (zf wy))), (My, .inl (g.2.1.1, 192, .inl (zf wa))), (Mm, .inl (g.2.1.1, 2, .inl (zf mr))), (Mh, .inl (g.2.1.1, 24, .inl (zf mh))), (Ms, .inl (g.2.1.1, 108, .inl (zf sd9_4))), (Mb, .inl (g.2.1.1, 241, .inl (zf (zBh hs np nm wc wp mp 0 0))))]) [6, 7, 0, 1, 2, 3, 4, 8, 5] rfl
                    have hD := hD.sub (ws' := [(M, .inr (5, [.long mt, .ref Mt, .int (nI ty), .ref Mc, .ref Mp, .ref Mw, .ref My, .ref Mm, .ref Mh, .ref Mk, .ref Mo, .int (nI xa), .int (nI xs), .int (nI xo), .int (nI xv), .int xf, .int (nI xh), .ref Ms, .ref Mi, .ref Mb, .ref Me, .int (nI dy), .ref Md])), (Mc, .inl (g.2.1.1, 2, .inl (zf ck))), (Mp, .inl (g.2.1.1, 2, .inl (zf pe))), (Mw, .inl (g.2.1.1, 12, .inl (zf wy))), (My, .inl (g.2.1.1, 192, .inl (zf wa))), (Mm, .inl (g.2.1.1, 2, .inl (zf mr))), (Mh, .inl (g.2.1.1, 24, .inl (zf mh))), (Ms, .inl (g.2.1.1, 108, .inl (zf sd9_4))), (Mb, .inl (g.2.1.1, 241, .inl (zf (zBh hs np nm wc wp mp 0 0))))]) [6, 7, 0, 1, 2, 3, 4, 8, 5] (by decide) rfl
                    have eq_19 : nI (zSm (zWb wc wp (zTr hs np nm wc wp mp 0 0 240).2.1 (zTr hs np nm wc wp mp 0 0 240).2.2.1 ((zTr hs np nm wc wp mp 0 0 240).1 / hs)) i) = nI (zSm (zWb wc wp (zTr hs np nm wc wp mp 0 0 240).2.1 (zTr hs np nm wc wp mp 0 0 240).2.2.1 ((zTr hs np nm wc wp mp 0 0 240).1 / hs)) (i + 1)) := by first | (rw [zSm, zWb, if_pos ⟨by omega, by omega, by omega, by omega⟩]; done) | (rw [zSm, zWb, if_neg (fun q => by have q1 := q.1; have q2 := q.2.1; have q3 := q.2.2.1; have q4 := q.2.2.2; omega), Nat.add_zero]; done)
                    have hl : lv_has ls 7 [(3, .int (nI (i + 1))), (2, .int (nI (zSm (zWb wc wp (zTr hs np nm wc wp mp 0 0 240).2.1 (zTr hs np nm wc wp mp 0 0 240).2.2.1 ((zTr hs np nm wc wp mp 0 0 240).1 / hs)) (i + 1)))), (6, .int 0), (5, .int (nI ((16 * i) + (4 * ((zTr hs np nm wc wp mp 0 0 240).2.1 i))))), (4, .int (nI ((zTr hs np nm wc wp mp 0 0 240).2.1 i))), (0, .ref M), (1, .int w)] := Eq.mp (congrArg (fun z => lv_has ls 7 [(3, .int (nI (i + 1))), (2, .int (z)), (6, .int 0), (5, .int (nI ((16 * i) + (4 * ((zTr hs np nm wc wp mp 0 0 240).2.1 i))))), (4, .int (nI ((zTr hs np nm wc wp mp 0 0 240).2.1 i))), (0, .ref M), (1, .int w)]) eq_19) hl
                    exact ih59 (i + 1) _ _ _ (show (i + 1) ≤ np from by omega) (by omega) hP hD hS (lv_sub hl [5, 6, 1, 0] rfl)
                  · refine lv_iconst (v := 1) hx hb dX5_hangs_143 (by decide) ?_
                    refine lv_goto (tgt := 148) hx hb dX5_hangs_144 (by decide) ?_
                    refine lv_istore (lv' := [(6, .int 1), (5, .int (nI ((16 * i) + (4 * ((zTr hs np nm wc wp mp 0 0 240).2.1 i))))), (4, .int (nI ((zTr hs np nm wc wp mp 0 0 240).2.1 i))), (0, .ref M), (1, .int w), (2, .int (nI (zSm (zWb wc wp (zTr hs np nm wc wp mp 0 0 240).2.1 (zTr hs np nm wc wp mp 0 0 240).2.2.1 ((zTr hs np nm wc wp mp 0 0 240).1 / hs)) i))), (3, .int (nI i))]) hx hb dX5_hangs_148 hl (by decide) rfl (fun ls hl => ?_)
                    refine lv_iload_n hx hb dX5_hangs_150 rfl (lv_at hl 5 rfl) ?_
                    refine lv_iload hx hb dX5_hangs_151 (lv_at hl 0 rfl) ?_
                    refine zz_if_eq (tgt := 162) hx hb dX5_hangs_153 (by decide) (zi_c 1 rfl) (by omega) (fun c_20 => (by exfalso; omega)) (fun c_20 => ?_)
                    refine lv_iconst (v := 1) hx hb dX5_hangs_156 (by decide) ?_
                    refine lv_iload_n hx hb dX5_hangs_157 rfl (lv_at hl 6 rfl) ?_
                    refine lv_ishl hx hb dX5_hangs_158 ?_
                    refine zz_topi (y := nI (2 ^ i)) (zi_shl (by omega)) ?_
                    refine lv_goto (tgt := 163) hx hb dX5_hangs_159 (by decide) ?_
                    refine lv_ior hx hb dX5_hangs_163 ?_
                    refine zz_topi (y := nI ((zSm (zWb wc wp (zTr hs np nm wc wp mp 0 0 240).2.1 (zTr hs np nm wc wp mp 0 0 240).2.2.1 ((zTr hs np nm wc wp mp 0 0 240).1 / hs)) i) + 2 ^ i)) (zi_or (by omega) (by omega)) ?_
                    refine lv_istore_n (lv' := [(2, .int (nI ((zSm (zWb wc wp (zTr hs np nm wc wp mp 0 0 240).2.1 (zTr hs np nm wc wp mp 0 0 240).2.2.1 ((zTr hs np nm wc wp mp 0 0 240).1 / hs)) i) + 2 ^ i))), (6, .int 1), (5, .int (nI ((16 * i) + (4 * ((zTr hs np nm wc wp mp 0 0 240).2.1 i))))), (4, .int (nI ((zTr hs np nm wc wp mp 0 0 240).2.1 i))), (0, .ref M), (1, .int w), (3, .int (nI i))]) hx hb dX5_hangs_164 rfl hl (by decide) rfl (fun ls hl => ?_)
                    refine lv_iinc (v := nI (i + 1)) (lv' := [(3, .int (nI (i + 1))), (2, .int (nI ((zSm (zWb wc wp (zTr hs np nm wc wp mp 0 0 240).2.1 (zTr hs np nm wc wp mp 0 0 240).2.2.1 ((zTr hs np nm wc wp mp 0 0 240).1 / hs)) i) + 2 ^ i))), (6, .int 1), (5, .int (nI ((16 * i) + (4 * ((zTr hs np nm wc wp mp 0 0 240).2.1 i))))), (4, .int (nI ((zTr hs np nm wc wp mp 0 0 240).2.1 i))), (0, .ref M), (1, .int w)]) hx hb dX5_hangs_165 hl (k := 6) rfl (zi_eq (zi_add (zi_n i) (zi_c 1 rfl)) (zi_n (i + 1)) (by omega)) (by decide) rfl (fun ls hl => ?_)
                    refine lv_goto (tgt := 59) hx hb dX5_hangs_168 (by decide) ?_
                    have hP := hP.sub (ws' := [(M, .inr (5, [.long mt, .ref Mt, .int (nI ty), .ref Mc, .ref Mp, .ref Mw, .ref My, .ref Mm, .ref Mh, .ref Mk, .ref Mo, .int (nI xa), .int (nI xs), .int (nI xo), .int (nI xv), .int xf, .int (nI xh), .ref Ms, .ref Mi, .ref Mb, .ref Me, .int (nI dy), .ref Md])), (Mc, .inl (g.2.1.1, 2, .inl (zf ck))), (Mp, .inl (g.2.1.1, 2, .inl (zf pe))), (Mw, .inl (g.2.1.1, 12, .inl (zf wy))), (My, .inl (g.2.1.1, 192, .inl (zf wa))), (Mm, .inl (g.2.1.1, 2, .inl (zf mr))), (Mh, .inl (g.2.1.1, 24, .inl (zf mh))), (Ms, .inl (g.2.1.1, 108, .inl (zf sd9_4))), (Mb, .inl (g.2.1.1, 241, .inl (zf (zBh hs np nm wc wp mp 0 0))))]) [6, 7, 0, 1, 2, 3, 4, 8, 5] rfl
                    have hD := hD.sub (ws' := [(M, .inr (5, [.long mt, .ref Mt, .int (nI ty), .ref Mc, .ref Mp, .ref Mw, .ref My, .ref Mm, .ref Mh, .ref Mk, .ref Mo, .int (nI xa), .int (nI xs), .int (nI xo), .int (nI xv), .int xf, .int (nI xh), .ref Ms, .ref Mi, .ref Mb, .ref Me, .int (nI dy), .ref Md])), (Mc, .inl (g.2.1.1, 2, .inl (zf ck))), (Mp, .inl (g.2.1.1, 2, .inl (zf pe))), (Mw, .inl (g.2.1.1, 12, .inl (zf wy))), (My, .inl (g.2.1.1, 192, .inl (zf wa))), (Mm, .inl (g.2.1.1, 2, .inl (zf mr))), (Mh, .inl (g.2.1.1, 24, .inl (zf mh))), (Ms, .inl (g.2.1.1, 108, .inl (zf sd9_4))), (Mb, .inl (g.2.1.1, 241, .inl (zf (zBh hs np nm wc wp mp 0 0))))]) [6, 7, 0, 1, 2, 3, 4, 8, 5] (by decide) rfl
                    have eq_21 : nI ((zSm (zWb wc wp (zTr hs np nm wc wp mp 0 0 240).2.1 (zTr hs np nm wc wp mp 0 0 240).2.2.1 ((zTr hs np nm wc wp mp 0 0 240).1 / hs)) i) + 2 ^ i) = nI (zSm (zWb wc wp (zTr hs np nm wc wp mp 0 0 240).2.1 (zTr hs np nm wc wp mp 0 0 240).2.2.1 ((zTr hs np nm wc wp mp 0 0 240).1 / hs)) (i + 1)) := by first | (rw [zSm, zWb, if_pos ⟨by omega, by omega, by omega, by omega⟩]; done) | (rw [zSm, zWb, if_neg (fun q => by have q1 := q.1; have q2 := q.2.1; have q3 := q.2.2.1; have q4 := q.2.2.2; omega), Nat.add_zero]; done)
                    have hl : lv_has ls 7 [(3, .int (nI (i + 1))), (2, .int (nI (zSm (zWb wc wp (zTr hs np nm wc wp mp 0 0 240).2.1 (zTr hs np nm wc wp mp 0 0 240).2.2.1 ((zTr hs np nm wc wp mp 0 0 240).1 / hs)) (i + 1)))), (6, .int 1), (5, .int (nI ((16 * i) + (4 * ((zTr hs np nm wc wp mp 0 0 240).2.1 i))))), (4, .int (nI ((zTr hs np nm wc wp mp 0 0 240).2.1 i))), (0, .ref M), (1, .int w)] := Eq.mp (congrArg (fun z => lv_has ls 7 [(3, .int (nI (i + 1))), (2, .int (z)), (6, .int 1), (5, .int (nI ((16 * i) + (4 * ((zTr hs np nm wc wp mp 0 0 240).2.1 i))))), (4, .int (nI ((zTr hs np nm wc wp mp 0 0 240).2.1 i))), (0, .ref M), (1, .int w)]) eq_21) hl
                    exact ih59 (i + 1) _ _ _ (show (i + 1) ≤ np from by omega) (by omega) hP hD hS (lv_sub hl [5, 6, 1, 0] rfl)
      exact hcut59 ((np - 0) + 1) 0 _ _ _ (show 0 ≤ np from by omega) (by omega) hP hD hS (lv_sub hl [2, 3, 1, 0] rfl)
    · refine lv_sipush (v := 240) hx hb dX5_hangs_22 (by decide) ?_
      refine lv_istore_n (lv' := [(2, .int 240), (0, .ref M), (1, .int w)]) hx hb dX5_hangs_25 rfl hl (by decide) rfl (fun ls hl => ?_)
      have hcut26 : ∀ (fu : Nat) (t : Nat) (H : Heap) (locs : List Loc) (ls : Array Slot), (t ≤ 240) → (zSd (zBh hs np nm wc wp mp 0 0) 240 = zSd (zBh hs np nm wc wp mp 0 0) t) → t < fu → va_P g.1 vwCl [(M, .inr (5, [.long mt, .ref Mt, .int (nI ty), .ref Mc, .ref Mp, .ref Mw, .ref My, .ref Mm, .ref Mh, .ref Mk, .ref Mo, .int (nI xa), .int (nI xs), .int (nI xo), .int (nI xv), .int xf, .int (nI xh), .ref Ms, .ref Mi, .ref Mb, .ref Me, .int (nI dy), .ref Md])), (Mc, .inl (g.2.1.1, 2, .inl (zf ck))), (Mp, .inl (g.2.1.1, 2, .inl (zf pe))), (Mw, .inl (g.2.1.1, 12, .inl (zf wy))), (My, .inl (g.2.1.1, 192, .inl (zf wa))), (Mm, .inl (g.2.1.1, 2, .inl (zf mr))), (Mh, .inl (g.2.1.1, 24, .inl (zf mh))), (Ms, .inl (g.2.1.1, 108, .inl (zf sd9_4))), (Mb, .inl (g.2.1.1, 241, .inl (zf (zBh hs np nm wc wp mp 0 0))))] H → va_D A [(M, .inr (5, [.long mt, .ref Mt, .int (nI ty), .ref Mc, .ref Mp, .ref Mw, .ref My, .ref Mm, .ref Mh, .ref Mk, .ref Mo, .int (nI xa), .int (nI xs), .int (nI xo), .int (nI xv), .int xf, .int (nI xh), .ref Ms, .ref Mi, .ref Mb, .ref Me, .int (nI dy), .ref Md])), (Mc, .inl (g.2.1.1, 2, .inl (zf ck))), (Mp, .inl (g.2.1.1, 2, .inl (zf pe))), (Mw, .inl (g.2.1.1, 12, .inl (zf wy))), (My, .inl (g.2.1.1, 192, .inl (zf wa))), (Mm, .inl (g.2.1.1, 2, .inl (zf mr))), (Mh, .inl (g.2.1.1, 24, .inl (zf mh))), (Ms, .inl (g.2.1.1, 108, .inl (zf sd9_4))), (Mb, .inl (g.2.1.1, 241, .inl (zf (zBh hs np nm wc wp mp 0 0))))] → va_S A s.heap H locs → lv_has ls 7 [(0, .ref M), (1, .int w), (2, .int (nI t))] → W pP l eE { frames := 4, cells := 0, slots := 0, locals := 96 } s mM ([.ref M, .int w] : List Value).toArray below meth cC H locs 0 0 Q (F0 mM 26 ls []) := by
        intro fu
        induction fu with
        | zero =>
          intro t H locs ls ht hR hm
          exact absurd hm (Nat.not_lt_zero _)
        | succ fu ih26 =>
          intro t H locs ls ht hR hm hP hD hS hl
          have hb9 := hbl t
          have hb8 := hbl (t - 1)
          refine lv_iload_n hx hb dX5_hangs_26 rfl (lv_at hl 2 rfl) ?_
          refine zz_if_le (tgt := 53) hx hb dX5_hangs_27 (by decide) (zi_n t) (by omega) (fun c_22 => ?_) (fun c_22 => ?_)
          · refine lv_iload_n hx hb dX5_hangs_53 rfl (lv_at hl 2 rfl) ?_
            exact hret 54 _ _ _ (nI t) (sd9_4, (zBh hs np nm wc wp mp 0 0)) dX5_hangs_54 rfl hP hD hS (show (nI t) = zHangA (nI (zHang hs np nm wc wp mp)) (zBh hs np nm wc wp mp 0 0) w ∧ zOut 27 sd sd9_4 from by (refine ⟨?_, hO9⟩; rw [zHangA, if_neg (zi_wn (a := 0) (by omega) rfl), if_pos (zi_w (a := 1) (by omega) rfl), hR]; first | (rw [show t = 0 by omega]; rfl) | (obtain ⟨q, rfl⟩ : ∃ q, t = q + 1 := ⟨t - 1, by omega⟩; simp only [Nat.add_sub_cancel] at *; have hge := zBh_ge hs np nm wc wp mp 0 0 q; rw [zSd, if_pos (by omega)])))
          · refine lv_aload_n hx hb dX5_hangs_30 rfl (lv_at hl 0 rfl) ?_
            refine va_get (D := g.1) (ci := 5) (v := .ref Mb) (C := RX5) (T := TX5) (N := 23) hx hb hts hiX5 hown hK.1 hP 0 rfl rfl 19 (by decide) hf4 (fun _ h9 => h9) rfl dX5_hangs_31 ?_
            refine lv_iload_n hx hb dX5_hangs_34 rfl (lv_at hl 2 rfl) ?_
            refine zz_iald hx hb hK.1 hP 8 0 rfl rfl t rfl (by omega) (by decide) dX5_hangs_35 ?_
            refine lv_aload_n hx hb dX5_hangs_36 rfl (lv_at hl 0 rfl) ?_
            refine va_get (D := g.1) (ci := 5) (v := .ref Mb) (C := RX5) (T := TX5) (N := 23) hx hb hts hiX5 hown hK.1 hP 0 rfl rfl 19 (by decide) hf4 (fun _ h9 => h9) rfl dX5_hangs_37 ?_
            refine lv_iload_n hx hb dX5_hangs_40 rfl (lv_at hl 2 rfl) ?_
            refine lv_iconst (v := 1) hx hb dX5_hangs_41 (by decide) ?_
            refine lv_isub hx hb dX5_hangs_42 ?_
            refine zz_iald hx hb hK.1 hP 8 0 rfl rfl (t - 1) (zi_eq (zi_sub (zi_n t) (zi_c 1 rfl)) (zi_n (t - 1)) (by omega)) (by omega) (by decide) dX5_hangs_43 ?_
            refine zz_icmp_ne (tgt := 53) hx hb dX5_hangs_44 (by decide) (zi_n ((zBh hs np nm wc wp mp 0 0) t)) (zi_n ((zBh hs np nm wc wp mp 0 0) (t - 1))) (by omega) (by omega) (fun c_23 => ?_) (fun c_23 => ?_)
            · refine lv_iload_n hx hb dX5_hangs_53 rfl (lv_at hl 2 rfl) ?_
              exact hret 54 _ _ _ (nI t) (sd9_4, (zBh hs np nm wc wp mp 0 0)) dX5_hangs_54 rfl hP hD hS (show (nI t) = zHangA (nI (zHang hs np nm wc wp mp)) (zBh hs np nm wc wp mp 0 0) w ∧ zOut 27 sd sd9_4 from by (refine ⟨?_, hO9⟩; rw [zHangA, if_neg (zi_wn (a := 0) (by omega) rfl), if_pos (zi_w (a := 1) (by omega) rfl), hR]; first | (rw [show t = 0 by omega]; rfl) | (obtain ⟨q, rfl⟩ : ∃ q, t = q + 1 := ⟨t - 1, by omega⟩; simp only [Nat.add_sub_cancel] at *; have hge := zBh_ge hs np nm wc wp mp 0 0 q; rw [zSd, if_pos (by omega)])))
            · refine lv_iinc (v := nI (t - 1)) (lv' := [(2, .int (nI (t - 1))), (0, .ref M), (1, .int w)]) hx hb dX5_hangs_47 hl (k := 2) rfl (show (nI t) + Int32.ofInt (-1) = nI (t - 1) from (zi_eq (zi_add (zi_n t) (zi_c (-1) rfl)) (zi_n (t - 1)) (by omega))) (by decide) rfl (fun ls hl => ?_)
              refine lv_goto (tgt := 26) hx hb dX5_hangs_50 (by decide) ?_
              exact ih26 (t - 1) _ _ _ (show (t - 1) ≤ 240 from by omega) (show zSd (zBh hs np nm wc wp mp 0 0) 240 = zSd (zBh hs np nm wc wp mp 0 0) (t - 1) from by (rw [hR]; obtain ⟨q, rfl⟩ : ∃ q, t = q + 1 := ⟨t - 1, by omega⟩; rw [zSd, if_neg (by simp only [Nat.add_sub_cancel] at *; omega), Nat.add_sub_cancel])) (by omega) hP hD hS (lv_sub hl [1, 2, 0] rfl)
      exact hcut26 (240 + 1) 240 _ _ _ (show 240 ≤ 240 from by omega) (show zSd (zBh hs np nm wc wp mp 0 0) 240 = zSd (zBh hs np nm wc wp mp 0 0) 240 from by rfl) (by omega) hP hD hS (lv_sub hl [1, 2, 0] rfl)
  · rw [if_neg b_2] at hr_1
    subst hr_1
    refine zz_if_ne (tgt := 11) hx hb dX5_hangs_6 (by decide) (zi_c 0 rfl) (by omega) (fun c_24 => (by exfalso; omega)) (fun c_24 => ?_)
    refine lv_iconst (v := (-1)) hx hb dX5_hangs_9 (by decide) ?_
    exact hret 10 _ _ _ (-1) (sd, bh) dX5_hangs_10 rfl hP hD hS (show (-1) = zHangA (nI (zHang hs np nm wc wp mp)) (zBh hs np nm wc wp mp 0 0) w ∧ zOut 27 sd sd from by (rw [zHangA, if_neg (zi_wn (a := 0) (by omega) rfl), if_neg (zi_wn (a := 1) (by omega) rfl)]; exact ⟨rfl, zOut_r 27 sd⟩))

set_option maxHeartbeats 4000000 in
set_option maxRecDepth 100000 in
theorem c_X5_least (l : Launch) (g : zG) (M Mt Mc Mp Mw My Mm Mh Mk Mo Ms Mi Mb Me Md : Nat) (mt : Int64) (ty xa xs xo xv xh dy : Nat) (xf : Int32) (ck : Nat → Nat) (pe : Nat → Nat) (wy : Nat → Nat) (wa : Nat → Nat) (mr : Nat → Nat) (mh : Nat → Nat) (sd : Nat → Nat) (bh : Nat → Nat) (hs : Nat) (np : Nat) (nm : Nat) (wc wp mp : Nat → Nat) (x t : Int32) (hPB : zPB hs np nm wc wp mp) (hMB : zMB hs np nm wc wp mp ck pe wy wa mr mh) : zI l yX5_least wsX5_least 4 96 g [.ref M, .int x, .int t] [(M, .inr (5, [.long mt, .ref Mt, .int (nI ty), .ref Mc, .ref Mp, .ref Mw, .ref My, .ref Mm, .ref Mh, .ref Mk, .ref Mo, .int (nI xa), .int (nI xs), .int (nI xo), .int (nI xv), .int xf, .int (nI xh), .ref Ms, .ref Mi, .ref Mb, .ref Me, .int (nI dy), .ref Md])), (Mc, .inl (g.2.1.1, 2, .inl (zf ck))), (Mp, .inl (g.2.1.1, 2, .inl (zf pe))), (Mw, .inl (g.2.1.1, 12, .inl (zf wy))), (My, .inl (g.2.1.1, 192, .inl (zf wa))), (Mm, .inl (g.2.1.1, 2, .inl (zf mr))), (Mh, .inl (g.2.1.1, 24, .inl (zf mh))), (Ms, .inl (g.2.1.1, 108, .inl (zf sd))), (Mb, .inl (g.2.1.1, 241, .inl (zf bh)))] (fun (r : Int32) (u : (Nat → Nat) × (Nat → Nat)) => r = zLeast hs (zBh hs np nm wc wp mp 0 0) x t ∧ zOut 27 sd u.1) (fun (u : (Nat → Nat) × (Nat → Nat)) => [(M, .inr (5, [.long mt, .ref Mt, .int (nI ty), .ref Mc, .ref Mp, .ref Mw, .ref My, .ref Mm, .ref Mh, .ref Mk, .ref Mo, .int (nI xa), .int (nI xs), .int (nI xo), .int (nI xv), .int xf, .int (nI xh), .ref Ms, .ref Mi, .ref Mb, .ref Me, .int (nI dy), .ref Md])), (Mc, .inl (g.2.1.1, 2, .inl (zf ck))), (Mp, .inl (g.2.1.1, 2, .inl (zf pe))), (Mw, .inl (g.2.1.1, 12, .inl (zf wy))), (My, .inl (g.2.1.1, 192, .inl (zf wa))), (Mm, .inl (g.2.1.1, 2, .inl (zf mr))), (Mh, .inl (g.2.1.1, 24, .inl (zf mh))), (Ms, .inl (g.2.1.1, 108, .inl (zf u.1))), (Mb, .inl (g.2.1.1, 241, .inl (zf u.2)))]) := by
  refine zz_bodyI (cc := cX5_least) (nL := 4) (own := RX5) (ty := .int) (by decide) rfl rfl (Nat.le_of_ble_eq_true rfl) ?_
  intro pP eE s mM below meth cC A Q ls F hA hK hE hP hD hl hret
  have hS : va_S A s.heap s.heap [] := va_S.rf
  obtain ⟨hx, hb, hml, hown, hts⟩ := id F
  have hiX5 : ∀ w ∈ u_ws RX5 TX5 23, w ∈ wsX5_least := by decide +kernel
  have hf0 := hts (.fieldLink RX5 45 "StepClockModel" "behind" "[I") (by decide +kernel)
  have hf1 := hts (.fieldLink RX5 13 "StepClockModel" "clocks" "[I") (by decide +kernel)
  have hl : lv_has ls 4 [(0, .ref M), (1, .int x), (2, .int t)] := hl
  obtain ⟨hhs, hnp, hnm, hwc, hwp, hmp, hwk⟩ := id hPB
  obtain ⟨hck0, hpe0, hmr0, hwy, hwa, hmh⟩ := id hMB
  have hlox := zi_lo x
  have hhix := zi_hi x
  have hlot := zi_lo t
  have hhit := zi_hi t
  have hq4 : x.toInt ≤ 9999 → x.toInt.toNat * hs ≤ 9999 * 999 := fun q => Nat.mul_le_mul (by omega) (by omega)
  refine lv_iload_n hx hb dX5_least_0 rfl (lv_at hl 1 rfl) ?_
  refine lv_iconst (v := 1) hx hb dX5_least_1 (by decide) ?_
  refine lv_sipush (v := 9999) hx hb dX5_least_2 (by decide) ?_
  refine zz_callSI (wr := [(M, .inr (5, [.long mt, .ref Mt, .int (nI ty), .ref Mc, .ref Mp, .ref Mw, .ref My, .ref Mm, .ref Mh, .ref Mk, .ref Mo, .int (nI xa), .int (nI xs), .int (nI xo), .int (nI xv), .int xf, .int (nI xh), .ref Ms, .ref Mi, .ref Mb, .ref Me, .int (nI dy), .ref Md])), (Mc, .inl (g.2.1.1, 2, .inl (zf ck))), (Mp, .inl (g.2.1.1, 2, .inl (zf pe))), (Mw, .inl (g.2.1.1, 12, .inl (zf wy))), (My, .inl (g.2.1.1, 192, .inl (zf wa))), (Mm, .inl (g.2.1.1, 2, .inl (zf mr))), (Mh, .inl (g.2.1.1, 24, .inl (zf mh))), (Ms, .inl (g.2.1.1, 108, .inl (zf sd))), (Mb, .inl (g.2.1.1, 241, .inl (zf bh)))]) (wc := []) (As := [.int x, .int (nI 1), .int (nI 9999)]) (rest := []) F hK hE hA hP hD hS (c_X5_in l g (x := x) (a := 1) (b := 9999) (hab := by first | assumption | omega)) (va_cwS 3 hts gX5_least_X5_in rfl rfl rfl (by decide +kernel) ⟨Nat.le_of_ble_eq_true rfl, Nat.le_of_ble_eq_true rfl⟩) [] [0, 1, 2, 3, 4, 5, 6, 7, 8] rfl rfl (by decide) (by decide) (by decide) rfl rfl hl.1 (Nat.le_of_ble_eq_true rfl) dX5_least_5 ⟨Nat.le_of_ble_eq_true rfl, Nat.le_of_ble_eq_true rfl⟩ (fun r_1 u_1 H locs hw hP hD hS => ?_)
  have hP : va_P g.1 vwCl [(M, .inr (5, [.long mt, .ref Mt, .int (nI ty), .ref Mc, .ref Mp, .ref Mw, .ref My, .ref Mm, .ref Mh, .ref Mk, .ref Mo, .int (nI xa), .int (nI xs), .int (nI xo), .int (nI xv), .int xf, .int (nI xh), .ref Ms, .ref Mi, .ref Mb, .ref Me, .int (nI dy), .ref Md])), (Mc, .inl (g.2.1.1, 2, .inl (zf ck))), (Mp, .inl (g.2.1.1, 2, .inl (zf pe))), (Mw, .inl (g.2.1.1, 12, .inl (zf wy))), (My, .inl (g.2.1.1, 192, .inl (zf wa))), (Mm, .inl (g.2.1.1, 2, .inl (zf mr))), (Mh, .inl (g.2.1.1, 24, .inl (zf mh))), (Ms, .inl (g.2.1.1, 108, .inl (zf sd))), (Mb, .inl (g.2.1.1, 241, .inl (zf bh)))] _ := hP
  have hD : va_D A [(M, .inr (5, [.long mt, .ref Mt, .int (nI ty), .ref Mc, .ref Mp, .ref Mw, .ref My, .ref Mm, .ref Mh, .ref Mk, .ref Mo, .int (nI xa), .int (nI xs), .int (nI xo), .int (nI xv), .int xf, .int (nI xh), .ref Ms, .ref Mi, .ref Mb, .ref Me, .int (nI dy), .ref Md])), (Mc, .inl (g.2.1.1, 2, .inl (zf ck))), (Mp, .inl (g.2.1.1, 2, .inl (zf pe))), (Mw, .inl (g.2.1.1, 12, .inl (zf wy))), (My, .inl (g.2.1.1, 192, .inl (zf wa))), (Mm, .inl (g.2.1.1, 2, .inl (zf mr))), (Mh, .inl (g.2.1.1, 24, .inl (zf mh))), (Ms, .inl (g.2.1.1, 108, .inl (zf sd))), (Mb, .inl (g.2.1.1, 241, .inl (zf bh)))] := hD
  have hr_1 := hw
  have hr_1 : r_1 = if (1 : Int) ≤ x.toInt ∧ x.toInt ≤ (9999 : Int) then 1 else 0 := hr_1
  by_cases b_2 : (1 : Int) ≤ x.toInt ∧ x.toInt ≤ (9999 : Int)
  · rw [if_pos b_2] at hr_1
    subst hr_1
    refine zz_if_eq (tgt := 22) hx hb dX5_least_8 (by decide) (zi_c 1 rfl) (by omega) (fun c_3 => (by exfalso; omega)) (fun c_3 => ?_)
    refine lv_iload_n hx hb dX5_least_11 rfl (lv_at hl 2 rfl) ?_
    refine lv_iconst (v := 1) hx hb dX5_least_12 (by decide) ?_
    refine lv_sipush (v := 240) hx hb dX5_least_13 (by decide) ?_
    refine zz_callSI (wr := [(M, .inr (5, [.long mt, .ref Mt, .int (nI ty), .ref Mc, .ref Mp, .ref Mw, .ref My, .ref Mm, .ref Mh, .ref Mk, .ref Mo, .int (nI xa), .int (nI xs), .int (nI xo), .int (nI xv), .int xf, .int (nI xh), .ref Ms, .ref Mi, .ref Mb, .ref Me, .int (nI dy), .ref Md])), (Mc, .inl (g.2.1.1, 2, .inl (zf ck))), (Mp, .inl (g.2.1.1, 2, .inl (zf pe))), (Mw, .inl (g.2.1.1, 12, .inl (zf wy))), (My, .inl (g.2.1.1, 192, .inl (zf wa))), (Mm, .inl (g.2.1.1, 2, .inl (zf mr))), (Mh, .inl (g.2.1.1, 24, .inl (zf mh))), (Ms, .inl (g.2.1.1, 108, .inl (zf sd))), (Mb, .inl (g.2.1.1, 241, .inl (zf bh)))]) (wc := []) (As := [.int t, .int (nI 1), .int (nI 240)]) (rest := []) F hK hE hA hP hD hS (c_X5_in l g (x := t) (a := 1) (b := 240) (hab := by first | assumption | omega)) (va_cwS 3 hts gX5_least_X5_in rfl rfl rfl (by decide +kernel) ⟨Nat.le_of_ble_eq_true rfl, Nat.le_of_ble_eq_true rfl⟩) [] [0, 1, 2, 3, 4, 5, 6, 7, 8] rfl rfl (by decide) (by decide) (by decide) rfl rfl hl.1 (Nat.le_of_ble_eq_true rfl) dX5_least_16 ⟨Nat.le_of_ble_eq_true rfl, Nat.le_of_ble_eq_true rfl⟩ (fun r_4 u_4 H locs hw hP hD hS => ?_)
    have hP : va_P g.1 vwCl [(M, .inr (5, [.long mt, .ref Mt, .int (nI ty), .ref Mc, .ref Mp, .ref Mw, .ref My, .ref Mm, .ref Mh, .ref Mk, .ref Mo, .int (nI xa), .int (nI xs), .int (nI xo), .int (nI xv), .int xf, .int (nI xh), .ref Ms, .ref Mi, .ref Mb, .ref Me, .int (nI dy), .ref Md])), (Mc, .inl (g.2.1.1, 2, .inl (zf ck))), (Mp, .inl (g.2.1.1, 2, .inl (zf pe))), (Mw, .inl (g.2.1.1, 12, .inl (zf wy))), (My, .inl (g.2.1.1, 192, .inl (zf wa))), (Mm, .inl (g.2.1.1, 2, .inl (zf mr))), (Mh, .inl (g.2.1.1, 24, .inl (zf mh))), (Ms, .inl (g.2.1.1, 108, .inl (zf sd))), (Mb, .inl (g.2.1.1, 241, .inl (zf bh)))] _ := hP
    have hD : va_D A [(M, .inr (5, [.long mt, .ref Mt, .int (nI ty), .ref Mc, .ref Mp, .ref Mw, .ref My, .ref Mm, .ref Mh, .ref Mk, .ref Mo, .int (nI xa), .int (nI xs), .int (nI xo), .int (nI xv), .int xf, .int (nI xh), .ref Ms, .ref Mi, .ref Mb, .ref Me, .int (nI dy), .ref Md])), (Mc, .inl (g.2.1.1, 2, .inl (zf ck))), (Mp, .inl (g.2.1.1, 2, .inl (zf pe))), (Mw, .inl (g.2.1.1, 12, .inl (zf wy))), (My, .inl (g.2.1.1, 192, .inl (zf wa))), (Mm, .inl (g.2.1.1, 2, .inl (zf mr))), (Mh, .inl (g.2.1.1, 24, .inl (zf mh))), (Ms, .inl (g.2.1.1, 108, .inl (zf sd))), (Mb, .inl (g.2.1.1, 241, .inl (zf bh)))] := hD
    have hr_4 := hw
    have hr_4 : r_4 = if (1 : Int) ≤ t.toInt ∧ t.toInt ≤ (240 : Int) then 1 else 0 := hr_4
    by_cases b_5 : (1 : Int) ≤ t.toInt ∧ t.toInt ≤ (240 : Int)
    · rw [if_pos b_5] at hr_4
      subst hr_4
      refine zz_if_ne (tgt := 24) hx hb dX5_least_19 (by decide) (zi_c 1 rfl) (by omega) (fun c_6 => ?_) (fun c_6 => (by exfalso; omega))
      refine lv_aload_n hx hb dX5_least_24 rfl (lv_at hl 0 rfl) ?_
      refine lv_iconst (v := 0) hx hb dX5_least_25 (by decide) ?_
      refine lv_iconst (v := 0) hx hb dX5_least_26 (by decide) ?_
      refine zz_callV (wr := []) (wc := [(M, .inr (5, [.long mt, .ref Mt, .int (nI ty), .ref Mc, .ref Mp, .ref Mw, .ref My, .ref Mm, .ref Mh, .ref Mk, .ref Mo, .int (nI xa), .int (nI xs), .int (nI xo), .int (nI xv), .int xf, .int (nI xh), .ref Ms, .ref Mi, .ref Mb, .ref Me, .int (nI dy), .ref Md])), (Mc, .inl (g.2.1.1, 2, .inl (zf ck))), (Mp, .inl (g.2.1.1, 2, .inl (zf pe))), (Mw, .inl (g.2.1.1, 12, .inl (zf wy))), (My, .inl (g.2.1.1, 192, .inl (zf wa))), (Mm, .inl (g.2.1.1, 2, .inl (zf mr))), (Mh, .inl (g.2.1.1, 24, .inl (zf mh))), (Ms, .inl (g.2.1.1, 108, .inl (zf sd))), (Mb, .inl (g.2.1.1, 241, .inl (zf bh)))]) (As := [.int (nI 0), .int (nI 0)]) (rest := []) F hK hE hA hP hD hS (c_X5_goAll l g (M := M) (Mt := Mt) (Mc := Mc) (Mp := Mp) (Mw := Mw) (My := My) (Mm := Mm) (Mh := Mh) (Mk := Mk) (Mo := Mo) (Ms := Ms) (Mi := Mi) (Mb := Mb) (Me := Me) (Md := Md) (mt := mt) (ty := ty) (xa := xa) (xs := xs) (xo := xo) (xv := xv) (xh := xh) (dy := dy) (xf := xf) (ck := ck) (pe := pe) (wy := wy) (wa := wa) (mr := mr) (mh := mh) (sd := sd) (bh := bh) (s1 := 0) (f := 0) (hs := hs) (np := np) (nm := nm) (wc := wc) (wp := wp) (mp := mp) (hPB := by first | assumption | omega) (hMB := by first | assumption | omega) (hs1 := by first | assumption | omega) (hf := by first | assumption | omega)) (cwV 2 hts gX5_least_X5_goAll rfl rfl rfl (by decide +kernel) ⟨Nat.le_of_ble_eq_true rfl, Nat.le_of_ble_eq_true rfl⟩) [0, 1, 2, 3, 4, 5, 6, 7, 8] [] rfl rfl (by decide) (by decide) (by decide) 5 0 rfl rfl rfl rfl rfl hl.1 (Nat.le_of_ble_eq_true rfl) dX5_least_27 ⟨Nat.le_of_ble_eq_true rfl, Nat.le_of_ble_eq_true rfl⟩ (fun sd9_7 H locs hw hP hD hS => ?_)
      have hP : va_P g.1 vwCl [(M, .inr (5, [.long mt, .ref Mt, .int (nI ty), .ref Mc, .ref Mp, .ref Mw, .ref My, .ref Mm, .ref Mh, .ref Mk, .ref Mo, .int (nI xa), .int (nI xs), .int (nI xo), .int (nI xv), .int xf, .int (nI xh), .ref Ms, .ref Mi, .ref Mb, .ref Me, .int (nI dy), .ref Md])), (Mc, .inl (g.2.1.1, 2, .inl (zf ck))), (Mp, .inl (g.2.1.1, 2, .inl (zf pe))), (Mw, .inl (g.2.1.1, 12, .inl (zf wy))), (My, .inl (g.2.1.1, 192, .inl (zf wa))), (Mm, .inl (g.2.1.1, 2, .inl (zf mr))), (Mh, .inl (g.2.1.1, 24, .inl (zf mh))), (Ms, .inl (g.2.1.1, 108, .inl (zf sd9_7))), (Mb, .inl (g.2.1.1, 241, .inl (zf (zBh hs np nm wc wp mp 0 0))))] _ := hP
      have hD : va_D A [(M, .inr (5, [.long mt, .ref Mt, .int (nI ty), .ref Mc, .ref Mp, .ref Mw, .ref My, .ref Mm, .ref Mh, .ref Mk, .ref Mo, .int (nI xa), .int (nI xs), .int (nI xo), .int (nI xv), .int xf, .int (nI xh), .ref Ms, .ref Mi, .ref Mb, .ref Me, .int (nI dy), .ref Md])), (Mc, .inl (g.2.1.1, 2, .inl (zf ck))), (Mp, .inl (g.2.1.1, 2, .inl (zf pe))), (Mw, .inl (g.2.1.1, 12, .inl (zf wy))), (My, .inl (g.2.1.1, 192, .inl (zf wa))), (Mm, .inl (g.2.1.1, 2, .inl (zf mr))), (Mh, .inl (g.2.1.1, 24, .inl (zf mh))), (Ms, .inl (g.2.1.1, 108, .inl (zf sd9_7))), (Mb, .inl (g.2.1.1, 241, .inl (zf (zBh hs np nm wc wp mp 0 0))))] := hD
      have hw_7 : zRel 27 sd9_7 240 (zTr hs np nm wc wp mp 0 0 240).1 0 (zTr hs np nm wc wp mp 0 0 240).2.1 (zTr hs np nm wc wp mp 0 0 240).2.2.1 (zTr hs np nm wc wp mp 0 0 240).2.2.2 ∧ zOut 27 sd sd9_7 := hw
      have hR9 := hw_7.1
      have hO9 := hw_7.2
      have hbl := zBh_lt (si := 0) (f := 0) hPB (by omega)
      have hb1 := hbl (t.toInt.toNat - 1)
      have hb2 := hbl (t.toInt.toNat)
      have hq5 := hq4 (by omega)
      refine lv_aload_n hx hb dX5_least_30 rfl (lv_at hl 0 rfl) ?_
      refine va_get (D := g.1) (ci := 5) (v := .ref Mb) (C := RX5) (T := TX5) (N := 23) hx hb hts hiX5 hown hK.1 hP 0 rfl rfl 19 (by decide) hf0 (fun _ h9 => h9) rfl dX5_least_31 ?_
      refine lv_iload_n hx hb dX5_least_34 rfl (lv_at hl 2 rfl) ?_
      refine lv_iconst (v := 1) hx hb dX5_least_35 (by decide) ?_
      refine lv_isub hx hb dX5_least_36 ?_
      refine zz_iald hx hb hK.1 hP 8 0 rfl rfl ((t.toInt).toNat - 1) (zi_eq (zi_sub (zi_self t) (zi_c 1 rfl)) (zi_n ((t.toInt).toNat - 1)) (by omega)) (by omega) (by decide) dX5_least_37 ?_
      refine lv_aload_n hx hb dX5_least_38 rfl (lv_at hl 0 rfl) ?_
      refine va_get (D := g.1) (ci := 5) (v := .ref Mc) (C := RX5) (T := TX5) (N := 23) hx hb hts hiX5 hown hK.1 hP 0 rfl rfl 3 (by decide) hf1 (fun _ h9 => h9) rfl dX5_least_39 ?_
      refine lv_iconst (v := 0) hx hb dX5_least_42 (by decide) ?_
      refine zz_iald hx hb hK.1 hP 1 0 rfl rfl 0 (zi_eq (zi_c 0 rfl) (zi_n 0) (by omega)) (by omega) (by decide) dX5_least_43 ?_
      refine zz_topi (y := nI hs) (congrArg nI (hck0)) ?_
      refine lv_idiv hx hb dX5_least_44 (nI_ne0 (by omega) (by omega)) ?_
      have hq_8 : ((zBh hs np nm wc wp mp 0 0) ((t.toInt).toNat - 1)) / hs ≤ ((zBh hs np nm wc wp mp 0 0) ((t.toInt).toNat - 1)) := Nat.div_le_self _ _
      have hqz_9 : (0 : Int) ≤ ((((zBh hs np nm wc wp mp 0 0) ((t.toInt).toNat - 1)) / hs : Nat) : Int) := Int.natCast_nonneg _
      refine zz_topi (y := nI (((zBh hs np nm wc wp mp 0 0) ((t.toInt).toNat - 1)) / hs)) (pk_div (a := ((zBh hs np nm wc wp mp 0 0) ((t.toInt).toNat - 1))) (d := hs) (by omega) (by omega) (by omega)) ?_
      refine lv_iload_n hx hb dX5_least_45 rfl (lv_at hl 1 rfl) ?_
      refine zz_icmp_lt (tgt := 52) hx hb dX5_least_46 (by decide) (zi_n (((zBh hs np nm wc wp mp 0 0) ((t.toInt).toNat - 1)) / hs)) (zi_self x) (by omega) (by omega) (fun c_10 => ?_) (fun c_10 => ?_)
      · refine lv_iload_n hx hb dX5_least_52 rfl (lv_at hl 1 rfl) ?_
        refine lv_aload_n hx hb dX5_least_53 rfl (lv_at hl 0 rfl) ?_
        refine va_get (D := g.1) (ci := 5) (v := .ref Mc) (C := RX5) (T := TX5) (N := 23) hx hb hts hiX5 hown hK.1 hP 0 rfl rfl 3 (by decide) hf1 (fun _ h9 => h9) rfl dX5_least_54 ?_
        refine lv_iconst (v := 0) hx hb dX5_least_57 (by decide) ?_
        refine zz_iald hx hb hK.1 hP 1 0 rfl rfl 0 (zi_eq (zi_c 0 rfl) (zi_n 0) (by omega)) (by omega) (by decide) dX5_least_58 ?_
        refine zz_topi (y := nI hs) (congrArg nI (hck0)) ?_
        refine lv_imul hx hb dX5_least_59 ?_
        refine zz_topi (y := nI (x.toInt.toNat * hs)) (zXmul (by omega)) ?_
        refine lv_aload_n hx hb dX5_least_60 rfl (lv_at hl 0 rfl) ?_
        refine va_get (D := g.1) (ci := 5) (v := .ref Mb) (C := RX5) (T := TX5) (N := 23) hx hb hts hiX5 hown hK.1 hP 0 rfl rfl 19 (by decide) hf0 (fun _ h9 => h9) rfl dX5_least_61 ?_
        refine lv_iload_n hx hb dX5_least_64 rfl (lv_at hl 2 rfl) ?_
        refine zz_iald hx hb hK.1 hP 8 0 rfl rfl ((t.toInt).toNat) (zi_eq (zi_self t) (zi_n ((t.toInt).toNat)) (by omega)) (by omega) (by decide) dX5_least_65 ?_
        refine lv_isub hx hb dX5_least_66 ?_
        refine lv_istore_n (lv' := [(3, .int ((nI (x.toInt.toNat * hs)) - (nI ((zBh hs np nm wc wp mp 0 0) ((t.toInt).toNat))))), (0, .ref M), (1, .int x), (2, .int t)]) hx hb dX5_least_67 rfl hl (by decide) rfl (fun ls hl => ?_)
        refine lv_iload_n hx hb dX5_least_68 rfl (lv_at hl 0 rfl) ?_
        refine zz_if_le (tgt := 76) hx hb dX5_least_69 (by decide) (zi_sub (zi_n (x.toInt.toNat * hs)) (zi_n ((zBh hs np nm wc wp mp 0 0) ((t.toInt).toNat)))) (by omega) (fun c_11 => ?_) (fun c_11 => ?_)
        · refine lv_iconst (v := 0) hx hb dX5_least_76 (by decide) ?_
          exact hret 77 _ _ _ 0 (sd9_7, (zBh hs np nm wc wp mp 0 0)) dX5_least_77 rfl hP hD hS (show 0 = zLeast hs (zBh hs np nm wc wp mp 0 0) x t ∧ zOut 27 sd sd9_7 from by first | (rw [zLeast, if_neg (by omega)]; exact ⟨rfl, zOut_r 27 sd⟩) | (rw [zLeast, if_pos (by omega), if_pos (by omega)]; exact ⟨rfl, hO9⟩) | (rw [zLeast, if_pos (by omega), if_neg (by omega)]; exact ⟨zi_eq (zi_sub (zi_n _) (zi_n _)) (zi_n _) (by omega), hO9⟩) | (rw [zLeast, if_pos (by omega), if_neg (by omega), show x.toInt.toNat * hs - (zBh hs np nm wc wp mp 0 0) t.toInt.toNat = 0 by omega]; exact ⟨rfl, hO9⟩))
        · refine lv_iload_n hx hb dX5_least_72 rfl (lv_at hl 0 rfl) ?_
          refine lv_goto (tgt := 77) hx hb dX5_least_73 (by decide) ?_
          exact hret 77 _ _ _ ((nI (x.toInt.toNat * hs)) - (nI ((zBh hs np nm wc wp mp 0 0) ((t.toInt).toNat)))) (sd9_7, (zBh hs np nm wc wp mp 0 0)) dX5_least_77 rfl hP hD hS (show ((nI (x.toInt.toNat * hs)) - (nI ((zBh hs np nm wc wp mp 0 0) ((t.toInt).toNat)))) = zLeast hs (zBh hs np nm wc wp mp 0 0) x t ∧ zOut 27 sd sd9_7 from by first | (rw [zLeast, if_neg (by omega)]; exact ⟨rfl, zOut_r 27 sd⟩) | (rw [zLeast, if_pos (by omega), if_pos (by omega)]; exact ⟨rfl, hO9⟩) | (rw [zLeast, if_pos (by omega), if_neg (by omega)]; exact ⟨zi_eq (zi_sub (zi_n _) (zi_n _)) (zi_n _) (by omega), hO9⟩) | (rw [zLeast, if_pos (by omega), if_neg (by omega), show x.toInt.toNat * hs - (zBh hs np nm wc wp mp 0 0) t.toInt.toNat = 0 by omega]; exact ⟨rfl, hO9⟩))
      · refine lv_bipush (v := (-9)) hx hb dX5_least_49 (by decide) ?_
        exact hret 51 _ _ _ (-9) (sd9_7, (zBh hs np nm wc wp mp 0 0)) dX5_least_51 rfl hP hD hS (show (-9) = zLeast hs (zBh hs np nm wc wp mp 0 0) x t ∧ zOut 27 sd sd9_7 from by first | (rw [zLeast, if_neg (by omega)]; exact ⟨rfl, zOut_r 27 sd⟩) | (rw [zLeast, if_pos (by omega), if_pos (by omega)]; exact ⟨rfl, hO9⟩) | (rw [zLeast, if_pos (by omega), if_neg (by omega)]; exact ⟨zi_eq (zi_sub (zi_n _) (zi_n _)) (zi_n _) (by omega), hO9⟩) | (rw [zLeast, if_pos (by omega), if_neg (by omega), show x.toInt.toNat * hs - (zBh hs np nm wc wp mp 0 0) t.toInt.toNat = 0 by omega]; exact ⟨rfl, hO9⟩))
    · rw [if_neg b_5] at hr_4
      subst hr_4
      refine zz_if_ne (tgt := 24) hx hb dX5_least_19 (by decide) (zi_c 0 rfl) (by omega) (fun c_12 => (by exfalso; omega)) (fun c_12 => ?_)
      refine lv_iconst (v := (-1)) hx hb dX5_least_22 (by decide) ?_
      exact hret 23 _ _ _ (-1) (sd, bh) dX5_least_23 rfl hP hD hS (show (-1) = zLeast hs (zBh hs np nm wc wp mp 0 0) x t ∧ zOut 27 sd sd from by first | (rw [zLeast, if_neg (by omega)]; exact ⟨rfl, zOut_r 27 sd⟩) | (rw [zLeast, if_pos (by omega), if_pos (by omega)]; exact ⟨rfl, hO9⟩) | (rw [zLeast, if_pos (by omega), if_neg (by omega)]; exact ⟨zi_eq (zi_sub (zi_n _) (zi_n _)) (zi_n _) (by omega), hO9⟩) | (rw [zLeast, if_pos (by omega), if_neg (by omega), show x.toInt.toNat * hs - (zBh hs np nm wc wp mp 0 0) t.toInt.toNat = 0 by omega]; exact ⟨rfl, hO9⟩))
  · rw [if_neg b_2] at hr_1
    subst hr_1
    refine zz_if_eq (tgt := 22) hx hb dX5_least_8 (by decide) (zi_c 0 rfl) (by omega) (fun c_13 => ?_) (fun c_13 => (by exfalso; omega))
    refine lv_iconst (v := (-1)) hx hb dX5_least_22 (by decide) ?_
    exact hret 23 _ _ _ (-1) (sd, bh) dX5_least_23 rfl hP hD hS (show (-1) = zLeast hs (zBh hs np nm wc wp mp 0 0) x t ∧ zOut 27 sd sd from by first | (rw [zLeast, if_neg (by omega)]; exact ⟨rfl, zOut_r 27 sd⟩) | (rw [zLeast, if_pos (by omega), if_pos (by omega)]; exact ⟨rfl, hO9⟩) | (rw [zLeast, if_pos (by omega), if_neg (by omega)]; exact ⟨zi_eq (zi_sub (zi_n _) (zi_n _)) (zi_n _) (by omega), hO9⟩) | (rw [zLeast, if_pos (by omega), if_neg (by omega), show x.toInt.toNat * hs - (zBh hs np nm wc wp mp 0 0) t.toInt.toNat = 0 by omega]; exact ⟨rfl, hO9⟩))

set_option maxHeartbeats 4000000 in
set_option maxRecDepth 100000 in
theorem c_X5_endOf (l : Launch) (g : zG) (M Mt Mc Mp Mw My Mm Mh Mk Mo Ms Mi Mb Me Md : Nat) (mt : Int64) (ty xa xs xo xv xh dy : Nat) (xf : Int32) (wk : Nat → Nat) (bh : Nat → Nat) (kp : Nat → Nat) (w : Nat) (m : Nat) (hw : w < 6) (hm : m ≤ 240) (hkp : ∀ k, kp k < 1000) (hwk : ∀ j, j < 3 → wk (3 * w + j) = kp (3 * w + j)) (hbh : ∀ k, bh k < 10000000) : zI l yX5_endOf wsX5_endOf 0 0 g [.ref M, .int (nI w), .int (nI m)] [(M, .inr (5, [.long mt, .ref Mt, .int (nI ty), .ref Mc, .ref Mp, .ref Mw, .ref My, .ref Mm, .ref Mh, .ref Mk, .ref Mo, .int (nI xa), .int (nI xs), .int (nI xo), .int (nI xv), .int xf, .int (nI xh), .ref Ms, .ref Mi, .ref Mb, .ref Me, .int (nI dy), .ref Md])), (Mo, .inl (g.2.1.1, 36, .inl (zf wk))), (Mb, .inl (g.2.1.1, 241, .inl (zf bh)))] (fun (r : Int32) (u : Unit) => r = zNo (zEnd kp bh w m)) (fun (u : Unit) => [(M, .inr (5, [.long mt, .ref Mt, .int (nI ty), .ref Mc, .ref Mp, .ref Mw, .ref My, .ref Mm, .ref Mh, .ref Mk, .ref Mo, .int (nI xa), .int (nI xs), .int (nI xo), .int (nI xv), .int xf, .int (nI xh), .ref Ms, .ref Mi, .ref Mb, .ref Me, .int (nI dy), .ref Md])), (Mo, .inl (g.2.1.1, 36, .inl (zf wk))), (Mb, .inl (g.2.1.1, 241, .inl (zf bh)))]) := by
  refine zz_bodyI (cc := cX5_endOf) (nL := 5) (own := RX5) (ty := .int) (by decide) rfl rfl (Nat.le_of_ble_eq_true rfl) ?_
  intro pP eE s mM below meth cC A Q ls F hA hK hE hP hD hl hret
  have hS : va_S A s.heap s.heap [] := va_S.rf
  obtain ⟨hx, hb, hml, hown, hts⟩ := id F
  have hiX5 : ∀ w ∈ u_ws RX5 TX5 23, w ∈ wsX5_endOf := by decide +kernel
  have hf0 := hts (.fieldLink RX5 35 "StepClockModel" "work" "[I") (by decide +kernel)
  have hf1 := hts (.fieldLink RX5 45 "StepClockModel" "behind" "[I") (by decide +kernel)
  have hl : lv_has ls 5 [(0, .ref M), (1, .int (nI w)), (2, .int (nI m))] := hl
  have hk1 := hkp (3 * w + 1)
  have hk0 := hkp (3 * w + 0)
  have htm := hbh m
  have hz0 : kp (3 * w + 0) = kp (3 * w) := rfl
  refine lv_aload_n hx hb dX5_endOf_0 rfl (lv_at hl 0 rfl) ?_
  refine va_get (D := g.1) (ci := 5) (v := .ref Mo) (C := RX5) (T := TX5) (N := 23) hx hb hts hiX5 hown hK.1 hP 0 rfl rfl 10 (by decide) hf0 (fun _ h9 => h9) rfl dX5_endOf_1 ?_
  refine lv_iconst (v := 3) hx hb dX5_endOf_4 (by decide) ?_
  refine lv_iload_n hx hb dX5_endOf_5 rfl (lv_at hl 1 rfl) ?_
  refine lv_imul hx hb dX5_endOf_6 ?_
  refine lv_iconst (v := 1) hx hb dX5_endOf_7 (by decide) ?_
  refine lv_iadd hx hb dX5_endOf_8 ?_
  refine zz_iald hx hb hK.1 hP 1 0 rfl rfl ((3 * w) + 1) (zi_eq (zi_add (zi_mul (zi_c 3 rfl) (zi_n w)) (zi_c 1 rfl)) (zi_n ((3 * w) + 1)) (by omega)) (by omega) (by decide) dX5_endOf_9 ?_
  refine zz_topi (y := nI (kp (3 * w + 1))) (congrArg nI (hwk 1 (by decide))) ?_
  refine lv_istore_n (lv' := [(3, .int (nI (kp (3 * w + 1)))), (0, .ref M), (1, .int (nI w)), (2, .int (nI m))]) hx hb dX5_endOf_10 rfl hl (by decide) rfl (fun ls hl => ?_)
  refine lv_aload_n hx hb dX5_endOf_11 rfl (lv_at hl 1 rfl) ?_
  refine va_get (D := g.1) (ci := 5) (v := .ref Mo) (C := RX5) (T := TX5) (N := 23) hx hb hts hiX5 hown hK.1 hP 0 rfl rfl 10 (by decide) hf0 (fun _ h9 => h9) rfl dX5_endOf_12 ?_
  refine lv_iconst (v := 3) hx hb dX5_endOf_15 (by decide) ?_
  refine lv_iload_n hx hb dX5_endOf_16 rfl (lv_at hl 2 rfl) ?_
  refine lv_imul hx hb dX5_endOf_17 ?_
  refine zz_iald hx hb hK.1 hP 1 0 rfl rfl (3 * w) (zi_eq (zi_mul (zi_c 3 rfl) (zi_n w)) (zi_n (3 * w)) (by omega)) (by omega) (by decide) dX5_endOf_18 ?_
  refine zz_topi (y := nI (kp (3 * w))) (congrArg nI (hwk 0 (by decide))) ?_
  refine lv_iconst (v := 1) hx hb dX5_endOf_19 (by decide) ?_
  refine zz_icmp_ne (tgt := 41) hx hb dX5_endOf_20 (by decide) (zi_n (kp (3 * w))) (zi_c 1 rfl) (by omega) (by omega) (fun c_1 => ?_) (fun c_1 => ?_)
  · refine lv_iload_n hx hb dX5_endOf_41 rfl (lv_at hl 3 rfl) ?_
    refine lv_istore (lv' := [(4, .int (nI m)), (3, .int (nI (kp (3 * w + 1)))), (0, .ref M), (1, .int (nI w)), (2, .int (nI m))]) hx hb dX5_endOf_42 hl (by decide) rfl (fun ls hl => ?_)
    have hcut44 : ∀ (fu : Nat) (i : Nat) (H : Heap) (locs : List Loc) (ls : Array Slot), (m ≤ i ∧ i ≤ 241) → (zFn (fun t => decide (bh t ≥ bh m + kp (3 * w + 1))) (241 - m) m = zFn (fun t => decide (bh t ≥ bh m + kp (3 * w + 1))) (241 - i) i) → (241 - i) < fu → va_P g.1 vwCl [(M, .inr (5, [.long mt, .ref Mt, .int (nI ty), .ref Mc, .ref Mp, .ref Mw, .ref My, .ref Mm, .ref Mh, .ref Mk, .ref Mo, .int (nI xa), .int (nI xs), .int (nI xo), .int (nI xv), .int xf, .int (nI xh), .ref Ms, .ref Mi, .ref Mb, .ref Me, .int (nI dy), .ref Md])), (Mo, .inl (g.2.1.1, 36, .inl (zf wk))), (Mb, .inl (g.2.1.1, 241, .inl (zf bh)))] H → va_D A [(M, .inr (5, [.long mt, .ref Mt, .int (nI ty), .ref Mc, .ref Mp, .ref Mw, .ref My, .ref Mm, .ref Mh, .ref Mk, .ref Mo, .int (nI xa), .int (nI xs), .int (nI xo), .int (nI xv), .int xf, .int (nI xh), .ref Ms, .ref Mi, .ref Mb, .ref Me, .int (nI dy), .ref Md])), (Mo, .inl (g.2.1.1, 36, .inl (zf wk))), (Mb, .inl (g.2.1.1, 241, .inl (zf bh)))] → va_S A s.heap H locs → lv_has ls 5 [(0, .ref M), (1, .int (nI w)), (2, .int (nI m)), (3, .int (nI (kp (3 * w + 1)))), (4, .int (nI i))] → W pP l eE { frames := 0, cells := 0, slots := 0, locals := 0 } s mM ([.ref M, .int (nI w), .int (nI m)] : List Value).toArray below meth cC H locs 0 0 Q (F0 mM 44 ls []) := by
      intro fu
      induction fu with
      | zero =>
        intro i H locs ls hi hR hm
        exact absurd hm (Nat.not_lt_zero _)
      | succ fu ih44 =>
        intro i H locs ls hi hR hm hP hD hS hl
        have hti := hbh i
        refine lv_iload hx hb dX5_endOf_44 (lv_at hl 4 rfl) ?_
        refine lv_sipush (v := 240) hx hb dX5_endOf_46 (by decide) ?_
        refine zz_icmp_gt (tgt := 79) hx hb dX5_endOf_49 (by decide) (zi_n i) (zi_c 240 rfl) (by omega) (by omega) (fun c_2 => ?_) (fun c_2 => ?_)
        · refine lv_bipush (v := (-9)) hx hb dX5_endOf_79 (by decide) ?_
          exact hret 81 _ _ _ (-9) () dX5_endOf_81 rfl hP hD hS (show (-9) = zNo (zEnd kp bh w m) from by first | (rw [zEnd, if_pos (by omega), if_pos (by omega), zNo_lt (by omega)]; exact nI_add _ _) | (rw [zEnd, if_pos (by omega), if_neg (by omega)]; rfl) | (rw [zEnd, if_neg (by omega), hR, show 241 - i = (240 - i) + 1 by omega, zFn_y (decide_eq_true (by omega)), zNo_lt (by omega)]; done) | (rw [zEnd, if_neg (by omega), hR, show 241 - i = 0 by omega]; rfl))
        · refine lv_aload_n hx hb dX5_endOf_52 rfl (lv_at hl 0 rfl) ?_
          refine va_get (D := g.1) (ci := 5) (v := .ref Mb) (C := RX5) (T := TX5) (N := 23) hx hb hts hiX5 hown hK.1 hP 0 rfl rfl 19 (by decide) hf1 (fun _ h9 => h9) rfl dX5_endOf_53 ?_
          refine lv_iload hx hb dX5_endOf_56 (lv_at hl 4 rfl) ?_
          refine zz_iald hx hb hK.1 hP 2 0 rfl rfl i rfl (by omega) (by decide) dX5_endOf_58 ?_
          have hq_3 := hbh i
          refine lv_aload_n hx hb dX5_endOf_59 rfl (lv_at hl 0 rfl) ?_
          refine va_get (D := g.1) (ci := 5) (v := .ref Mb) (C := RX5) (T := TX5) (N := 23) hx hb hts hiX5 hown hK.1 hP 0 rfl rfl 19 (by decide) hf1 (fun _ h9 => h9) rfl dX5_endOf_60 ?_
          refine lv_iload_n hx hb dX5_endOf_63 rfl (lv_at hl 2 rfl) ?_
          refine zz_iald hx hb hK.1 hP 2 0 rfl rfl m rfl (by omega) (by decide) dX5_endOf_64 ?_
          have hq_4 := hbh m
          refine lv_isub hx hb dX5_endOf_65 ?_
          refine lv_iload_n hx hb dX5_endOf_66 rfl (lv_at hl 3 rfl) ?_
          refine zz_icmp_lt (tgt := 73) hx hb dX5_endOf_67 (by decide) (zi_sub (zi_n (bh i)) (zi_n (bh m))) (zi_n (kp (3 * w + 1))) (by omega) (by omega) (fun c_5 => ?_) (fun c_5 => ?_)
          · refine lv_iinc (v := nI (i + 1)) (lv' := [(4, .int (nI (i + 1))), (0, .ref M), (1, .int (nI w)), (2, .int (nI m)), (3, .int (nI (kp (3 * w + 1))))]) hx hb dX5_endOf_73 hl (k := 4) rfl (zi_eq (zi_add (zi_n i) (zi_c 1 rfl)) (zi_n (i + 1)) (by omega)) (by decide) rfl (fun ls hl => ?_)
            refine lv_goto (tgt := 44) hx hb dX5_endOf_76 (by decide) ?_
            exact ih44 (i + 1) _ _ _ (show m ≤ (i + 1) ∧ (i + 1) ≤ 241 from by omega) (show zFn (fun t => decide (bh t ≥ bh m + kp (3 * w + 1))) (241 - m) m = zFn (fun t => decide (bh t ≥ bh m + kp (3 * w + 1))) (241 - (i + 1)) (i + 1) from by (rw [hR, show 241 - i = (240 - i) + 1 by omega, zFn_n (decide_eq_false (by omega)), show 240 - i = 241 - (i + 1) by omega])) (by omega) hP hD hS (lv_sub hl [1, 2, 3, 4, 0] rfl)
          · refine lv_iload hx hb dX5_endOf_70 (lv_at hl 4 rfl) ?_
            exact hret 72 _ _ _ (nI i) () dX5_endOf_72 rfl hP hD hS (show (nI i) = zNo (zEnd kp bh w m) from by first | (rw [zEnd, if_pos (by omega), if_pos (by omega), zNo_lt (by omega)]; exact nI_add _ _) | (rw [zEnd, if_pos (by omega), if_neg (by omega)]; rfl) | (rw [zEnd, if_neg (by omega), hR, show 241 - i = (240 - i) + 1 by omega, zFn_y (decide_eq_true (by omega)), zNo_lt (by omega)]; done) | (rw [zEnd, if_neg (by omega), hR, show 241 - i = 0 by omega]; rfl))
    exact hcut44 ((241 - m) + 1) m _ _ _ (show m ≤ m ∧ m ≤ 241 from by omega) (show zFn (fun t => decide (bh t ≥ bh m + kp (3 * w + 1))) (241 - m) m = zFn (fun t => decide (bh t ≥ bh m + kp (3 * w + 1))) (241 - m) m from by rfl) (by omega) hP hD hS (lv_sub hl [2, 3, 4, 1, 0] rfl)
  · refine lv_iload_n hx hb dX5_endOf_23 rfl (lv_at hl 3 rfl) ?_
    refine lv_iload_n hx hb dX5_endOf_24 rfl (lv_at hl 0 rfl) ?_
    refine lv_iadd hx hb dX5_endOf_25 ?_
    refine lv_sipush (v := 240) hx hb dX5_endOf_26 (by decide) ?_
    refine zz_icmp_gt (tgt := 38) hx hb dX5_endOf_29 (by decide) (zi_add (zi_n m) (zi_n (kp (3 * w + 1)))) (zi_c 240 rfl) (by omega) (by omega) (fun c_6 => ?_) (fun c_6 => ?_)
    · refine lv_bipush (v := (-9)) hx hb dX5_endOf_38 (by decide) ?_
      exact hret 40 _ _ _ (-9) () dX5_endOf_40 rfl hP hD hS (show (-9) = zNo (zEnd kp bh w m) from by first | (rw [zEnd, if_pos (by omega), if_pos (by omega), zNo_lt (by omega)]; exact nI_add _ _) | (rw [zEnd, if_pos (by omega), if_neg (by omega)]; rfl) | (rw [zEnd, if_neg (by omega), hR, show 241 - i = (240 - i) + 1 by omega, zFn_y (decide_eq_true (by omega)), zNo_lt (by omega)]; done) | (rw [zEnd, if_neg (by omega), hR, show 241 - i = 0 by omega]; rfl))
    · refine lv_iload_n hx hb dX5_endOf_32 rfl (lv_at hl 3 rfl) ?_
      refine lv_iload_n hx hb dX5_endOf_33 rfl (lv_at hl 0 rfl) ?_
      refine lv_iadd hx hb dX5_endOf_34 ?_
      refine lv_goto (tgt := 40) hx hb dX5_endOf_35 (by decide) ?_
      exact hret 40 _ _ _ ((nI m) + (nI (kp (3 * w + 1)))) () dX5_endOf_40 rfl hP hD hS (show ((nI m) + (nI (kp (3 * w + 1)))) = zNo (zEnd kp bh w m) from by first | (rw [zEnd, if_pos (by omega), if_pos (by omega), zNo_lt (by omega)]; exact nI_add _ _) | (rw [zEnd, if_pos (by omega), if_neg (by omega)]; rfl) | (rw [zEnd, if_neg (by omega), hR, show 241 - i = (240 - i) + 1 by omega, zFn_y (decide_eq_true (by omega)), zNo_lt (by omega)]; done) | (rw [zEnd, if_neg (by omega), hR, show 241 - i = 0 by omega]; rfl))

set_option maxHeartbeats 4000000 in
set_option maxRecDepth 100000 in
theorem c_X5_ends (l : Launch) (g : zG) (M Mt Mc Mp Mw My Mm Mh Mk Mo Ms Mi Mb Me Md : Nat) (mt : Int64) (ty xa xs xo xv xh dy : Nat) (xf : Int32) (ck : Nat → Nat) (pe : Nat → Nat) (wy : Nat → Nat) (wa : Nat → Nat) (mr : Nat → Nat) (mh : Nat → Nat) (sd : Nat → Nat) (bh : Nat → Nat) (wo : Nat → Nat) (wk : Nat → Nat) (nw : Nat) (kp : Nat → Nat) (hs : Nat) (np : Nat) (nm : Nat) (wc wp mp : Nat → Nat) (x y : Int32) (hPB : zPB hs np nm wc wp mp) (hMB : zMB hs np nm wc wp mp ck pe wy wa mr mh) (hnw : nw ≤ 6) (hkp : ∀ k, kp k < 1000) (hMW : zMW nw kp wo wk) : zI l yX5_ends wsX5_ends 4 96 g [.ref M, .int x, .int y] [(M, .inr (5, [.long mt, .ref Mt, .int (nI ty), .ref Mc, .ref Mp, .ref Mw, .ref My, .ref Mm, .ref Mh, .ref Mk, .ref Mo, .int (nI xa), .int (nI xs), .int (nI xo), .int (nI xv), .int xf, .int (nI xh), .ref Ms, .ref Mi, .ref Mb, .ref Me, .int (nI dy), .ref Md])), (Mc, .inl (g.2.1.1, 2, .inl (zf ck))), (Mp, .inl (g.2.1.1, 2, .inl (zf pe))), (Mw, .inl (g.2.1.1, 12, .inl (zf wy))), (My, .inl (g.2.1.1, 192, .inl (zf wa))), (Mm, .inl (g.2.1.1, 2, .inl (zf mr))), (Mh, .inl (g.2.1.1, 24, .inl (zf mh))), (Ms, .inl (g.2.1.1, 108, .inl (zf sd))), (Mb, .inl (g.2.1.1, 241, .inl (zf bh))), (Mk, .inl (g.2.1.1, 2, .inl (zf wo))), (Mo, .inl (g.2.1.1, 36, .inl (zf wk)))] (fun (r : Int32) (u : (Nat → Nat) × (Nat → Nat)) => r = zEnds nw kp (zBh hs np nm wc wp mp 0 0) x y ∧ zOut 27 sd u.1) (fun (u : (Nat → Nat) × (Nat → Nat)) => [(M, .inr (5, [.long mt, .ref Mt, .int (nI ty), .ref Mc, .ref Mp, .ref Mw, .ref My, .ref Mm, .ref Mh, .ref Mk, .ref Mo, .int (nI xa), .int (nI xs), .int (nI xo), .int (nI xv), .int xf, .int (nI xh), .ref Ms, .ref Mi, .ref Mb, .ref Me, .int (nI dy), .ref Md])), (Mc, .inl (g.2.1.1, 2, .inl (zf ck))), (Mp, .inl (g.2.1.1, 2, .inl (zf pe))), (Mw, .inl (g.2.1.1, 12, .inl (zf wy))), (My, .inl (g.2.1.1, 192, .inl (zf wa))), (Mm, .inl (g.2.1.1, 2, .inl (zf mr))), (Mh, .inl (g.2.1.1, 24, .inl (zf mh))), (Ms, .inl (g.2.1.1, 108, .inl (zf u.1))), (Mb, .inl (g.2.1.1, 241, .inl (zf u.2))), (Mk, .inl (g.2.1.1, 2, .inl (zf wo))), (Mo, .inl (g.2.1.1, 36, .inl (zf wk)))]) := by
  refine zz_bodyI (cc := cX5_ends) (nL := 3) (own := RX5) (ty := .int) (by decide) rfl rfl (Nat.le_of_ble_eq_true rfl) ?_
  intro pP eE s mM below meth cC A Q ls F hA hK hE hP hD hl hret
  have hS : va_S A s.heap s.heap [] := va_S.rf
  obtain ⟨hx, hb, hml, hown, hts⟩ := id F
  have hiX5 : ∀ w ∈ u_ws RX5 TX5 23, w ∈ wsX5_ends := by decide +kernel
  have hf0 := hts (.fieldLink RX5 32 "StepClockModel" "works" "[I") (by decide +kernel)
  have hl : lv_has ls 3 [(0, .ref M), (1, .int x), (2, .int y)] := hl
  obtain ⟨hhs, hnp, hnm, hwc, hwp, hmp, hwk⟩ := id hPB
  obtain ⟨hck0, hpe0, hmr0, hwy, hwa, hmh⟩ := id hMB
  obtain ⟨hwo0, hwkk⟩ := id hMW
  have hlox := zi_lo x
  have hhix := zi_hi x
  have hloy := zi_lo y
  have hhiy := zi_hi y
  refine lv_iload_n hx hb dX5_ends_0 rfl (lv_at hl 1 rfl) ?_
  refine lv_iconst (v := 0) hx hb dX5_ends_1 (by decide) ?_
  refine lv_aload_n hx hb dX5_ends_2 rfl (lv_at hl 0 rfl) ?_
  refine va_get (D := g.1) (ci := 5) (v := .ref Mk) (C := RX5) (T := TX5) (N := 23) hx hb hts hiX5 hown hK.1 hP 0 rfl rfl 9 (by decide) hf0 (fun _ h9 => h9) rfl dX5_ends_3 ?_
  refine lv_iconst (v := 0) hx hb dX5_ends_6 (by decide) ?_
  refine zz_iald hx hb hK.1 hP 9 0 rfl rfl 0 (zi_eq (zi_c 0 rfl) (zi_n 0) (by omega)) (by omega) (by decide) dX5_ends_7 ?_
  refine lv_iconst (v := 1) hx hb dX5_ends_8 (by decide) ?_
  refine lv_isub hx hb dX5_ends_9 ?_
  refine zz_callSI (wr := [(M, .inr (5, [.long mt, .ref Mt, .int (nI ty), .ref Mc, .ref Mp, .ref Mw, .ref My, .ref Mm, .ref Mh, .ref Mk, .ref Mo, .int (nI xa), .int (nI xs), .int (nI xo), .int (nI xv), .int xf, .int (nI xh), .ref Ms, .ref Mi, .ref Mb, .ref Me, .int (nI dy), .ref Md])), (Mc, .inl (g.2.1.1, 2, .inl (zf ck))), (Mp, .inl (g.2.1.1, 2, .inl (zf pe))), (Mw, .inl (g.2.1.1, 12, .inl (zf wy))), (My, .inl (g.2.1.1, 192, .inl (zf wa))), (Mm, .inl (g.2.1.1, 2, .inl (zf mr))), (Mh, .inl (g.2.1.1, 24, .inl (zf mh))), (Ms, .inl (g.2.1.1, 108, .inl (zf sd))), (Mb, .inl (g.2.1.1, 241, .inl (zf bh))), (Mk, .inl (g.2.1.1, 2, .inl (zf wo))), (Mo, .inl (g.2.1.1, 36, .inl (zf wk)))]) (wc := []) (As := [.int x, .int (nI 0), .int ((nI (wo 0)) - 1)]) (rest := []) F hK hE hA hP hD hS (c_X5_in_p l g (x := x) (n := (wo 0)) (hab := by first | assumption | omega)) (va_cwS 3 hts gX5_ends_X5_in rfl rfl rfl (by decide +kernel) ⟨Nat.le_of_ble_eq_true rfl, Nat.le_of_ble_eq_true rfl⟩) [] [0, 1, 2, 3, 4, 5, 6, 7, 8, 9, 10] rfl rfl (by decide) (by decide) (by decide) rfl rfl hl.1 (Nat.le_of_ble_eq_true rfl) dX5_ends_10 ⟨Nat.le_of_ble_eq_true rfl, Nat.le_of_ble_eq_true rfl⟩ (fun r_1 u_1 H locs hw hP hD hS => ?_)
  have hP : va_P g.1 vwCl [(M, .inr (5, [.long mt, .ref Mt, .int (nI ty), .ref Mc, .ref Mp, .ref Mw, .ref My, .ref Mm, .ref Mh, .ref Mk, .ref Mo, .int (nI xa), .int (nI xs), .int (nI xo), .int (nI xv), .int xf, .int (nI xh), .ref Ms, .ref Mi, .ref Mb, .ref Me, .int (nI dy), .ref Md])), (Mc, .inl (g.2.1.1, 2, .inl (zf ck))), (Mp, .inl (g.2.1.1, 2, .inl (zf pe))), (Mw, .inl (g.2.1.1, 12, .inl (zf wy))), (My, .inl (g.2.1.1, 192, .inl (zf wa))), (Mm, .inl (g.2.1.1, 2, .inl (zf mr))), (Mh, .inl (g.2.1.1, 24, .inl (zf mh))), (Ms, .inl (g.2.1.1, 108, .inl (zf sd))), (Mb, .inl (g.2.1.1, 241, .inl (zf bh))), (Mk, .inl (g.2.1.1, 2, .inl (zf wo))), (Mo, .inl (g.2.1.1, 36, .inl (zf wk)))] _ := hP
  have hD : va_D A [(M, .inr (5, [.long mt, .ref Mt, .int (nI ty), .ref Mc, .ref Mp, .ref Mw, .ref My, .ref Mm, .ref Mh, .ref Mk, .ref Mo, .int (nI xa), .int (nI xs), .int (nI xo), .int (nI xv), .int xf, .int (nI xh), .ref Ms, .ref Mi, .ref Mb, .ref Me, .int (nI dy), .ref Md])), (Mc, .inl (g.2.1.1, 2, .inl (zf ck))), (Mp, .inl (g.2.1.1, 2, .inl (zf pe))), (Mw, .inl (g.2.1.1, 12, .inl (zf wy))), (My, .inl (g.2.1.1, 192, .inl (zf wa))), (Mm, .inl (g.2.1.1, 2, .inl (zf mr))), (Mh, .inl (g.2.1.1, 24, .inl (zf mh))), (Ms, .inl (g.2.1.1, 108, .inl (zf sd))), (Mb, .inl (g.2.1.1, 241, .inl (zf bh))), (Mk, .inl (g.2.1.1, 2, .inl (zf wo))), (Mo, .inl (g.2.1.1, 36, .inl (zf wk)))] := hD
  have hr_1 := hw
  have hr_1 : r_1 = if 0 ≤ x.toInt ∧ x.toInt < ((wo 0) : Int) then 1 else 0 := hr_1
  by_cases b_2 : 0 ≤ x.toInt ∧ x.toInt < ((wo 0) : Int)
  · rw [if_pos b_2] at hr_1
    subst hr_1
    refine zz_if_eq (tgt := 27) hx hb dX5_ends_13 (by decide) (zi_c 1 rfl) (by omega) (fun c_3 => (by exfalso; omega)) (fun c_3 => ?_)
    refine lv_iload_n hx hb dX5_ends_16 rfl (lv_at hl 2 rfl) ?_
    refine lv_iconst (v := 0) hx hb dX5_ends_17 (by decide) ?_
    refine lv_sipush (v := 240) hx hb dX5_ends_18 (by decide) ?_
    refine zz_callSI (wr := [(M, .inr (5, [.long mt, .ref Mt, .int (nI ty), .ref Mc, .ref Mp, .ref Mw, .ref My, .ref Mm, .ref Mh, .ref Mk, .ref Mo, .int (nI xa), .int (nI xs), .int (nI xo), .int (nI xv), .int xf, .int (nI xh), .ref Ms, .ref Mi, .ref Mb, .ref Me, .int (nI dy), .ref Md])), (Mc, .inl (g.2.1.1, 2, .inl (zf ck))), (Mp, .inl (g.2.1.1, 2, .inl (zf pe))), (Mw, .inl (g.2.1.1, 12, .inl (zf wy))), (My, .inl (g.2.1.1, 192, .inl (zf wa))), (Mm, .inl (g.2.1.1, 2, .inl (zf mr))), (Mh, .inl (g.2.1.1, 24, .inl (zf mh))), (Ms, .inl (g.2.1.1, 108, .inl (zf sd))), (Mb, .inl (g.2.1.1, 241, .inl (zf bh))), (Mk, .inl (g.2.1.1, 2, .inl (zf wo))), (Mo, .inl (g.2.1.1, 36, .inl (zf wk)))]) (wc := []) (As := [.int y, .int (nI 0), .int (nI 240)]) (rest := []) F hK hE hA hP hD hS (c_X5_in l g (x := y) (a := 0) (b := 240) (hab := by first | assumption | omega)) (va_cwS 3 hts gX5_ends_X5_in rfl rfl rfl (by decide +kernel) ⟨Nat.le_of_ble_eq_true rfl, Nat.le_of_ble_eq_true rfl⟩) [] [0, 1, 2, 3, 4, 5, 6, 7, 8, 9, 10] rfl rfl (by decide) (by decide) (by decide) rfl rfl hl.1 (Nat.le_of_ble_eq_true rfl) dX5_ends_21 ⟨Nat.le_of_ble_eq_true rfl, Nat.le_of_ble_eq_true rfl⟩ (fun r_4 u_4 H locs hw hP hD hS => ?_)
    have hP : va_P g.1 vwCl [(M, .inr (5, [.long mt, .ref Mt, .int (nI ty), .ref Mc, .ref Mp, .ref Mw, .ref My, .ref Mm, .ref Mh, .ref Mk, .ref Mo, .int (nI xa), .int (nI xs), .int (nI xo), .int (nI xv), .int xf, .int (nI xh), .ref Ms, .ref Mi, .ref Mb, .ref Me, .int (nI dy), .ref Md])), (Mc, .inl (g.2.1.1, 2, .inl (zf ck))), (Mp, .inl (g.2.1.1, 2, .inl (zf pe))), (Mw, .inl (g.2.1.1, 12, .inl (zf wy))), (My, .inl (g.2.1.1, 192, .inl (zf wa))), (Mm, .inl (g.2.1.1, 2, .inl (zf mr))), (Mh, .inl (g.2.1.1, 24, .inl (zf mh))), (Ms, .inl (g.2.1.1, 108, .inl (zf sd))), (Mb, .inl (g.2.1.1, 241, .inl (zf bh))), (Mk, .inl (g.2.1.1, 2, .inl (zf wo))), (Mo, .inl (g.2.1.1, 36, .inl (zf wk)))] _ := hP
    have hD : va_D A [(M, .inr (5, [.long mt, .ref Mt, .int (nI ty), .ref Mc, .ref Mp, .ref Mw, .ref My, .ref Mm, .ref Mh, .ref Mk, .ref Mo, .int (nI xa), .int (nI xs), .int (nI xo), .int (nI xv), .int xf, .int (nI xh), .ref Ms, .ref Mi, .ref Mb, .ref Me, .int (nI dy), .ref Md])), (Mc, .inl (g.2.1.1, 2, .inl (zf ck))), (Mp, .inl (g.2.1.1, 2, .inl (zf pe))), (Mw, .inl (g.2.1.1, 12, .inl (zf wy))), (My, .inl (g.2.1.1, 192, .inl (zf wa))), (Mm, .inl (g.2.1.1, 2, .inl (zf mr))), (Mh, .inl (g.2.1.1, 24, .inl (zf mh))), (Ms, .inl (g.2.1.1, 108, .inl (zf sd))), (Mb, .inl (g.2.1.1, 241, .inl (zf bh))), (Mk, .inl (g.2.1.1, 2, .inl (zf wo))), (Mo, .inl (g.2.1.1, 36, .inl (zf wk)))] := hD
    have hr_4 := hw
    have hr_4 : r_4 = if (0 : Int) ≤ y.toInt ∧ y.toInt ≤ (240 : Int) then 1 else 0 := hr_4
    by_cases b_5 : (0 : Int) ≤ y.toInt ∧ y.toInt ≤ (240 : Int)
    · rw [if_pos b_5] at hr_4
      subst hr_4
      refine zz_if_ne (tgt := 29) hx hb dX5_ends_24 (by decide) (zi_c 1 rfl) (by omega) (fun c_6 => ?_) (fun c_6 => (by exfalso; omega))
      refine lv_aload_n hx hb dX5_ends_29 rfl (lv_at hl 0 rfl) ?_
      refine lv_iconst (v := 0) hx hb dX5_ends_30 (by decide) ?_
      refine lv_iconst (v := 0) hx hb dX5_ends_31 (by decide) ?_
      refine zz_callV (wr := [(Mk, .inl (g.2.1.1, 2, .inl (zf wo))), (Mo, .inl (g.2.1.1, 36, .inl (zf wk)))]) (wc := [(M, .inr (5, [.long mt, .ref Mt, .int (nI ty), .ref Mc, .ref Mp, .ref Mw, .ref My, .ref Mm, .ref Mh, .ref Mk, .ref Mo, .int (nI xa), .int (nI xs), .int (nI xo), .int (nI xv), .int xf, .int (nI xh), .ref Ms, .ref Mi, .ref Mb, .ref Me, .int (nI dy), .ref Md])), (Mc, .inl (g.2.1.1, 2, .inl (zf ck))), (Mp, .inl (g.2.1.1, 2, .inl (zf pe))), (Mw, .inl (g.2.1.1, 12, .inl (zf wy))), (My, .inl (g.2.1.1, 192, .inl (zf wa))), (Mm, .inl (g.2.1.1, 2, .inl (zf mr))), (Mh, .inl (g.2.1.1, 24, .inl (zf mh))), (Ms, .inl (g.2.1.1, 108, .inl (zf sd))), (Mb, .inl (g.2.1.1, 241, .inl (zf bh)))]) (As := [.int (nI 0), .int (nI 0)]) (rest := []) F hK hE hA hP hD hS (c_X5_goAll l g (M := M) (Mt := Mt) (Mc := Mc) (Mp := Mp) (Mw := Mw) (My := My) (Mm := Mm) (Mh := Mh) (Mk := Mk) (Mo := Mo) (Ms := Ms) (Mi := Mi) (Mb := Mb) (Me := Me) (Md := Md) (mt := mt) (ty := ty) (xa := xa) (xs := xs) (xo := xo) (xv := xv) (xh := xh) (dy := dy) (xf := xf) (ck := ck) (pe := pe) (wy := wy) (wa := wa) (mr := mr) (mh := mh) (sd := sd) (bh := bh) (s1 := 0) (f := 0) (hs := hs) (np := np) (nm := nm) (wc := wc) (wp := wp) (mp := mp) (hPB := by first | assumption | omega) (hMB := by first | assumption | omega) (hs1 := by first | assumption | omega) (hf := by first | assumption | omega)) (cwV 2 hts gX5_ends_X5_goAll rfl rfl rfl (by decide +kernel) ⟨Nat.le_of_ble_eq_true rfl, Nat.le_of_ble_eq_true rfl⟩) [0, 1, 2, 3, 4, 5, 6, 7, 8] [9, 10] rfl rfl (by decide) (by decide) (by decide) 5 0 rfl rfl rfl rfl rfl hl.1 (Nat.le_of_ble_eq_true rfl) dX5_ends_32 ⟨Nat.le_of_ble_eq_true rfl, Nat.le_of_ble_eq_true rfl⟩ (fun sd9_7 H locs hw hP hD hS => ?_)
      have hP : va_P g.1 vwCl [(Mk, .inl (g.2.1.1, 2, .inl (zf wo))), (Mo, .inl (g.2.1.1, 36, .inl (zf wk))), (M, .inr (5, [.long mt, .ref Mt, .int (nI ty), .ref Mc, .ref Mp, .ref Mw, .ref My, .ref Mm, .ref Mh, .ref Mk, .ref Mo, .int (nI xa), .int (nI xs), .int (nI xo), .int (nI xv), .int xf, .int (nI xh), .ref Ms, .ref Mi, .ref Mb, .ref Me, .int (nI dy), .ref Md])), (Mc, .inl (g.2.1.1, 2, .inl (zf ck))), (Mp, .inl (g.2.1.1, 2, .inl (zf pe))), (Mw, .inl (g.2.1.1, 12, .inl (zf wy))), (My, .inl (g.2.1.1, 192, .inl (zf wa))), (Mm, .inl (g.2.1.1, 2, .inl (zf mr))), (Mh, .inl (g.2.1.1, 24, .inl (zf mh))), (Ms, .inl (g.2.1.1, 108, .inl (zf sd9_7))), (Mb, .inl (g.2.1.1, 241, .inl (zf (zBh hs np nm wc wp mp 0 0))))] _ := hP
      have hD : va_D A [(Mk, .inl (g.2.1.1, 2, .inl (zf wo))), (Mo, .inl (g.2.1.1, 36, .inl (zf wk))), (M, .inr (5, [.long mt, .ref Mt, .int (nI ty), .ref Mc, .ref Mp, .ref Mw, .ref My, .ref Mm, .ref Mh, .ref Mk, .ref Mo, .int (nI xa), .int (nI xs), .int (nI xo), .int (nI xv), .int xf, .int (nI xh), .ref Ms, .ref Mi, .ref Mb, .ref Me, .int (nI dy), .ref Md])), (Mc, .inl (g.2.1.1, 2, .inl (zf ck))), (Mp, .inl (g.2.1.1, 2, .inl (zf pe))), (Mw, .inl (g.2.1.1, 12, .inl (zf wy))), (My, .inl (g.2.1.1, 192, .inl (zf wa))), (Mm, .inl (g.2.1.1, 2, .inl (zf mr))), (Mh, .inl (g.2.1.1, 24, .inl (zf mh))), (Ms, .inl (g.2.1.1, 108, .inl (zf sd9_7))), (Mb, .inl (g.2.1.1, 241, .inl (zf (zBh hs np nm wc wp mp 0 0))))] := hD
      have hw_7 : zRel 27 sd9_7 240 (zTr hs np nm wc wp mp 0 0 240).1 0 (zTr hs np nm wc wp mp 0 0 240).2.1 (zTr hs np nm wc wp mp 0 0 240).2.2.1 (zTr hs np nm wc wp mp 0 0 240).2.2.2 ∧ zOut 27 sd sd9_7 := hw
      have hR9 := hw_7.1
      have hO9 := hw_7.2
      have hbl := zBh_lt (si := 0) (f := 0) hPB (by omega)
      refine lv_aload_n hx hb dX5_ends_35 rfl (lv_at hl 0 rfl) ?_
      refine lv_iload_n hx hb dX5_ends_36 rfl (lv_at hl 1 rfl) ?_
      refine lv_iload_n hx hb dX5_ends_37 rfl (lv_at hl 2 rfl) ?_
      refine zz_st (st2 := [.int (nI ((y.toInt).toNat)), .int (nI ((x.toInt).toNat)), .ref M]) (Eq.trans (congrArg (fun z : Int32 => ([.int z, .int x, .ref M] : List Value)) (show y = nI ((y.toInt).toNat) from (zi_eq (zi_self y) (zi_n ((y.toInt).toNat)) (by omega)))) (congrArg (fun z : Int32 => ([.int (nI ((y.toInt).toNat)), .int z, .ref M] : List Value)) (show x = nI ((x.toInt).toNat) from (zi_eq (zi_self x) (zi_n ((x.toInt).toNat)) (by omega))))) ?_
      refine zz_callI (wr := [(Mk, .inl (g.2.1.1, 2, .inl (zf wo))), (Mc, .inl (g.2.1.1, 2, .inl (zf ck))), (Mp, .inl (g.2.1.1, 2, .inl (zf pe))), (Mw, .inl (g.2.1.1, 12, .inl (zf wy))), (My, .inl (g.2.1.1, 192, .inl (zf wa))), (Mm, .inl (g.2.1.1, 2, .inl (zf mr))), (Mh, .inl (g.2.1.1, 24, .inl (zf mh))), (Ms, .inl (g.2.1.1, 108, .inl (zf sd9_7)))]) (wc := [(M, .inr (5, [.long mt, .ref Mt, .int (nI ty), .ref Mc, .ref Mp, .ref Mw, .ref My, .ref Mm, .ref Mh, .ref Mk, .ref Mo, .int (nI xa), .int (nI xs), .int (nI xo), .int (nI xv), .int xf, .int (nI xh), .ref Ms, .ref Mi, .ref Mb, .ref Me, .int (nI dy), .ref Md])), (Mo, .inl (g.2.1.1, 36, .inl (zf wk))), (Mb, .inl (g.2.1.1, 241, .inl (zf (zBh hs np nm wc wp mp 0 0))))]) (As := [.int (nI ((x.toInt).toNat)), .int (nI ((y.toInt).toNat))]) (rest := []) F hK hE hA hP hD hS (c_X5_endOf l g (M := M) (Mt := Mt) (Mc := Mc) (Mp := Mp) (Mw := Mw) (My := My) (Mm := Mm) (Mh := Mh) (Mk := Mk) (Mo := Mo) (Ms := Ms) (Mi := Mi) (Mb := Mb) (Me := Me) (Md := Md) (mt := mt) (ty := ty) (xa := xa) (xs := xs) (xo := xo) (xv := xv) (xh := xh) (dy := dy) (xf := xf) (wk := wk) (bh := (zBh hs np nm wc wp mp 0 0)) (kp := kp) (w := (x.toInt).toNat) (m := (y.toInt).toNat) (hw := by omega) (hm := by omega) (hkp := by exact hkp) (hwk := by exact hwkk _ (by omega)) (hbh := by exact hbl)) (cwV 2 hts gX5_ends_X5_endOf rfl rfl rfl (by decide +kernel) ⟨Nat.le_of_ble_eq_true rfl, Nat.le_of_ble_eq_true rfl⟩) [2, 1, 10] [0, 3, 4, 5, 6, 7, 8, 9] rfl rfl (by decide) (by decide) (by decide) 5 0 rfl rfl rfl rfl rfl hl.1 (Nat.le_of_ble_eq_true rfl) dX5_ends_38 ⟨Nat.le_of_ble_eq_true rfl, Nat.le_of_ble_eq_true rfl⟩ (fun r_8 u_8 H locs hw hP hD hS => ?_)
      have hP : va_P g.1 vwCl [(Mk, .inl (g.2.1.1, 2, .inl (zf wo))), (Mc, .inl (g.2.1.1, 2, .inl (zf ck))), (Mp, .inl (g.2.1.1, 2, .inl (zf pe))), (Mw, .inl (g.2.1.1, 12, .inl (zf wy))), (My, .inl (g.2.1.1, 192, .inl (zf wa))), (Mm, .inl (g.2.1.1, 2, .inl (zf mr))), (Mh, .inl (g.2.1.1, 24, .inl (zf mh))), (Ms, .inl (g.2.1.1, 108, .inl (zf sd9_7))), (M, .inr (5, [.long mt, .ref Mt, .int (nI ty), .ref Mc, .ref Mp, .ref Mw, .ref My, .ref Mm, .ref Mh, .ref Mk, .ref Mo, .int (nI xa), .int (nI xs), .int (nI xo), .int (nI xv), .int xf, .int (nI xh), .ref Ms, .ref Mi, .ref Mb, .ref Me, .int (nI dy), .ref Md])), (Mo, .inl (g.2.1.1, 36, .inl (zf wk))), (Mb, .inl (g.2.1.1, 241, .inl (zf (zBh hs np nm wc wp mp 0 0))))] _ := hP
      have hD : va_D A [(Mk, .inl (g.2.1.1, 2, .inl (zf wo))), (Mc, .inl (g.2.1.1, 2, .inl (zf ck))), (Mp, .inl (g.2.1.1, 2, .inl (zf pe))), (Mw, .inl (g.2.1.1, 12, .inl (zf wy))), (My, .inl (g.2.1.1, 192, .inl (zf wa))), (Mm, .inl (g.2.1.1, 2, .inl (zf mr))), (Mh, .inl (g.2.1.1, 24, .inl (zf mh))), (Ms, .inl (g.2.1.1, 108, .inl (zf sd9_7))), (M, .inr (5, [.long mt, .ref Mt, .int (nI ty), .ref Mc, .ref Mp, .ref Mw, .ref My, .ref Mm, .ref Mh, .ref Mk, .ref Mo, .int (nI xa), .int (nI xs), .int (nI xo), .int (nI xv), .int xf, .int (nI xh), .ref Ms, .ref Mi, .ref Mb, .ref Me, .int (nI dy), .ref Md])), (Mo, .inl (g.2.1.1, 36, .inl (zf wk))), (Mb, .inl (g.2.1.1, 241, .inl (zf (zBh hs np nm wc wp mp 0 0))))] := hD
      have hr_8 := hw
      have hr_8 : r_8 = zNo (zEnd kp (zBh hs np nm wc wp mp 0 0) ((x.toInt).toNat) ((y.toInt).toNat)) := hr_8
      subst hr_8
      have hz_8 := zOi_s (zEnd kp (zBh hs np nm wc wp mp 0 0) ((x.toInt).toNat) ((y.toInt).toNat))
      have hP := hP.sub (ws' := [(M, .inr (5, [.long mt, .ref Mt, .int (nI ty), .ref Mc, .ref Mp, .ref Mw, .ref My, .ref Mm, .ref Mh, .ref Mk, .ref Mo, .int (nI xa), .int (nI xs), .int (nI xo), .int (nI xv), .int xf, .int (nI xh), .ref Ms, .ref Mi, .ref Mb, .ref Me, .int (nI dy), .ref Md])), (Mc, .inl (g.2.1.1, 2, .inl (zf ck))), (Mp, .inl (g.2.1.1, 2, .inl (zf pe))), (Mw, .inl (g.2.1.1, 12, .inl (zf wy))), (My, .inl (g.2.1.1, 192, .inl (zf wa))), (Mm, .inl (g.2.1.1, 2, .inl (zf mr))), (Mh, .inl (g.2.1.1, 24, .inl (zf mh))), (Ms, .inl (g.2.1.1, 108, .inl (zf sd9_7))), (Mb, .inl (g.2.1.1, 241, .inl (zf (zBh hs np nm wc wp mp 0 0)))), (Mk, .inl (g.2.1.1, 2, .inl (zf wo))), (Mo, .inl (g.2.1.1, 36, .inl (zf wk)))]) [8, 1, 2, 3, 4, 5, 6, 7, 10, 0, 9] rfl
      have hD := hD.sub (ws' := [(M, .inr (5, [.long mt, .ref Mt, .int (nI ty), .ref Mc, .ref Mp, .ref Mw, .ref My, .ref Mm, .ref Mh, .ref Mk, .ref Mo, .int (nI xa), .int (nI xs), .int (nI xo), .int (nI xv), .int xf, .int (nI xh), .ref Ms, .ref Mi, .ref Mb, .ref Me, .int (nI dy), .ref Md])), (Mc, .inl (g.2.1.1, 2, .inl (zf ck))), (Mp, .inl (g.2.1.1, 2, .inl (zf pe))), (Mw, .inl (g.2.1.1, 12, .inl (zf wy))), (My, .inl (g.2.1.1, 192, .inl (zf wa))), (Mm, .inl (g.2.1.1, 2, .inl (zf mr))), (Mh, .inl (g.2.1.1, 24, .inl (zf mh))), (Ms, .inl (g.2.1.1, 108, .inl (zf sd9_7))), (Mb, .inl (g.2.1.1, 241, .inl (zf (zBh hs np nm wc wp mp 0 0)))), (Mk, .inl (g.2.1.1, 2, .inl (zf wo))), (Mo, .inl (g.2.1.1, 36, .inl (zf wk)))]) [8, 1, 2, 3, 4, 5, 6, 7, 10, 0, 9] (by decide) rfl
      exact hret 41 _ _ _ (zNo (zEnd kp (zBh hs np nm wc wp mp 0 0) ((x.toInt).toNat) ((y.toInt).toNat))) (sd9_7, (zBh hs np nm wc wp mp 0 0)) dX5_ends_41 rfl hP hD hS (show (zNo (zEnd kp (zBh hs np nm wc wp mp 0 0) ((x.toInt).toNat) ((y.toInt).toNat))) = zEnds nw kp (zBh hs np nm wc wp mp 0 0) x y ∧ zOut 27 sd sd9_7 from by first | (rw [zEnds, if_neg (by omega)]; exact ⟨rfl, zOut_r 27 sd⟩) | (rw [zEnds, if_pos (by omega)]; exact ⟨rfl, hO9⟩))
    · rw [if_neg b_5] at hr_4
      subst hr_4
      refine zz_if_ne (tgt := 29) hx hb dX5_ends_24 (by decide) (zi_c 0 rfl) (by omega) (fun c_9 => (by exfalso; omega)) (fun c_9 => ?_)
      refine lv_iconst (v := (-1)) hx hb dX5_ends_27 (by decide) ?_
      exact hret 28 _ _ _ (-1) (sd, bh) dX5_ends_28 rfl hP hD hS (show (-1) = zEnds nw kp (zBh hs np nm wc wp mp 0 0) x y ∧ zOut 27 sd sd from by first | (rw [zEnds, if_neg (by omega)]; exact ⟨rfl, zOut_r 27 sd⟩) | (rw [zEnds, if_pos (by omega)]; exact ⟨rfl, hO9⟩))
  · rw [if_neg b_2] at hr_1
    subst hr_1
    refine zz_if_eq (tgt := 27) hx hb dX5_ends_13 (by decide) (zi_c 0 rfl) (by omega) (fun c_10 => ?_) (fun c_10 => (by exfalso; omega))
    refine lv_iconst (v := (-1)) hx hb dX5_ends_27 (by decide) ?_
    exact hret 28 _ _ _ (-1) (sd, bh) dX5_ends_28 rfl hP hD hS (show (-1) = zEnds nw kp (zBh hs np nm wc wp mp 0 0) x y ∧ zOut 27 sd sd from by first | (rw [zEnds, if_neg (by omega)]; exact ⟨rfl, zOut_r 27 sd⟩) | (rw [zEnds, if_pos (by omega)]; exact ⟨rfl, hO9⟩))

set_option maxHeartbeats 4000000 in
set_option maxRecDepth 100000 in
theorem c_X5_even (l : Launch) (g : zG) (M Mt Mc Mp Mw My Mm Mh Mk Mo Ms Mi Mb Me Md : Nat) (mt : Int64) (ty xa xs xo xv xh dy : Nat) (xf : Int32) (ck : Nat → Nat) (pe : Nat → Nat) (wy : Nat → Nat) (wa : Nat → Nat) (mr : Nat → Nat) (mh : Nat → Nat) (sd : Nat → Nat) (bh : Nat → Nat) (hs : Nat) (np : Nat) (nm : Nat) (wc wp mp : Nat → Nat) (t w : Int32) (hPB : zPB hs np nm wc wp mp) (hMB : zMB hs np nm wc wp mp ck pe wy wa mr mh) : zI l yX5_even wsX5_even 4 96 g [.ref M, .int t, .int w] [(M, .inr (5, [.long mt, .ref Mt, .int (nI ty), .ref Mc, .ref Mp, .ref Mw, .ref My, .ref Mm, .ref Mh, .ref Mk, .ref Mo, .int (nI xa), .int (nI xs), .int (nI xo), .int (nI xv), .int xf, .int (nI xh), .ref Ms, .ref Mi, .ref Mb, .ref Me, .int (nI dy), .ref Md])), (Mc, .inl (g.2.1.1, 2, .inl (zf ck))), (Mp, .inl (g.2.1.1, 2, .inl (zf pe))), (Mw, .inl (g.2.1.1, 12, .inl (zf wy))), (My, .inl (g.2.1.1, 192, .inl (zf wa))), (Mm, .inl (g.2.1.1, 2, .inl (zf mr))), (Mh, .inl (g.2.1.1, 24, .inl (zf mh))), (Ms, .inl (g.2.1.1, 108, .inl (zf sd))), (Mb, .inl (g.2.1.1, 241, .inl (zf bh)))] (fun (r : Int32) (u : (Nat → Nat) × (Nat → Nat)) => r = zEven hs (zBh hs np nm wc wp mp 0 0) t w ∧ zOut 27 sd u.1) (fun (u : (Nat → Nat) × (Nat → Nat)) => [(M, .inr (5, [.long mt, .ref Mt, .int (nI ty), .ref Mc, .ref Mp, .ref Mw, .ref My, .ref Mm, .ref Mh, .ref Mk, .ref Mo, .int (nI xa), .int (nI xs), .int (nI xo), .int (nI xv), .int xf, .int (nI xh), .ref Ms, .ref Mi, .ref Mb, .ref Me, .int (nI dy), .ref Md])), (Mc, .inl (g.2.1.1, 2, .inl (zf ck))), (Mp, .inl (g.2.1.1, 2, .inl (zf pe))), (Mw, .inl (g.2.1.1, 12, .inl (zf wy))), (My, .inl (g.2.1.1, 192, .inl (zf wa))), (Mm, .inl (g.2.1.1, 2, .inl (zf mr))), (Mh, .inl (g.2.1.1, 24, .inl (zf mh))), (Ms, .inl (g.2.1.1, 108, .inl (zf u.1))), (Mb, .inl (g.2.1.1, 241, .inl (zf u.2)))]) := by
  refine zz_bodyI (cc := cX5_even) (nL := 7) (own := RX5) (ty := .int) (by decide) rfl rfl (Nat.le_of_ble_eq_true rfl) ?_
  intro pP eE s mM below meth cC A Q ls F hA hK hE hP hD hl hret
  have hS : va_S A s.heap s.heap [] := va_S.rf
  obtain ⟨hx, hb, hml, hown, hts⟩ := id F
  have hiX5 : ∀ w ∈ u_ws RX5 TX5 23, w ∈ wsX5_even := by decide +kernel
  have hf0 := hts (.fieldLink RX5 45 "StepClockModel" "behind" "[I") (by decide +kernel)
  have hf1 := hts (.fieldLink RX5 13 "StepClockModel" "clocks" "[I") (by decide +kernel)
  have hl : lv_has ls 7 [(0, .ref M), (1, .int t), (2, .int w)] := hl
  obtain ⟨hhs, hnp, hnm, hwc, hwp, hmp, hwk⟩ := id hPB
  obtain ⟨hck0, hpe0, hmr0, hwy, hwa, hmh⟩ := id hMB
  have hlot := zi_lo t
  have hhit := zi_hi t
  have hlow := zi_lo w
  have hhiw := zi_hi w
  refine lv_iload_n hx hb dX5_even_0 rfl (lv_at hl 1 rfl) ?_
  refine lv_iconst (v := 0) hx hb dX5_even_1 (by decide) ?_
  refine lv_sipush (v := 240) hx hb dX5_even_2 (by decide) ?_
  refine zz_callSI (wr := [(M, .inr (5, [.long mt, .ref Mt, .int (nI ty), .ref Mc, .ref Mp, .ref Mw, .ref My, .ref Mm, .ref Mh, .ref Mk, .ref Mo, .int (nI xa), .int (nI xs), .int (nI xo), .int (nI xv), .int xf, .int (nI xh), .ref Ms, .ref Mi, .ref Mb, .ref Me, .int (nI dy), .ref Md])), (Mc, .inl (g.2.1.1, 2, .inl (zf ck))), (Mp, .inl (g.2.1.1, 2, .inl (zf pe))), (Mw, .inl (g.2.1.1, 12, .inl (zf wy))), (My, .inl (g.2.1.1, 192, .inl (zf wa))), (Mm, .inl (g.2.1.1, 2, .inl (zf mr))), (Mh, .inl (g.2.1.1, 24, .inl (zf mh))), (Ms, .inl (g.2.1.1, 108, .inl (zf sd))), (Mb, .inl (g.2.1.1, 241, .inl (zf bh)))]) (wc := []) (As := [.int t, .int (nI 0), .int (nI 240)]) (rest := []) F hK hE hA hP hD hS (c_X5_in l g (x := t) (a := 0) (b := 240) (hab := by first | assumption | omega)) (va_cwS 3 hts gX5_even_X5_in rfl rfl rfl (by decide +kernel) ⟨Nat.le_of_ble_eq_true rfl, Nat.le_of_ble_eq_true rfl⟩) [] [0, 1, 2, 3, 4, 5, 6, 7, 8] rfl rfl (by decide) (by decide) (by decide) rfl rfl hl.1 (Nat.le_of_ble_eq_true rfl) dX5_even_5 ⟨Nat.le_of_ble_eq_true rfl, Nat.le_of_ble_eq_true rfl⟩ (fun r_1 u_1 H locs hw hP hD hS => ?_)
  have hP : va_P g.1 vwCl [(M, .inr (5, [.long mt, .ref Mt, .int (nI ty), .ref Mc, .ref Mp, .ref Mw, .ref My, .ref Mm, .ref Mh, .ref Mk, .ref Mo, .int (nI xa), .int (nI xs), .int (nI xo), .int (nI xv), .int xf, .int (nI xh), .ref Ms, .ref Mi, .ref Mb, .ref Me, .int (nI dy), .ref Md])), (Mc, .inl (g.2.1.1, 2, .inl (zf ck))), (Mp, .inl (g.2.1.1, 2, .inl (zf pe))), (Mw, .inl (g.2.1.1, 12, .inl (zf wy))), (My, .inl (g.2.1.1, 192, .inl (zf wa))), (Mm, .inl (g.2.1.1, 2, .inl (zf mr))), (Mh, .inl (g.2.1.1, 24, .inl (zf mh))), (Ms, .inl (g.2.1.1, 108, .inl (zf sd))), (Mb, .inl (g.2.1.1, 241, .inl (zf bh)))] _ := hP
  have hD : va_D A [(M, .inr (5, [.long mt, .ref Mt, .int (nI ty), .ref Mc, .ref Mp, .ref Mw, .ref My, .ref Mm, .ref Mh, .ref Mk, .ref Mo, .int (nI xa), .int (nI xs), .int (nI xo), .int (nI xv), .int xf, .int (nI xh), .ref Ms, .ref Mi, .ref Mb, .ref Me, .int (nI dy), .ref Md])), (Mc, .inl (g.2.1.1, 2, .inl (zf ck))), (Mp, .inl (g.2.1.1, 2, .inl (zf pe))), (Mw, .inl (g.2.1.1, 12, .inl (zf wy))), (My, .inl (g.2.1.1, 192, .inl (zf wa))), (Mm, .inl (g.2.1.1, 2, .inl (zf mr))), (Mh, .inl (g.2.1.1, 24, .inl (zf mh))), (Ms, .inl (g.2.1.1, 108, .inl (zf sd))), (Mb, .inl (g.2.1.1, 241, .inl (zf bh)))] := hD
  have hr_1 := hw
  have hr_1 : r_1 = if (0 : Int) ≤ t.toInt ∧ t.toInt ≤ (240 : Int) then 1 else 0 := hr_1
  by_cases b_2 : (0 : Int) ≤ t.toInt ∧ t.toInt ≤ (240 : Int)
  · rw [if_pos b_2] at hr_1
    subst hr_1
    refine zz_if_eq (tgt := 20) hx hb dX5_even_8 (by decide) (zi_c 1 rfl) (by omega) (fun c_3 => (by exfalso; omega)) (fun c_3 => ?_)
    refine lv_iload_n hx hb dX5_even_11 rfl (lv_at hl 2 rfl) ?_
    refine lv_iconst (v := 0) hx hb dX5_even_12 (by decide) ?_
    refine lv_iconst (v := 3) hx hb dX5_even_13 (by decide) ?_
    refine zz_callSI (wr := [(M, .inr (5, [.long mt, .ref Mt, .int (nI ty), .ref Mc, .ref Mp, .ref Mw, .ref My, .ref Mm, .ref Mh, .ref Mk, .ref Mo, .int (nI xa), .int (nI xs), .int (nI xo), .int (nI xv), .int xf, .int (nI xh), .ref Ms, .ref Mi, .ref Mb, .ref Me, .int (nI dy), .ref Md])), (Mc, .inl (g.2.1.1, 2, .inl (zf ck))), (Mp, .inl (g.2.1.1, 2, .inl (zf pe))), (Mw, .inl (g.2.1.1, 12, .inl (zf wy))), (My, .inl (g.2.1.1, 192, .inl (zf wa))), (Mm, .inl (g.2.1.1, 2, .inl (zf mr))), (Mh, .inl (g.2.1.1, 24, .inl (zf mh))), (Ms, .inl (g.2.1.1, 108, .inl (zf sd))), (Mb, .inl (g.2.1.1, 241, .inl (zf bh)))]) (wc := []) (As := [.int w, .int (nI 0), .int (nI 3)]) (rest := []) F hK hE hA hP hD hS (c_X5_in l g (x := w) (a := 0) (b := 3) (hab := by first | assumption | omega)) (va_cwS 3 hts gX5_even_X5_in rfl rfl rfl (by decide +kernel) ⟨Nat.le_of_ble_eq_true rfl, Nat.le_of_ble_eq_true rfl⟩) [] [0, 1, 2, 3, 4, 5, 6, 7, 8] rfl rfl (by decide) (by decide) (by decide) rfl rfl hl.1 (Nat.le_of_ble_eq_true rfl) dX5_even_14 ⟨Nat.le_of_ble_eq_true rfl, Nat.le_of_ble_eq_true rfl⟩ (fun r_4 u_4 H locs hw hP hD hS => ?_)
    have hP : va_P g.1 vwCl [(M, .inr (5, [.long mt, .ref Mt, .int (nI ty), .ref Mc, .ref Mp, .ref Mw, .ref My, .ref Mm, .ref Mh, .ref Mk, .ref Mo, .int (nI xa), .int (nI xs), .int (nI xo), .int (nI xv), .int xf, .int (nI xh), .ref Ms, .ref Mi, .ref Mb, .ref Me, .int (nI dy), .ref Md])), (Mc, .inl (g.2.1.1, 2, .inl (zf ck))), (Mp, .inl (g.2.1.1, 2, .inl (zf pe))), (Mw, .inl (g.2.1.1, 12, .inl (zf wy))), (My, .inl (g.2.1.1, 192, .inl (zf wa))), (Mm, .inl (g.2.1.1, 2, .inl (zf mr))), (Mh, .inl (g.2.1.1, 24, .inl (zf mh))), (Ms, .inl (g.2.1.1, 108, .inl (zf sd))), (Mb, .inl (g.2.1.1, 241, .inl (zf bh)))] _ := hP
    have hD : va_D A [(M, .inr (5, [.long mt, .ref Mt, .int (nI ty), .ref Mc, .ref Mp, .ref Mw, .ref My, .ref Mm, .ref Mh, .ref Mk, .ref Mo, .int (nI xa), .int (nI xs), .int (nI xo), .int (nI xv), .int xf, .int (nI xh), .ref Ms, .ref Mi, .ref Mb, .ref Me, .int (nI dy), .ref Md])), (Mc, .inl (g.2.1.1, 2, .inl (zf ck))), (Mp, .inl (g.2.1.1, 2, .inl (zf pe))), (Mw, .inl (g.2.1.1, 12, .inl (zf wy))), (My, .inl (g.2.1.1, 192, .inl (zf wa))), (Mm, .inl (g.2.1.1, 2, .inl (zf mr))), (Mh, .inl (g.2.1.1, 24, .inl (zf mh))), (Ms, .inl (g.2.1.1, 108, .inl (zf sd))), (Mb, .inl (g.2.1.1, 241, .inl (zf bh)))] := hD
    have hr_4 := hw
    have hr_4 : r_4 = if (0 : Int) ≤ w.toInt ∧ w.toInt ≤ (3 : Int) then 1 else 0 := hr_4
    by_cases b_5 : (0 : Int) ≤ w.toInt ∧ w.toInt ≤ (3 : Int)
    · rw [if_pos b_5] at hr_4
      subst hr_4
      refine zz_if_ne (tgt := 22) hx hb dX5_even_17 (by decide) (zi_c 1 rfl) (by omega) (fun c_6 => ?_) (fun c_6 => (by exfalso; omega))
      refine lv_aload_n hx hb dX5_even_22 rfl (lv_at hl 0 rfl) ?_
      refine lv_iconst (v := 0) hx hb dX5_even_23 (by decide) ?_
      refine lv_iconst (v := 0) hx hb dX5_even_24 (by decide) ?_
      refine zz_callV (wr := []) (wc := [(M, .inr (5, [.long mt, .ref Mt, .int (nI ty), .ref Mc, .ref Mp, .ref Mw, .ref My, .ref Mm, .ref Mh, .ref Mk, .ref Mo, .int (nI xa), .int (nI xs), .int (nI xo), .int (nI xv), .int xf, .int (nI xh), .ref Ms, .ref Mi, .ref Mb, .ref Me, .int (nI dy), .ref Md])), (Mc, .inl (g.2.1.1, 2, .inl (zf ck))), (Mp, .inl (g.2.1.1, 2, .inl (zf pe))), (Mw, .inl (g.2.1.1, 12, .inl (zf wy))), (My, .inl (g.2.1.1, 192, .inl (zf wa))), (Mm, .inl (g.2.1.1, 2, .inl (zf mr))), (Mh, .inl (g.2.1.1, 24, .inl (zf mh))), (Ms, .inl (g.2.1.1, 108, .inl (zf sd))), (Mb, .inl (g.2.1.1, 241, .inl (zf bh)))]) (As := [.int (nI 0), .int (nI 0)]) (rest := []) F hK hE hA hP hD hS (c_X5_goAll l g (M := M) (Mt := Mt) (Mc := Mc) (Mp := Mp) (Mw := Mw) (My := My) (Mm := Mm) (Mh := Mh) (Mk := Mk) (Mo := Mo) (Ms := Ms) (Mi := Mi) (Mb := Mb) (Me := Me) (Md := Md) (mt := mt) (ty := ty) (xa := xa) (xs := xs) (xo := xo) (xv := xv) (xh := xh) (dy := dy) (xf := xf) (ck := ck) (pe := pe) (wy := wy) (wa := wa) (mr := mr) (mh := mh) (sd := sd) (bh := bh) (s1 := 0) (f := 0) (hs := hs) (np := np) (nm := nm) (wc := wc) (wp := wp) (mp := mp) (hPB := by first | assumption | omega) (hMB := by first | assumption | omega) (hs1 := by first | assumption | omega) (hf := by first | assumption | omega)) (cwV 2 hts gX5_even_X5_goAll rfl rfl rfl (by decide +kernel) ⟨Nat.le_of_ble_eq_true rfl, Nat.le_of_ble_eq_true rfl⟩) [0, 1, 2, 3, 4, 5, 6, 7, 8] [] rfl rfl (by decide) (by decide) (by decide) 5 0 rfl rfl rfl rfl rfl hl.1 (Nat.le_of_ble_eq_true rfl) dX5_even_25 ⟨Nat.le_of_ble_eq_true rfl, Nat.le_of_ble_eq_true rfl⟩ (fun sd9_7 H locs hw hP hD hS => ?_)
      have hP : va_P g.1 vwCl [(M, .inr (5, [.long mt, .ref Mt, .int (nI ty), .ref Mc, .ref Mp, .ref Mw, .ref My, .ref Mm, .ref Mh, .ref Mk, .ref Mo, .int (nI xa), .int (nI xs), .int (nI xo), .int (nI xv), .int xf, .int (nI xh), .ref Ms, .ref Mi, .ref Mb, .ref Me, .int (nI dy), .ref Md])), (Mc, .inl (g.2.1.1, 2, .inl (zf ck))), (Mp, .inl (g.2.1.1, 2, .inl (zf pe))), (Mw, .inl (g.2.1.1, 12, .inl (zf wy))), (My, .inl (g.2.1.1, 192, .inl (zf wa))), (Mm, .inl (g.2.1.1, 2, .inl (zf mr))), (Mh, .inl (g.2.1.1, 24, .inl (zf mh))), (Ms, .inl (g.2.1.1, 108, .inl (zf sd9_7))), (Mb, .inl (g.2.1.1, 241, .inl (zf (zBh hs np nm wc wp mp 0 0))))] _ := hP
      have hD : va_D A [(M, .inr (5, [.long mt, .ref Mt, .int (nI ty), .ref Mc, .ref Mp, .ref Mw, .ref My, .ref Mm, .ref Mh, .ref Mk, .ref Mo, .int (nI xa), .int (nI xs), .int (nI xo), .int (nI xv), .int xf, .int (nI xh), .ref Ms, .ref Mi, .ref Mb, .ref Me, .int (nI dy), .ref Md])), (Mc, .inl (g.2.1.1, 2, .inl (zf ck))), (Mp, .inl (g.2.1.1, 2, .inl (zf pe))), (Mw, .inl (g.2.1.1, 12, .inl (zf wy))), (My, .inl (g.2.1.1, 192, .inl (zf wa))), (Mm, .inl (g.2.1.1, 2, .inl (zf mr))), (Mh, .inl (g.2.1.1, 24, .inl (zf mh))), (Ms, .inl (g.2.1.1, 108, .inl (zf sd9_7))), (Mb, .inl (g.2.1.1, 241, .inl (zf (zBh hs np nm wc wp mp 0 0))))] := hD
      have hw_7 : zRel 27 sd9_7 240 (zTr hs np nm wc wp mp 0 0 240).1 0 (zTr hs np nm wc wp mp 0 0 240).2.1 (zTr hs np nm wc wp mp 0 0 240).2.2.1 (zTr hs np nm wc wp mp 0 0 240).2.2.2 ∧ zOut 27 sd sd9_7 := hw
      have hR9 := hw_7.1
      have hO9 := hw_7.2
      have hbl := zBh_lt (si := 0) (f := 0) hPB (by omega)
      have hb1 := hbl ((t.toInt).toNat)
      refine lv_iconst (v := 0) hx hb dX5_even_28 (by decide) ?_
      refine lv_istore_n (lv' := [(3, .int 0), (0, .ref M), (1, .int t), (2, .int w)]) hx hb dX5_even_29 rfl hl (by decide) rfl (fun ls hl => ?_)
      refine lv_bipush (v := (-9)) hx hb dX5_even_30 (by decide) ?_
      refine lv_istore (lv' := [(4, .int (-9)), (3, .int 0), (0, .ref M), (1, .int t), (2, .int w)]) hx hb dX5_even_32 hl (by decide) rfl (fun ls hl => ?_)
      refine lv_iconst (v := 0) hx hb dX5_even_34 (by decide) ?_
      refine lv_istore (lv' := [(5, .int 0), (4, .int (-9)), (3, .int 0), (0, .ref M), (1, .int t), (2, .int w)]) hx hb dX5_even_35 hl (by decide) rfl (fun ls hl => ?_)
      have hcut37 : ∀ (fu : Nat) (i : Nat) (H : Heap) (locs : List Loc) (ls : Array Slot), (i ≤ 241) → (241 - i) < fu → va_P g.1 vwCl [(M, .inr (5, [.long mt, .ref Mt, .int (nI ty), .ref Mc, .ref Mp, .ref Mw, .ref My, .ref Mm, .ref Mh, .ref Mk, .ref Mo, .int (nI xa), .int (nI xs), .int (nI xo), .int (nI xv), .int xf, .int (nI xh), .ref Ms, .ref Mi, .ref Mb, .ref Me, .int (nI dy), .ref Md])), (Mc, .inl (g.2.1.1, 2, .inl (zf ck))), (Mp, .inl (g.2.1.1, 2, .inl (zf pe))), (Mw, .inl (g.2.1.1, 12, .inl (zf wy))), (My, .inl (g.2.1.1, 192, .inl (zf wa))), (Mm, .inl (g.2.1.1, 2, .inl (zf mr))), (Mh, .inl (g.2.1.1, 24, .inl (zf mh))), (Ms, .inl (g.2.1.1, 108, .inl (zf sd9_7))), (Mb, .inl (g.2.1.1, 241, .inl (zf (zBh hs np nm wc wp mp 0 0))))] H → va_D A [(M, .inr (5, [.long mt, .ref Mt, .int (nI ty), .ref Mc, .ref Mp, .ref Mw, .ref My, .ref Mm, .ref Mh, .ref Mk, .ref Mo, .int (nI xa), .int (nI xs), .int (nI xo), .int (nI xv), .int xf, .int (nI xh), .ref Ms, .ref Mi, .ref Mb, .ref Me, .int (nI dy), .ref Md])), (Mc, .inl (g.2.1.1, 2, .inl (zf ck))), (Mp, .inl (g.2.1.1, 2, .inl (zf pe))), (Mw, .inl (g.2.1.1, 12, .inl (zf wy))), (My, .inl (g.2.1.1, 192, .inl (zf wa))), (Mm, .inl (g.2.1.1, 2, .inl (zf mr))), (Mh, .inl (g.2.1.1, 24, .inl (zf mh))), (Ms, .inl (g.2.1.1, 108, .inl (zf sd9_7))), (Mb, .inl (g.2.1.1, 241, .inl (zf (zBh hs np nm wc wp mp 0 0))))] → va_S A s.heap H locs → lv_has ls 7 [(0, .ref M), (1, .int t), (2, .int w), (3, .int (nI (zSm (zAlc hs (zBh hs np nm wc wp mp 0 0)) i))), (4, .int (zNo (zLn (fun t => decide (zAl hs (zBh hs np nm wc wp mp 0 0) t)) i))), (5, .int (nI i))] → W pP l eE { frames := 4, cells := 0, slots := 0, locals := 96 } s mM ([.ref M, .int t, .int w] : List Value).toArray below meth cC H locs 0 0 Q (F0 mM 37 ls []) := by
        intro fu
        induction fu with
        | zero =>
          intro i H locs ls hi hm
          exact absurd hm (Nat.not_lt_zero _)
        | succ fu ih37 =>
          intro i H locs ls hi hm hP hD hS hl
          have hb9 := hbl i
          have hal := zSm_le (zAlc_le hs (zBh hs np nm wc wp mp 0 0)) i
          have hlz := zOi_s (zLn (fun t => decide (zAl hs (zBh hs np nm wc wp mp 0 0) t)) i)
          refine lv_iload hx hb dX5_even_37 (lv_at hl 5 rfl) ?_
          refine lv_sipush (v := 240) hx hb dX5_even_39 (by decide) ?_
          refine zz_icmp_gt (tgt := 107) hx hb dX5_even_42 (by decide) (zi_n i) (zi_c 240 rfl) (by omega) (by omega) (fun c_8 => ?_) (fun c_8 => ?_)
          · refine lv_iload_n hx hb dX5_even_107 rfl (lv_at hl 2 rfl) ?_
            refine zz_if_ne (tgt := 118) hx hb dX5_even_108 (by decide) (zi_self w) (by omega) (fun c_9 => ?_) (fun c_9 => ?_)
            · refine lv_iload_n hx hb dX5_even_118 rfl (lv_at hl 2 rfl) ?_
              refine lv_iconst (v := 1) hx hb dX5_even_119 (by decide) ?_
              refine zz_icmp_ne (tgt := 139) hx hb dX5_even_120 (by decide) (zi_self w) (zi_c 1 rfl) (by omega) (by omega) (fun c_10 => ?_) (fun c_10 => ?_)
              · refine lv_iload_n hx hb dX5_even_139 rfl (lv_at hl 2 rfl) ?_
                refine lv_iconst (v := 2) hx hb dX5_even_140 (by decide) ?_
                refine zz_icmp_ne (tgt := 148) hx hb dX5_even_141 (by decide) (zi_self w) (zi_c 2 rfl) (by omega) (by omega) (fun c_11 => ?_) (fun c_11 => ?_)
                · refine lv_iload hx hb dX5_even_148 (lv_at hl 4 rfl) ?_
                  exact hret 150 _ _ _ (zNo (zLn (fun t => decide (zAl hs (zBh hs np nm wc wp mp 0 0) t)) i)) (sd9_7, (zBh hs np nm wc wp mp 0 0)) dX5_even_150 rfl hP hD hS (show (zNo (zLn (fun t => decide (zAl hs (zBh hs np nm wc wp mp 0 0) t)) i)) = zEven hs (zBh hs np nm wc wp mp 0 0) t w ∧ zOut 27 sd sd9_7 from by first | (rw [zEven, if_neg (by omega)]; exact ⟨rfl, zOut_r 27 sd⟩) | (rw [zEven, if_pos (by omega), if_neg (zi_wn (a := 0) (by omega) rfl), if_neg (zi_wn (a := 1) (by omega) rfl), if_neg (zi_wn (a := 2) (by omega) rfl), if_neg (zi_wn (a := 3) (by omega) rfl)]; exact ⟨rfl, zOut_r 27 sd⟩) | (refine ⟨?_, hO9⟩; rw [zEven, if_pos (by omega), if_pos (zi_w (a := 0) (by omega) rfl)]; done) | (refine ⟨?_, hO9⟩; rw [zEven, if_pos (by omega), if_neg (zi_wn (a := 0) (by omega) rfl), if_pos (zi_w (a := 1) (by omega) rfl)]; done) | (refine ⟨?_, hO9⟩; rw [zEven, if_pos (by omega), if_neg (zi_wn (a := 0) (by omega) rfl), if_neg (zi_wn (a := 1) (by omega) rfl), if_pos (zi_w (a := 2) (by omega) rfl), show i = 241 by omega]; done) | (refine ⟨?_, hO9⟩; rw [zEven, if_pos (by omega), if_neg (zi_wn (a := 0) (by omega) rfl), if_neg (zi_wn (a := 1) (by omega) rfl), if_neg (zi_wn (a := 2) (by omega) rfl), if_pos (zi_w (a := 3) (by omega) rfl), show i = 241 by omega]; done))
                · refine lv_iload_n hx hb dX5_even_144 rfl (lv_at hl 3 rfl) ?_
                  refine lv_goto (tgt := 150) hx hb dX5_even_145 (by decide) ?_
                  exact hret 150 _ _ _ (nI (zSm (zAlc hs (zBh hs np nm wc wp mp 0 0)) i)) (sd9_7, (zBh hs np nm wc wp mp 0 0)) dX5_even_150 rfl hP hD hS (show (nI (zSm (zAlc hs (zBh hs np nm wc wp mp 0 0)) i)) = zEven hs (zBh hs np nm wc wp mp 0 0) t w ∧ zOut 27 sd sd9_7 from by first | (rw [zEven, if_neg (by omega)]; exact ⟨rfl, zOut_r 27 sd⟩) | (rw [zEven, if_pos (by omega), if_neg (zi_wn (a := 0) (by omega) rfl), if_neg (zi_wn (a := 1) (by omega) rfl), if_neg (zi_wn (a := 2) (by omega) rfl), if_neg (zi_wn (a := 3) (by omega) rfl)]; exact ⟨rfl, zOut_r 27 sd⟩) | (refine ⟨?_, hO9⟩; rw [zEven, if_pos (by omega), if_pos (zi_w (a := 0) (by omega) rfl)]; done) | (refine ⟨?_, hO9⟩; rw [zEven, if_pos (by omega), if_neg (zi_wn (a := 0) (by omega) rfl), if_pos (zi_w (a := 1) (by omega) rfl)]; done) | (refine ⟨?_, hO9⟩; rw [zEven, if_pos (by omega), if_neg (zi_wn (a := 0) (by omega) rfl), if_neg (zi_wn (a := 1) (by omega) rfl), if_pos (zi_w (a := 2) (by omega) rfl), show i = 241 by omega]; done) | (refine ⟨?_, hO9⟩; rw [zEven, if_pos (by omega), if_neg (zi_wn (a := 0) (by omega) rfl), if_neg (zi_wn (a := 1) (by omega) rfl), if_neg (zi_wn (a := 2) (by omega) rfl), if_pos (zi_w (a := 3) (by omega) rfl), show i = 241 by omega]; done))
              · refine lv_aload_n hx hb dX5_even_123 rfl (lv_at hl 0 rfl) ?_
                refine va_get (D := g.1) (ci := 5) (v := .ref Mb) (C := RX5) (T := TX5) (N := 23) hx hb hts hiX5 hown hK.1 hP 0 rfl rfl 19 (by decide) hf0 (fun _ h9 => h9) rfl dX5_even_124 ?_
                refine lv_iload_n hx hb dX5_even_127 rfl (lv_at hl 1 rfl) ?_
                refine zz_iald hx hb hK.1 hP 8 0 rfl rfl ((t.toInt).toNat) (zi_eq (zi_self t) (zi_n ((t.toInt).toNat)) (by omega)) (by omega) (by decide) dX5_even_128 ?_
                refine lv_aload_n hx hb dX5_even_129 rfl (lv_at hl 0 rfl) ?_
                refine va_get (D := g.1) (ci := 5) (v := .ref Mc) (C := RX5) (T := TX5) (N := 23) hx hb hts hiX5 hown hK.1 hP 0 rfl rfl 3 (by decide) hf1 (fun _ h9 => h9) rfl dX5_even_130 ?_
                refine lv_iconst (v := 0) hx hb dX5_even_133 (by decide) ?_
                refine zz_iald hx hb hK.1 hP 1 0 rfl rfl 0 (zi_eq (zi_c 0 rfl) (zi_n 0) (by omega)) (by omega) (by decide) dX5_even_134 ?_
                refine zz_topi (y := nI hs) (congrArg nI (hck0)) ?_
                refine lv_idiv hx hb dX5_even_135 (nI_ne0 (by omega) (by omega)) ?_
                have hq_12 : ((zBh hs np nm wc wp mp 0 0) ((t.toInt).toNat)) / hs ≤ ((zBh hs np nm wc wp mp 0 0) ((t.toInt).toNat)) := Nat.div_le_self _ _
                have hqz_13 : (0 : Int) ≤ ((((zBh hs np nm wc wp mp 0 0) ((t.toInt).toNat)) / hs : Nat) : Int) := Int.natCast_nonneg _
                refine zz_topi (y := nI (((zBh hs np nm wc wp mp 0 0) ((t.toInt).toNat)) / hs)) (pk_div (a := ((zBh hs np nm wc wp mp 0 0) ((t.toInt).toNat))) (d := hs) (by omega) (by omega) (by omega)) ?_
                refine lv_goto (tgt := 150) hx hb dX5_even_136 (by decide) ?_
                exact hret 150 _ _ _ (nI (((zBh hs np nm wc wp mp 0 0) ((t.toInt).toNat)) / hs)) (sd9_7, (zBh hs np nm wc wp mp 0 0)) dX5_even_150 rfl hP hD hS (show (nI (((zBh hs np nm wc wp mp 0 0) ((t.toInt).toNat)) / hs)) = zEven hs (zBh hs np nm wc wp mp 0 0) t w ∧ zOut 27 sd sd9_7 from by first | (rw [zEven, if_neg (by omega)]; exact ⟨rfl, zOut_r 27 sd⟩) | (rw [zEven, if_pos (by omega), if_neg (zi_wn (a := 0) (by omega) rfl), if_neg (zi_wn (a := 1) (by omega) rfl), if_neg (zi_wn (a := 2) (by omega) rfl), if_neg (zi_wn (a := 3) (by omega) rfl)]; exact ⟨rfl, zOut_r 27 sd⟩) | (refine ⟨?_, hO9⟩; rw [zEven, if_pos (by omega), if_pos (zi_w (a := 0) (by omega) rfl)]; done) | (refine ⟨?_, hO9⟩; rw [zEven, if_pos (by omega), if_neg (zi_wn (a := 0) (by omega) rfl), if_pos (zi_w (a := 1) (by omega) rfl)]; done) | (refine ⟨?_, hO9⟩; rw [zEven, if_pos (by omega), if_neg (zi_wn (a := 0) (by omega) rfl), if_neg (zi_wn (a := 1) (by omega) rfl), if_pos (zi_w (a := 2) (by omega) rfl), show i = 241 by omega]; done) | (refine ⟨?_, hO9⟩; rw [zEven, if_pos (by omega), if_neg (zi_wn (a := 0) (by omega) rfl), if_neg (zi_wn (a := 1) (by omega) rfl), if_neg (zi_wn (a := 2) (by omega) rfl), if_pos (zi_w (a := 3) (by omega) rfl), show i = 241 by omega]; done))
            · refine lv_iload_n hx hb dX5_even_111 rfl (lv_at hl 1 rfl) ?_
              refine lv_bipush (v := 60) hx hb dX5_even_112 (by decide) ?_
              refine lv_idiv hx hb dX5_even_114 (by decide) ?_
              refine zz_topi (y := nI (t.toInt.toNat / 60)) ((congrArg (fun z : Int32 => z / 60) (zi_eq (zi_self t) (zi_n t.toInt.toNat) (by omega))).trans (pk_div (a := t.toInt.toNat) (d := 60) (by omega) (by omega) (by omega))) ?_
              refine lv_goto (tgt := 150) hx hb dX5_even_115 (by decide) ?_
              exact hret 150 _ _ _ (nI (t.toInt.toNat / 60)) (sd9_7, (zBh hs np nm wc wp mp 0 0)) dX5_even_150 rfl hP hD hS (show (nI (t.toInt.toNat / 60)) = zEven hs (zBh hs np nm wc wp mp 0 0) t w ∧ zOut 27 sd sd9_7 from by first | (rw [zEven, if_neg (by omega)]; exact ⟨rfl, zOut_r 27 sd⟩) | (rw [zEven, if_pos (by omega), if_neg (zi_wn (a := 0) (by omega) rfl), if_neg (zi_wn (a := 1) (by omega) rfl), if_neg (zi_wn (a := 2) (by omega) rfl), if_neg (zi_wn (a := 3) (by omega) rfl)]; exact ⟨rfl, zOut_r 27 sd⟩) | (refine ⟨?_, hO9⟩; rw [zEven, if_pos (by omega), if_pos (zi_w (a := 0) (by omega) rfl)]; done) | (refine ⟨?_, hO9⟩; rw [zEven, if_pos (by omega), if_neg (zi_wn (a := 0) (by omega) rfl), if_pos (zi_w (a := 1) (by omega) rfl)]; done) | (refine ⟨?_, hO9⟩; rw [zEven, if_pos (by omega), if_neg (zi_wn (a := 0) (by omega) rfl), if_neg (zi_wn (a := 1) (by omega) rfl), if_pos (zi_w (a := 2) (by omega) rfl), show i = 241 by omega]; done) | (refine ⟨?_, hO9⟩; rw [zEven, if_pos (by omega), if_neg (zi_wn (a := 0) (by omega) rfl), if_neg (zi_wn (a := 1) (by omega) rfl), if_neg (zi_wn (a := 2) (by omega) rfl), if_pos (zi_w (a := 3) (by omega) rfl), show i = 241 by omega]; done))
          · refine lv_iload hx hb dX5_even_45 (lv_at hl 5 rfl) ?_
            refine lv_bipush (v := 60) hx hb dX5_even_47 (by decide) ?_
            refine lv_idiv hx hb dX5_even_49 (by decide) ?_
            have hq_14 : i / 60 ≤ i := Nat.div_le_self _ _
            refine zz_topi (y := nI (i / 60)) (pk_div (a := i) (d := 60) (by omega) (by omega) (by omega)) ?_
            refine lv_aload_n hx hb dX5_even_50 rfl (lv_at hl 0 rfl) ?_
            refine va_get (D := g.1) (ci := 5) (v := .ref Mb) (C := RX5) (T := TX5) (N := 23) hx hb hts hiX5 hown hK.1 hP 0 rfl rfl 19 (by decide) hf0 (fun _ h9 => h9) rfl dX5_even_51 ?_
            refine lv_iload hx hb dX5_even_54 (lv_at hl 5 rfl) ?_
            refine zz_iald hx hb hK.1 hP 8 0 rfl rfl i rfl (by omega) (by decide) dX5_even_56 ?_
            refine lv_aload_n hx hb dX5_even_57 rfl (lv_at hl 0 rfl) ?_
            refine va_get (D := g.1) (ci := 5) (v := .ref Mc) (C := RX5) (T := TX5) (N := 23) hx hb hts hiX5 hown hK.1 hP 0 rfl rfl 3 (by decide) hf1 (fun _ h9 => h9) rfl dX5_even_58 ?_
            refine lv_iconst (v := 0) hx hb dX5_even_61 (by decide) ?_
            refine zz_iald hx hb hK.1 hP 1 0 rfl rfl 0 (zi_eq (zi_c 0 rfl) (zi_n 0) (by omega)) (by omega) (by decide) dX5_even_62 ?_
            refine zz_topi (y := nI hs) (congrArg nI (hck0)) ?_
            refine lv_idiv hx hb dX5_even_63 (nI_ne0 (by omega) (by omega)) ?_
            have hq_15 : ((zBh hs np nm wc wp mp 0 0) i) / hs ≤ ((zBh hs np nm wc wp mp 0 0) i) := Nat.div_le_self _ _
            have hqz_16 : (0 : Int) ≤ ((((zBh hs np nm wc wp mp 0 0) i) / hs : Nat) : Int) := Int.natCast_nonneg _
            refine zz_topi (y := nI (((zBh hs np nm wc wp mp 0 0) i) / hs)) (pk_div (a := ((zBh hs np nm wc wp mp 0 0) i)) (d := hs) (by omega) (by omega) (by omega)) ?_
            refine zz_icmp_ne (tgt := 71) hx hb dX5_even_64 (by decide) (zi_n (i / 60)) (zi_n (((zBh hs np nm wc wp mp 0 0) i) / hs)) (by omega) (by omega) (fun c_17 => ?_) (fun c_17 => ?_)
            · refine lv_iconst (v := 0) hx hb dX5_even_71 (by decide) ?_
              refine lv_istore (lv' := [(6, .int 0), (0, .ref M), (1, .int t), (2, .int w), (3, .int (nI (zSm (zAlc hs (zBh hs np nm wc wp mp 0 0)) i))), (4, .int (zNo (zLn (fun t => decide (zAl hs (zBh hs np nm wc wp mp 0 0) t)) i))), (5, .int (nI i))]) hx hb dX5_even_72 hl (by decide) rfl (fun ls hl => ?_)
              refine lv_iload_n hx hb dX5_even_74 rfl (lv_at hl 4 rfl) ?_
              refine lv_iload hx hb dX5_even_75 (lv_at hl 0 rfl) ?_
              refine zz_if_eq (tgt := 84) hx hb dX5_even_77 (by decide) (zi_c 0 rfl) (by omega) (fun c_18 => ?_) (fun c_18 => (by exfalso; omega))
              refine lv_iconst (v := 0) hx hb dX5_even_84 (by decide) ?_
              refine lv_iadd hx hb dX5_even_85 ?_
              refine zz_topi (y := nI (zSm (zAlc hs (zBh hs np nm wc wp mp 0 0)) i)) (zi_eq (zi_add (zi_n (zSm (zAlc hs (zBh hs np nm wc wp mp 0 0)) i)) (zi_c 0 rfl)) (zi_n (zSm (zAlc hs (zBh hs np nm wc wp mp 0 0)) i)) (by omega)) ?_
              refine lv_istore_n (lv' := [(3, .int (nI (zSm (zAlc hs (zBh hs np nm wc wp mp 0 0)) i))), (6, .int 0), (0, .ref M), (1, .int t), (2, .int w), (4, .int (zNo (zLn (fun t => decide (zAl hs (zBh hs np nm wc wp mp 0 0) t)) i))), (5, .int (nI i))]) hx hb dX5_even_86 rfl hl (by decide) rfl (fun ls hl => ?_)
              refine lv_iload hx hb dX5_even_87 (lv_at hl 1 rfl) ?_
              refine zz_if_eq (tgt := 97) hx hb dX5_even_89 (by decide) (zi_c 0 rfl) (by omega) (fun c_19 => ?_) (fun c_19 => (by exfalso; omega))
              refine lv_iload hx hb dX5_even_97 (lv_at hl 5 rfl) ?_
              refine lv_istore (lv' := [(4, .int (zNo (zLn (fun t => decide (zAl hs (zBh hs np nm wc wp mp 0 0) t)) i))), (3, .int (nI (zSm (zAlc hs (zBh hs np nm wc wp mp 0 0)) i))), (6, .int 0), (0, .ref M), (1, .int t), (2, .int w), (5, .int (nI i))]) hx hb dX5_even_99 hl (by decide) rfl (fun ls hl => ?_)
              refine lv_iinc (v := nI (i + 1)) (lv' := [(5, .int (nI (i + 1))), (4, .int (zNo (zLn (fun t => decide (zAl hs (zBh hs np nm wc wp mp 0 0) t)) i))), (3, .int (nI (zSm (zAlc hs (zBh hs np nm wc wp mp 0 0)) i))), (6, .int 0), (0, .ref M), (1, .int t), (2, .int w)]) hx hb dX5_even_101 hl (k := 6) rfl (zi_eq (zi_add (zi_n i) (zi_c 1 rfl)) (zi_n (i + 1)) (by omega)) (by decide) rfl (fun ls hl => ?_)
              refine lv_goto (tgt := 37) hx hb dX5_even_104 (by decide) ?_
              have eq_20 : nI (zSm (zAlc hs (zBh hs np nm wc wp mp 0 0)) i) = nI (zSm (zAlc hs (zBh hs np nm wc wp mp 0 0)) (i + 1)) := by first | (rw [zSm, zAlc, if_pos (show zAl hs (zBh hs np nm wc wp mp 0 0) i by show i / 60 = _ / hs; omega)]; done) | (rw [zSm, zAlc, if_neg (show ¬ zAl hs (zBh hs np nm wc wp mp 0 0) i from fun q => by have q1 : i / 60 = (zBh hs np nm wc wp mp 0 0) i / hs := q; omega), Nat.add_zero]; done)
              have hl : lv_has ls 7 [(5, .int (nI (i + 1))), (4, .int (zNo (zLn (fun t => decide (zAl hs (zBh hs np nm wc wp mp 0 0) t)) i))), (3, .int (nI (zSm (zAlc hs (zBh hs np nm wc wp mp 0 0)) (i + 1)))), (6, .int 0), (0, .ref M), (1, .int t), (2, .int w)] := Eq.mp (congrArg (fun z => lv_has ls 7 [(5, .int (nI (i + 1))), (4, .int (zNo (zLn (fun t => decide (zAl hs (zBh hs np nm wc wp mp 0 0) t)) i))), (3, .int (z)), (6, .int 0), (0, .ref M), (1, .int t), (2, .int w)]) eq_20) hl
              have eq_21 : zNo (zLn (fun t => decide (zAl hs (zBh hs np nm wc wp mp 0 0) t)) i) = zNo (zLn (fun t => decide (zAl hs (zBh hs np nm wc wp mp 0 0) t)) (i + 1)) := by first | (rw [zLn_y (decide_eq_true (show zAl hs (zBh hs np nm wc wp mp 0 0) i by show i / 60 = _ / hs; omega)), zNo_lt (by omega)]; done) | (rw [zLn_n (decide_eq_false (show ¬ zAl hs (zBh hs np nm wc wp mp 0 0) i from fun q => by have q1 : i / 60 = (zBh hs np nm wc wp mp 0 0) i / hs := q; omega))]; done)
              have hl : lv_has ls 7 [(5, .int (nI (i + 1))), (4, .int (zNo (zLn (fun t => decide (zAl hs (zBh hs np nm wc wp mp 0 0) t)) (i + 1)))), (3, .int (nI (zSm (zAlc hs (zBh hs np nm wc wp mp 0 0)) (i + 1)))), (6, .int 0), (0, .ref M), (1, .int t), (2, .int w)] := Eq.mp (congrArg (fun z => lv_has ls 7 [(5, .int (nI (i + 1))), (4, .int (z)), (3, .int (nI (zSm (zAlc hs (zBh hs np nm wc wp mp 0 0)) (i + 1)))), (6, .int 0), (0, .ref M), (1, .int t), (2, .int w)]) eq_21) hl
              exact ih37 (i + 1) _ _ _ (show (i + 1) ≤ 241 from by omega) (by omega) hP hD hS (lv_sub hl [4, 5, 6, 2, 1, 0] rfl)
            · refine lv_iconst (v := 1) hx hb dX5_even_67 (by decide) ?_
              refine lv_goto (tgt := 72) hx hb dX5_even_68 (by decide) ?_
              refine lv_istore (lv' := [(6, .int 1), (0, .ref M), (1, .int t), (2, .int w), (3, .int (nI (zSm (zAlc hs (zBh hs np nm wc wp mp 0 0)) i))), (4, .int (zNo (zLn (fun t => decide (zAl hs (zBh hs np nm wc wp mp 0 0) t)) i))), (5, .int (nI i))]) hx hb dX5_even_72 hl (by decide) rfl (fun ls hl => ?_)
              refine lv_iload_n hx hb dX5_even_74 rfl (lv_at hl 4 rfl) ?_
              refine lv_iload hx hb dX5_even_75 (lv_at hl 0 rfl) ?_
              refine zz_if_eq (tgt := 84) hx hb dX5_even_77 (by decide) (zi_c 1 rfl) (by omega) (fun c_22 => (by exfalso; omega)) (fun c_22 => ?_)
              refine lv_iconst (v := 1) hx hb dX5_even_80 (by decide) ?_
              refine lv_goto (tgt := 85) hx hb dX5_even_81 (by decide) ?_
              refine lv_iadd hx hb dX5_even_85 ?_
              refine zz_topi (y := nI ((zSm (zAlc hs (zBh hs np nm wc wp mp 0 0)) i) + 1)) (zi_eq (zi_add (zi_n (zSm (zAlc hs (zBh hs np nm wc wp mp 0 0)) i)) (zi_c 1 rfl)) (zi_n ((zSm (zAlc hs (zBh hs np nm wc wp mp 0 0)) i) + 1)) (by omega)) ?_
              refine lv_istore_n (lv' := [(3, .int (nI ((zSm (zAlc hs (zBh hs np nm wc wp mp 0 0)) i) + 1))), (6, .int 1), (0, .ref M), (1, .int t), (2, .int w), (4, .int (zNo (zLn (fun t => decide (zAl hs (zBh hs np nm wc wp mp 0 0) t)) i))), (5, .int (nI i))]) hx hb dX5_even_86 rfl hl (by decide) rfl (fun ls hl => ?_)
              refine lv_iload hx hb dX5_even_87 (lv_at hl 1 rfl) ?_
              refine zz_if_eq (tgt := 97) hx hb dX5_even_89 (by decide) (zi_c 1 rfl) (by omega) (fun c_23 => (by exfalso; omega)) (fun c_23 => ?_)
              refine lv_iload hx hb dX5_even_92 (lv_at hl 6 rfl) ?_
              refine lv_goto (tgt := 99) hx hb dX5_even_94 (by decide) ?_
              refine lv_istore (lv' := [(4, .int (nI i)), (3, .int (nI ((zSm (zAlc hs (zBh hs np nm wc wp mp 0 0)) i) + 1))), (6, .int 1), (0, .ref M), (1, .int t), (2, .int w), (5, .int (nI i))]) hx hb dX5_even_99 hl (by decide) rfl (fun ls hl => ?_)
              refine lv_iinc (v := nI (i + 1)) (lv' := [(5, .int (nI (i + 1))), (4, .int (nI i)), (3, .int (nI ((zSm (zAlc hs (zBh hs np nm wc wp mp 0 0)) i) + 1))), (6, .int 1), (0, .ref M), (1, .int t), (2, .int w)]) hx hb dX5_even_101 hl (k := 6) rfl (zi_eq (zi_add (zi_n i) (zi_c 1 rfl)) (zi_n (i + 1)) (by omega)) (by decide) rfl (fun ls hl => ?_)
              refine lv_goto (tgt := 37) hx hb dX5_even_104 (by decide) ?_
              have eq_24 : nI ((zSm (zAlc hs (zBh hs np nm wc wp mp 0 0)) i) + 1) = nI (zSm (zAlc hs (zBh hs np nm wc wp mp 0 0)) (i + 1)) := by first | (rw [zSm, zAlc, if_pos (show zAl hs (zBh hs np nm wc wp mp 0 0) i by show i / 60 = _ / hs; omega)]; done) | (rw [zSm, zAlc, if_neg (show ¬ zAl hs (zBh hs np nm wc wp mp 0 0) i from fun q => by have q1 : i / 60 = (zBh hs np nm wc wp mp 0 0) i / hs := q; omega), Nat.add_zero]; done)
              have hl : lv_has ls 7 [(5, .int (nI (i + 1))), (4, .int (nI i)), (3, .int (nI (zSm (zAlc hs (zBh hs np nm wc wp mp 0 0)) (i + 1)))), (6, .int 1), (0, .ref M), (1, .int t), (2, .int w)] := Eq.mp (congrArg (fun z => lv_has ls 7 [(5, .int (nI (i + 1))), (4, .int (nI i)), (3, .int (z)), (6, .int 1), (0, .ref M), (1, .int t), (2, .int w)]) eq_24) hl
              have eq_25 : nI i = zNo (zLn (fun t => decide (zAl hs (zBh hs np nm wc wp mp 0 0) t)) (i + 1)) := by first | (rw [zLn_y (decide_eq_true (show zAl hs (zBh hs np nm wc wp mp 0 0) i by show i / 60 = _ / hs; omega)), zNo_lt (by omega)]; done) | (rw [zLn_n (decide_eq_false (show ¬ zAl hs (zBh hs np nm wc wp mp 0 0) i from fun q => by have q1 : i / 60 = (zBh hs np nm wc wp mp 0 0) i / hs := q; omega))]; done)
              have hl : lv_has ls 7 [(5, .int (nI (i + 1))), (4, .int (zNo (zLn (fun t => decide (zAl hs (zBh hs np nm wc wp mp 0 0) t)) (i + 1)))), (3, .int (nI (zSm (zAlc hs (zBh hs np nm wc wp mp 0 0)) (i + 1)))), (6, .int 1), (0, .ref M), (1, .int t), (2, .int w)] := Eq.mp (congrArg (fun z => lv_has ls 7 [(5, .int (nI (i + 1))), (4, .int (z)), (3, .int (nI (zSm (zAlc hs (zBh hs np nm wc wp mp 0 0)) (i + 1)))), (6, .int 1), (0, .ref M), (1, .int t), (2, .int w)]) eq_25) hl
              exact ih37 (i + 1) _ _ _ (show (i + 1) ≤ 241 from by omega) (by omega) hP hD hS (lv_sub hl [4, 5, 6, 2, 1, 0] rfl)
      exact hcut37 ((241 - 0) + 1) 0 _ _ _ (show 0 ≤ 241 from by omega) (by omega) hP hD hS (lv_sub hl [3, 4, 5, 2, 1, 0] rfl)
    · rw [if_neg b_5] at hr_4
      subst hr_4
      refine zz_if_ne (tgt := 22) hx hb dX5_even_17 (by decide) (zi_c 0 rfl) (by omega) (fun c_26 => (by exfalso; omega)) (fun c_26 => ?_)
      refine lv_iconst (v := (-1)) hx hb dX5_even_20 (by decide) ?_
      exact hret 21 _ _ _ (-1) (sd, bh) dX5_even_21 rfl hP hD hS (show (-1) = zEven hs (zBh hs np nm wc wp mp 0 0) t w ∧ zOut 27 sd sd from by first | (rw [zEven, if_neg (by omega)]; exact ⟨rfl, zOut_r 27 sd⟩) | (rw [zEven, if_pos (by omega), if_neg (zi_wn (a := 0) (by omega) rfl), if_neg (zi_wn (a := 1) (by omega) rfl), if_neg (zi_wn (a := 2) (by omega) rfl), if_neg (zi_wn (a := 3) (by omega) rfl)]; exact ⟨rfl, zOut_r 27 sd⟩) | (refine ⟨?_, hO9⟩; rw [zEven, if_pos (by omega), if_pos (zi_w (a := 0) (by omega) rfl)]; done) | (refine ⟨?_, hO9⟩; rw [zEven, if_pos (by omega), if_neg (zi_wn (a := 0) (by omega) rfl), if_pos (zi_w (a := 1) (by omega) rfl)]; done) | (refine ⟨?_, hO9⟩; rw [zEven, if_pos (by omega), if_neg (zi_wn (a := 0) (by omega) rfl), if_neg (zi_wn (a := 1) (by omega) rfl), if_pos (zi_w (a := 2) (by omega) rfl), show i = 241 by omega]; done) | (refine ⟨?_, hO9⟩; rw [zEven, if_pos (by omega), if_neg (zi_wn (a := 0) (by omega) rfl), if_neg (zi_wn (a := 1) (by omega) rfl), if_neg (zi_wn (a := 2) (by omega) rfl), if_pos (zi_w (a := 3) (by omega) rfl), show i = 241 by omega]; done))
  · rw [if_neg b_2] at hr_1
    subst hr_1
    refine zz_if_eq (tgt := 20) hx hb dX5_even_8 (by decide) (zi_c 0 rfl) (by omega) (fun c_27 => ?_) (fun c_27 => (by exfalso; omega))
    refine lv_iconst (v := (-1)) hx hb dX5_even_20 (by decide) ?_
    exact hret 21 _ _ _ (-1) (sd, bh) dX5_even_21 rfl hP hD hS (show (-1) = zEven hs (zBh hs np nm wc wp mp 0 0) t w ∧ zOut 27 sd sd from by first | (rw [zEven, if_neg (by omega)]; exact ⟨rfl, zOut_r 27 sd⟩) | (rw [zEven, if_pos (by omega), if_neg (zi_wn (a := 0) (by omega) rfl), if_neg (zi_wn (a := 1) (by omega) rfl), if_neg (zi_wn (a := 2) (by omega) rfl), if_neg (zi_wn (a := 3) (by omega) rfl)]; exact ⟨rfl, zOut_r 27 sd⟩) | (refine ⟨?_, hO9⟩; rw [zEven, if_pos (by omega), if_pos (zi_w (a := 0) (by omega) rfl)]; done) | (refine ⟨?_, hO9⟩; rw [zEven, if_pos (by omega), if_neg (zi_wn (a := 0) (by omega) rfl), if_pos (zi_w (a := 1) (by omega) rfl)]; done) | (refine ⟨?_, hO9⟩; rw [zEven, if_pos (by omega), if_neg (zi_wn (a := 0) (by omega) rfl), if_neg (zi_wn (a := 1) (by omega) rfl), if_pos (zi_w (a := 2) (by omega) rfl), show i = 241 by omega]; done) | (refine ⟨?_, hO9⟩; rw [zEven, if_pos (by omega), if_neg (zi_wn (a := 0) (by omega) rfl), if_neg (zi_wn (a := 1) (by omega) rfl), if_neg (zi_wn (a := 2) (by omega) rfl), if_pos (zi_w (a := 3) (by omega) rfl), show i = 241 by omega]; done))
