/-! THE LAW: what holds before each of its calls; one theorem a case -/
def zI1 (tx : Nat) (tb : Nat → Nat) (fb : Nat → Int32) : Prop := tx ≤ 400 ∧ (∀ k, tb k < 256) ∧ ∀ k, k < tx → fb k &&& 255 = nI (tb k)
def zI2 (nw : Nat) (kp : Nat → Nat) : Prop := nw ≤ 6 ∧ ∀ k, kp k < 1000
def zI3 (wc wp mp kp : Nat → Nat) : Prop := (∀ k, wc k ≤ 4) ∧ (∀ k, wp k < 1000) ∧ (∀ k, mp k < 1000) ∧ ∀ k, kp k < 1000
def zI4 (n np : Nat) (wc : Nat → Nat) (mi st si : Nat) (dn lf tk : Nat → Nat) : Prop := zMok wc dn lf ∧ (∀ p, tk p ≤ 1000 * mi) ∧ mi ≤ 240 ∧ st ≤ 10000 * mi + 9999 * n ∧ si < 64 ∧ ∀ p, np ≤ p → lf p = 0
theorem zI4_s {n np : Nat} {wc : Nat → Nat} {mi st si : Nat} {dn lf tk : Nat → Nat} (h : zI4 n np wc mi st si dn lf tk) : zI4 (n + 1) np wc mi st si dn lf tk := by
  obtain ⟨a, b, c, d, e, f⟩ := h
  exact ⟨a, b, c, by omega, e, f⟩
theorem zI4_0 (n np : Nat) (wc : Nat → Nat) : zI4 n np wc 0 0 0 (fun _ => 0) (fun _ => 0) (fun _ => 0) := ⟨⟨fun _ => Nat.zero_le _, fun _ q => absurd rfl q, fun _ => (show 0 < 1000 by decide)⟩, fun _ => Nat.zero_le _, Nat.zero_le _, Nat.zero_le _, by decide, fun _ _ => rfl⟩
theorem zCmp0 (x : Int64) : lg_cmp x x = 0 := by simp [lg_cmp]
abbrev zWld (g : zG) (C X P O T U V Y S D E Xa Pa Pb Pc Pd Oa Ob Oc Od Ta Tb Tc Ua Ub Uc Va Vb Vc Ya Yb Yc Sa M Mt Mc Mp Mw My Mm Mh Mk Mo Ms Mi Mb Me Md : Nat) (k0 k1 tx ct tn nu sa be hs2 np2 nm2 nw2 hs np nm nw mi st si mj sj sk m0 s0 y0 m1 s1 y1 nd rr xa xb xo xv xh : Nat) (tb wc2 wp2 mp2 kp2 wc wp mp kp dn lf tk dj lj tj d0 l0 t0 d1 l1 t1 wr se ck pe wy wa mr mh wo wk sd kf bh er : Nat → Nat) (tr : Int64) (rf rt xf : Int32) (fb : Nat → Int32) : va_W := [(C, .inr (4, [.ref X, .ref P, .ref O, .ref T, .ref U, .ref V, .ref Y, .ref S, .ref D, .ref E, .int (nI (zHang hs np nm wc wp mp)), .int (nI k0), .int (nI k1), .long tr])), (X, .inr (3, [.ref Xa, .int (nI tx), .int (nI ct), .int (nI tn), .int (nI nu), .int (nI sa), .int (nI be)])), (Xa, .inl (g.2.1.1, 400, .inl (zf tb))), (P, .inr (1, [.ref Pa, .ref Pb, .ref Pc, .ref Pd, .int (nI hs), .int (nI np), .int (nI nm), .int (nI nw)])), (Pa, .inl (g.2.1.1, 6, .inl (zf wc))), (Pb, .inl (g.2.1.1, 96, .inl (zf wp))), (Pc, .inl (g.2.1.1, 12, .inl (zf mp))), (Pd, .inl (g.2.1.1, 18, .inl (zf kp))), (O, .inr (1, [.ref Oa, .ref Ob, .ref Oc, .ref Od, .int (nI hs2), .int (nI np2), .int (nI nm2), .int (nI nw2)])), (Oa, .inl (g.2.1.1, 6, .inl (zf wc2))), (Ob, .inl (g.2.1.1, 96, .inl (zf wp2))), (Oc, .inl (g.2.1.1, 12, .inl (zf mp2))), (Od, .inl (g.2.1.1, 18, .inl (zf kp2))), (T, .inr (0, [.ref Ta, .ref Tb, .ref Tc, .int (nI mi), .int (nI st), .int (nI si)])), (Ta, .inl (g.2.1.1, 6, .inl (zf dn))), (Tb, .inl (g.2.1.1, 6, .inl (zf lf))), (Tc, .inl (g.2.1.1, 6, .inl (zf tk))), (U, .inr (0, [.ref Ua, .ref Ub, .ref Uc, .int (nI mj), .int (nI sj), .int (nI sk)])), (Ua, .inl (g.2.1.1, 6, .inl (zf dj))), (Ub, .inl (g.2.1.1, 6, .inl (zf lj))), (Uc, .inl (g.2.1.1, 6, .inl (zf tj))), (V, .inr (0, [.ref Va, .ref Vb, .ref Vc, .int (nI m0), .int (nI s0), .int (nI y0)])), (Va, .inl (g.2.1.1, 6, .inl (zf d0))), (Vb, .inl (g.2.1.1, 6, .inl (zf l0))), (Vc, .inl (g.2.1.1, 6, .inl (zf t0))), (Y, .inr (0, [.ref Ya, .ref Yb, .ref Yc, .int (nI m1), .int (nI s1), .int (nI y1)])), (Ya, .inl (g.2.1.1, 6, .inl (zf d1))), (Yb, .inl (g.2.1.1, 6, .inl (zf l1))), (Yc, .inl (g.2.1.1, 6, .inl (zf t1))), (S, .inr (2, [.ref Sa, .int (nI nd), .int (nI rr), .int rf, .int rt])), (Sa, .inl (g.2.1.1, 20, .inl (zf wr))), (D, .inl (g.2.1.1, 241, .inl (zf (zBh hs np nm wc wp mp 0 0)))), (E, .inl (g.2.1.1, 64, .inl (zg se))), (M, .inr (5, [.long tr, .ref Mt, .int (nI tx), .ref Mc, .ref Mp, .ref Mw, .ref My, .ref Mm, .ref Mh, .ref Mk, .ref Mo, .int (nI xa), .int (nI xb), .int (nI xo), .int (nI xv), .int xf, .int (nI xh), .ref Ms, .ref Mi, .ref Mb, .ref Me, .int (nI nd), .ref Md])), (Mt, .inl (g.2.1.2.1, 400, .inl fb)), (Mc, .inl (g.2.1.1, 2, .inl (zf ck))), (Mp, .inl (g.2.1.1, 2, .inl (zf pe))), (Mw, .inl (g.2.1.1, 12, .inl (zf wy))), (My, .inl (g.2.1.1, 192, .inl (zf wa))), (Mm, .inl (g.2.1.1, 2, .inl (zf mr))), (Mh, .inl (g.2.1.1, 24, .inl (zf mh))), (Mk, .inl (g.2.1.1, 2, .inl (zf wo))), (Mo, .inl (g.2.1.1, 36, .inl (zf wk))), (Ms, .inl (g.2.1.1, 108, .inl (zf sd))), (Mi, .inl (g.2.1.2.2, 2, .inl (zf kf))), (Mb, .inl (g.2.1.1, 241, .inl (zf bh))), (Me, .inl (g.2.1.1, 64, .inl (zg er))), (Md, .inl (g.2.1.1, 20, .inl (zf wr)))]
def zKn (pP : Program) (l : Launch) (eE : Env) (s : State) (mM : MethodId) (below : List Frame) (meth : Method) (cC : Code) (b : Nat) (A : Nat → Prop) (Q : State → Prop) (g : zG) (C X P O T U V Y S D E Xa Pa Pb Pc Pd Oa Ob Oc Od Ta Tb Tc Ua Ub Uc Va Vb Vc Ya Yb Yc Sa M Mt Mc Mp Mw My Mm Mh Mk Mo Ms Mi Mb Me Md : Nat) (n pc : Nat) : Prop := ∀ (k0 k1 tx ct tn nu sa be hs2 np2 nm2 nw2 hs np nm nw mi st si mj sj sk m0 s0 y0 m1 s1 y1 nd rr xa xb xo xv xh : Nat) (tb wc2 wp2 mp2 kp2 wc wp mp kp dn lf tk dj lj tj d0 l0 t0 d1 l1 t1 wr se ck pe wy wa mr mh wo wk sd kf bh er : Nat → Nat) (tr : Int64) (rf rt xf : Int32) (fb : Nat → Int32) (H : Heap) (locs : List Loc) (ls : Array Slot), (zI1 tx tb fb) → (zPB hs np nm wc wp mp) → (zI2 nw kp) → (zI3 wc2 wp2 mp2 kp2) → (zMB hs np nm wc wp mp ck pe wy wa mr mh) → (zMW nw kp wo wk) → (∀ k, wy k ≤ 4) → (zRel 0 sd mi st si dn lf tk) → (zI4 (n + 1) np wc mi st si dn lf tk) → (zRel 54 sd m0 s0 y0 d0 l0 t0) → (k0 ≠ 0 → zI4 (n + 1) np wc m0 s0 y0 d0 l0 t0) → (zRel 81 sd m1 s1 y1 d1 l1 t1) → (k1 ≠ 0 → zI4 (n + 1) np wc m1 s1 y1 d1 l1 t1) → (k0 ≤ 1 ∧ k1 ≤ 1 ∧ kf 0 = k0 ∧ kf 1 = k1) → (nd ≤ 20 ∧ ∀ k, wr k < 10000) → (er 0 = 0) → va_P g.1 vwCl (zWld g C X P O T U V Y S D E Xa Pa Pb Pc Pd Oa Ob Oc Od Ta Tb Tc Ua Ub Uc Va Vb Vc Ya Yb Yc Sa M Mt Mc Mp Mw My Mm Mh Mk Mo Ms Mi Mb Me Md k0 k1 tx ct tn nu sa be hs2 np2 nm2 nw2 hs np nm nw mi st si mj sj sk m0 s0 y0 m1 s1 y1 nd rr xa xb xo xv xh tb wc2 wp2 mp2 kp2 wc wp mp kp dn lf tk dj lj tj d0 l0 t0 d1 l1 t1 wr se ck pe wy wa mr mh wo wk sd kf bh er tr rf rt xf fb) H → va_D A (zWld g C X P O T U V Y S D E Xa Pa Pb Pc Pd Oa Ob Oc Od Ta Tb Tc Ua Ub Uc Va Vb Vc Ya Yb Yc Sa M Mt Mc Mp Mw My Mm Mh Mk Mo Ms Mi Mb Me Md k0 k1 tx ct tn nu sa be hs2 np2 nm2 nw2 hs np nm nw mi st si mj sj sk m0 s0 y0 m1 s1 y1 nd rr xa xb xo xv xh tb wc2 wp2 mp2 kp2 wc wp mp kp dn lf tk dj lj tj d0 l0 t0 d1 l1 t1 wr se ck pe wy wa mr mh wo wk sd kf bh er tr rf rt xf fb) → va_S A s.heap H locs → lv_has ls 4 [(0, .ref b), (1, .ref C), (2, .ref M), (3, .int (nI (7 * n)))] → W pP l eE room_1 s mM #[.ref b] below meth cC H locs 48 2257 Q (F0 mM pc ls [])
theorem zGo_np {hs np nm : Nat} {wc wp mp : Nat → Nat} {si mi : Nat} {z : Nat × (Nat → Nat) × (Nat → Nat) × (Nat → Nat)} {p : Nat} (h : np ≤ p) : ∀ t, (zGo hs np nm wc wp mp si mi z t).2.2.1 p = z.2.2.1 p
  | 0 => rfl
  | t + 1 => by
    have e := zGo_np (hs := hs) (nm := nm) (wc := wc) (wp := wp) (mp := mp) (si := si) (mi := mi) (z := z) h t
    rw [← e, zGo]
    generalize zGo hs np nm wc wp mp si mi z t = y
    show zNew si np _ y.2.2.1 p = y.2.2.1 p
    rw [zNew]
    exact if_neg (fun q => absurd q.1 (Nat.not_lt.mpr h))
theorem zGoN_m {mi : Nat} (h : mi ≤ 240) (x : Int32) : mi + zGoN mi x ≤ 240 := by
  rw [zGoN]
  split
  · have := Nat.min_le_right x.toInt.toNat (240 - mi)
    omega
  · omega
theorem zI4_go {n hs np nm : Nat} {wc wp mp : Nat → Nat} {mi st si : Nat} {dn lf tk : Nat → Nat} (hp : zPB hs np nm wc wp mp) (h : zI4 n np wc mi st si dn lf tk) (x : Int32) : zI4 (n + 1) np wc (mi + zGoN mi x) (zGo hs np nm wc wp mp si mi (st, dn, lf, tk) (zGoN mi x)).1 si (zGo hs np nm wc wp mp si mi (st, dn, lf, tk) (zGoN mi x)).2.1 (zGo hs np nm wc wp mp si mi (st, dn, lf, tk) (zGoN mi x)).2.2.1 (zGo hs np nm wc wp mp si mi (st, dn, lf, tk) (zGoN mi x)).2.2.2 := by
  obtain ⟨h1, h2, h3, h4, h5, h6⟩ := h
  obtain ⟨g1, g2, g3⟩ := zGo_ok (hs := hs) (np := np) (nm := nm) (wc := wc) (wp := wp) (mp := mp) (si := si) (mi := mi) (st := st) hp.2.1 hp.2.2.1 hp.2.2.2.2.1 hp.2.2.2.2.2.1 h1 h2 (zGoN mi x)
  refine ⟨g1, fun p => Nat.le_trans (g2 p) (by omega), zGoN_m h3 x, Nat.le_trans g3 (by omega), h5, fun p hq => ?_⟩
  rw [zGo_np hq]
  exact h6 p hq
theorem zHf_MB {hs np nm : Nat} {wc wp mp ck pe wy wa mr mh wo wk ck9 pe9 wy9 wa9 mr9 mh9 wo9 wk9 : Nat → Nat} (hp : zPB hs np nm wc wp mp) (h : zHf ck pe wy wa mr mh wo wk ck9 pe9 wy9 wa9 mr9 mh9 wo9 wk9) (k : zMB hs np nm wc wp mp ck pe wy wa mr mh) : zMB hs np nm wc wp mp ck9 pe9 wy9 wa9 mr9 mh9 := by
  obtain ⟨h1, h2, h3, h4, h5, h6, h7, h8⟩ := h
  obtain ⟨k1, k2, k3, k4, k5, k6⟩ := k
  obtain ⟨-, p2, p3, p4, -, -, -⟩ := hp
  refine ⟨h1.trans k1, h2.trans k2, h5.trans k3, fun p hq => (h3 p (by omega)).trans (k4 p hq), fun p hq i hi j hj => ?_, fun m hm j hj => ?_⟩
  · have := p4 p
    rw [h4 _ (by omega)]
    exact k5 p hq i hi j hj
  · rw [h6 _ (by omega)]
    exact k6 m hm j hj
theorem zHf_MW {nw : Nat} {kp ck pe wy wa mr mh wo wk ck9 pe9 wy9 wa9 mr9 mh9 wo9 wk9 : Nat → Nat} (hp : nw ≤ 6) (h : zHf ck pe wy wa mr mh wo wk ck9 pe9 wy9 wa9 mr9 mh9 wo9 wk9) (k : zMW nw kp wo wk) : zMW nw kp wo9 wk9 := by
  obtain ⟨h1, h2, h3, h4, h5, h6, h7, h8⟩ := h
  obtain ⟨k1, k2⟩ := k
  refine ⟨h7.trans k1, fun m hm j hj => ?_⟩
  rw [h8 _ (by omega)]
  exact k2 m hm j hj
theorem zWay_eq {hs np nm : Nat} {wc wp mp ck pe wy wa mr mh : Nat → Nat} (k : zMB hs np nm wc wp mp ck pe wy wa mr mh) (x y w : Int32) : zWay np wc wp x y w = (if (0 ≤ x.toInt ∧ x.toInt < (pe 0 : Int)) ∧ (0 ≤ y.toInt ∧ y.toInt < (wy x.toInt.toNat : Int)) ∧ 0 ≤ w.toInt ∧ w.toInt ≤ 3 then nI (wa (16 * x.toInt.toNat + 4 * y.toInt.toNat + w.toInt.toNat)) else -1) := by
  obtain ⟨-, k2, -, k4, k5, -⟩ := k
  rw [zWay, k2]
  by_cases q : 0 ≤ x.toInt ∧ x.toInt < (np : Int)
  · have e := k4 x.toInt.toNat (by omega)
    rw [e]
    by_cases q2 : (0 ≤ x.toInt ∧ x.toInt < (np : Int)) ∧ (0 ≤ y.toInt ∧ y.toInt < (wc x.toInt.toNat : Int)) ∧ 0 ≤ w.toInt ∧ w.toInt ≤ 3
    · rw [if_pos q2, if_pos q2, k5 x.toInt.toNat (by omega) y.toInt.toNat (by omega) w.toInt.toNat (by omega)]
    · rw [if_neg q2, if_neg q2]
  · rw [if_neg (fun z => q z.1), if_neg (fun z => q z.1)]
theorem zPart_eq {np : Nat} {kp wo wk : Nat → Nat} (k1 : wo 0 = np) (k2 : ∀ w, w < np → ∀ j, j < 3 → wk (3 * w + j) = kp (3 * w + j)) (x w : Int32) : zPart np kp x w = (if (0 ≤ x.toInt ∧ x.toInt < (wo 0 : Int)) ∧ 0 ≤ w.toInt ∧ w.toInt ≤ 2 then nI (wk (3 * x.toInt.toNat + w.toInt.toNat)) else -1) := by
  rw [zPart, k1]
  by_cases q2 : (0 ≤ x.toInt ∧ x.toInt < (np : Int)) ∧ 0 ≤ w.toInt ∧ w.toInt ≤ 2
  · rw [if_pos q2, if_pos q2, k2 x.toInt.toNat (by omega) w.toInt.toNat (by omega)]
  · rw [if_neg q2, if_neg q2]
