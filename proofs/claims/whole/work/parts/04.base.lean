/-! BASE: the shape of a contract here, its body, its calls; ints that are naturals -/
abbrev zG : Type := va_G × (ClassId × ClassId × ClassId) × (Nat → Nat) × (Nat → Nat)
abbrev zT (g : zG) : List (ClassId × FieldType) := [(g.2.1.1, .int), (g.2.1.2.1, .byte), (g.2.1.2.2, .boolean)]
def zNs : List Cond := [.fieldLinkNest RX4 60 RX3 "length" "I" RX4, .fieldLinkNest RX3 80 RX1 "hourSteps" "I" RX4, .fieldLinkNest RX4 172 RX1 "hourSteps" "I" RX4, .fieldLinkNest RX0 44 RX1 "people" "I" RX4, .fieldLinkNest RX4 256 RX1 "people" "I" RX4, .fieldLinkNest RX4 101 RX1 "marches" "I" RX4, .fieldLinkNest RX4 259 RX1 "works" "I" RX4, .fieldLinkNest RX4 115 RX0 "minute" "I" RX4, .fieldLinkNest RX4 118 RX0 "steps" "I" RX4, .fieldLinkNest RX4 124 RX0 "sitting" "I" RX4, .fieldLinkNest RX4 217 RX2 "days" "I" RX4, .fieldLinkNest RX4 225 RX2 "rows" "I" RX4, .fieldLinkNest RX4 228 RX2 "rowFrom" "I" RX4, .fieldLinkNest RX4 231 RX2 "rowTo" "I" RX4, .methodLinkNest RX1 37 yX4_copyRow RX4, .methodLinkNest RX0 31 yX4_copyRow RX4]
def zN (U : State) : Prop := ∀ w ∈ zNs, va_Nw w U
theorem zN.warm {s U : State} (hW : s.WarmedH U.vm) (h : zN s) : zN U := by
  intro w hw
  have h1 := h w hw
  simp only [zNs, List.mem_cons, List.not_mem_nil, or_false] at hw
  rcases hw with rfl | rfl | rfl | rfl | rfl | rfl | rfl | rfl | rfl | rfl | rfl | rfl | rfl | rfl | rfl | rfl
  all_goals first | exact va_Nw.warmF hW h1 | exact va_Nw.warmM hW h1
theorem zN.same {u U : State} (hv : u.vm = U.vm) (h : zN u) : zN U := by
  intro w hw
  have h1 := h w hw
  simp only [zNs, List.mem_cons, List.not_mem_nil, or_false] at hw
  rcases hw with rfl | rfl | rfl | rfl | rfl | rfl | rfl | rfl | rfl | rfl | rfl | rfl | rfl | rfl | rfl | rfl
  all_goals exact va_Nw.same rfl hv h1
def zStr : List (Nat × String) := [(44, "clock"), (53, "person"), (58, "go"), (64, "wait"), (66, "march"), (71, "work"), (107, "fire"), (109, "hours")]
def zLen : List Nat := [5, 6, 2, 4, 5, 4, 4, 5]
def zByt : List (List Int32) := [[99, 108, 111, 99, 107], [112, 101, 114, 115, 111, 110], [103, 111], [119, 97, 105, 116], [109, 97, 114, 99, 104], [119, 111, 114, 107], [102, 105, 114, 101], [104, 111, 117, 114, 115]]
def zR (g : zG) (U : State) : Prop := ∀ (i : Nat) (q : Nat × String), zStr[i]? = some q → vk_R RX3 q.1 q.2 (g.2.2.1 i) U
def zK (g : zG) (U : State) : Prop := va_K g.1 vwCl (zT g) U ∧ zN U ∧ zR g U
def zE (g : zG) (A : Nat → Prop) (U : State) (H : Heap) : Prop := vk_S 8 zLen zByt g.2.2.1 g.2.2.2 A U H
theorem zK.warm {g : zG} {s U : State} (hW : s.WarmedH U.vm) (h : zK g s) : zK g U := ⟨va_K.moved hW.alike h.1, h.2.1.warm hW, fun i q hq => vk_R.warm hW (h.2.2 i q hq)⟩
theorem zK.same {g : zG} {u U : State} (hv : u.vm = U.vm) (h : zK g u) : zK g U := ⟨va_K.moved (by rw [hv]; exact Vm.Alike.refl _) h.1, h.2.1.same hv, fun i q hq => vk_R.same hv.symm (h.2.2 i q hq)⟩
/-- a method's start: its world, and what the tables say -/
def zB (g : zG) (ws : va_W) (sz : Nat) (U : State) : Prop := U.heap.size = sz ∧ va_P g.1 vwCl ws U.heap ∧ zK g U ∧ va_D (fun _ => True) ws ∧ zE g (va_A ws sz) U U.heap
/-- a method's end -/
def zO (g : zG) (A : Nat → Prop) (ws : va_W) (t : State) : Prop := va_P g.1 vwCl ws t.heap ∧ va_D A ws
theorem zB.blind {g : zG} {args : List Value} {ws : va_W} {sz : Nat} : FrameBlind (va_Pc args (zB g ws sz)) := fun a U f mk q => by
  obtain ⟨h1, h2, h3, h4, h5, h6⟩ := q
  exact ⟨h1, h2, h3, zK.same (u := U) (U := U.calling f mk a) rfl h4, h5, vk_S.moved (u := U) (U := U.calling f mk a) (Vm.Alike.refl U.vm) h6⟩
/-- contracts: an int (or boolean), a long, nothing is answered -/
def zI (l : Launch) (y : MethodName) (wsY : List Cond) (fr lo : Nat) (g : zG) (args : List Value) (ws : va_W) {S : Type} (post : Int32 → S → Prop) (w2 : S → va_W) : Prop :=
  ∀ sz : Nat, Met l y wsY { frames := fr, cells := 0, slots := 0, locals := lo } (va_Pc args (zB g ws sz)) (va_Qi post (fun u t => zO g (va_A ws sz) (w2 u) t) (va_A ws sz)) 0 0 (va_A ws sz)
def zJ (l : Launch) (y : MethodName) (wsY : List Cond) (fr lo : Nat) (g : zG) (args : List Value) (ws : va_W) {S : Type} (post : Int64 → S → Prop) (w2 : S → va_W) : Prop :=
  ∀ sz : Nat, Met l y wsY { frames := fr, cells := 0, slots := 0, locals := lo } (va_Pc args (zB g ws sz)) (va_Ql post (fun u t => zO g (va_A ws sz) (w2 u) t) (va_A ws sz)) 0 0 (va_A ws sz)
def zV (l : Launch) (y : MethodName) (wsY : List Cond) (fr lo mc ms : Nat) (g : zG) (args : List Value) (ws : va_W) {S : Type} (post : S → Prop) (w2 : S → va_W) : Prop :=
  ∀ sz : Nat, Met l y wsY { frames := fr, cells := mc, slots := ms, locals := lo } (va_Pc args (zB g ws sz)) (va_Qv post (fun u t => zO g (va_A ws sz) (w2 u) t) (va_A ws sz)) mc ms (va_A ws sz)
theorem zz_bodyI {l : Launch} {y : MethodName} {wsY wsY' : List Cond} {fr lo : Nat} {g : zG} {args : List Value} {ws : va_W} {S : Type} {post : Int32 → S → Prop} {w2 : S → va_W} {cc : ByteArray} {nL : Nat} {own : String} {ty : FieldType}
    (hy : plainName y.cls = true) (hown : y.cls = own) (hw : wsY = Cond.code y cc nL (some ty) :: wsY') (hn : (lg_sl args).length ≤ nL)
    (h : ∀ (p : Program) (e : Env) (s : State) (m : MethodId) (below : List Frame) (meth : Method) (c : Code) (A : Nat → Prop) (Q : State → Prop) (ls : Array Slot), CallFix p m c cc nL s args.toArray wsY own → (∀ q, s.heap.size ≤ q → A q) → zK g s → zE g A s s.heap → va_P g.1 vwCl ws s.heap → va_D A ws → lv_has ls nL (lv_args 0 args) →
      (∀ (pc : Nat) (H : Heap) (locs : List Loc) (ls : Array Slot) (v : Int32) (u : S), decode cc pc = .ok (.ireturn, 1) → narrow ty (.int v) = .int v → va_P g.1 vwCl (w2 u) H → va_D A (w2 u) → va_S A s.heap H locs → post v u → W p l e { frames := fr, cells := 0, slots := 0, locals := lo } s m args.toArray below meth c H locs 0 0 Q (F0 m pc ls [.int v])) →
      W p l e { frames := fr, cells := 0, slots := 0, locals := lo } s m args.toArray below meth c s.heap [] 0 0 Q (F0 m 0 ls [])) : zI l y wsY fr lo g args ws post w2 := by
  intro sz
  refine Met.ofW (cc := cc) (maxL := nL) (ret := some ty) hy hw ?_
  intro p e s m args1 below meth c s₁ B hml hv
  obtain ⟨rfl, hsz, hP, hK, hD0, hE⟩ := hv
  have hx := B.exec
  have hb := B.bytes
  have hr := B.returns
  have hts := atoms_spec (ws := wsY) B.pre
  have ho : s.vm.findClass own = some m.cls := by rw [← hown]; exact findClass_of_methodNamed B.named
  have hlocks := B.notSynchronized
  subst hsz
  have hD := hD0.self (sz := s.heap.size)
  have hl := lv_entry args (n := nL) hn
  rw [lg_entry_eq]
  generalize (lg_sl args ++ List.replicate (nL - (lg_sl args).length) Slot.unset).toArray = ls at hl ⊢
  refine h p e s m below meth c (va_A ws s.heap.size) _ ls ⟨hx, hb, hml, ho, hts⟩ (fun q hq => Or.inr hq) hK hE hP hD hl ?_
  intro pc H locs ls v u hd hn2 hP hD hS hp
  exact W.zret (ty := ty) hx hb hr hn2 (fun t ht hW => ⟨⟨v, u, rfl, hp, by rw [ht]; exact hP, hD⟩, hS.F ht⟩) hS.2.2 hd
theorem zz_bodyJ {l : Launch} {y : MethodName} {wsY wsY' : List Cond} {fr lo : Nat} {g : zG} {args : List Value} {ws : va_W} {S : Type} {post : Int64 → S → Prop} {w2 : S → va_W} {cc : ByteArray} {nL : Nat} {own : String}
    (hy : plainName y.cls = true) (hown : y.cls = own) (hw : wsY = Cond.code y cc nL (some .long) :: wsY') (hn : (lg_sl args).length ≤ nL)
    (h : ∀ (p : Program) (e : Env) (s : State) (m : MethodId) (below : List Frame) (meth : Method) (c : Code) (A : Nat → Prop) (Q : State → Prop) (ls : Array Slot), CallFix p m c cc nL s args.toArray wsY own → (∀ q, s.heap.size ≤ q → A q) → zK g s → zE g A s s.heap → va_P g.1 vwCl ws s.heap → va_D A ws → lv_has ls nL (lv_args 0 args) →
      (∀ (pc : Nat) (H : Heap) (locs : List Loc) (ls : Array Slot) (v : Int64) (u : S), decode cc pc = .ok (.lreturn, 1) → va_P g.1 vwCl (w2 u) H → va_D A (w2 u) → va_S A s.heap H locs → post v u → W p l e { frames := fr, cells := 0, slots := 0, locals := lo } s m args.toArray below meth c H locs 0 0 Q (F0 m pc ls [.long v])) →
      W p l e { frames := fr, cells := 0, slots := 0, locals := lo } s m args.toArray below meth c s.heap [] 0 0 Q (F0 m 0 ls [])) : zJ l y wsY fr lo g args ws post w2 := by
  intro sz
  refine Met.ofW (cc := cc) (maxL := nL) (ret := some .long) hy hw ?_
  intro p e s m args1 below meth c s₁ B hml hv
  obtain ⟨rfl, hsz, hP, hK, hD0, hE⟩ := hv
  have hx := B.exec
  have hb := B.bytes
  have hr := B.returns
  have hts := atoms_spec (ws := wsY) B.pre
  have ho : s.vm.findClass own = some m.cls := by rw [← hown]; exact findClass_of_methodNamed B.named
  have hlocks := B.notSynchronized
  subst hsz
  have hD := hD0.self (sz := s.heap.size)
  have hl := lv_entry args (n := nL) hn
  rw [lg_entry_eq]
  generalize (lg_sl args ++ List.replicate (nL - (lg_sl args).length) Slot.unset).toArray = ls at hl ⊢
  refine h p e s m below meth c (va_A ws s.heap.size) _ ls ⟨hx, hb, hml, ho, hts⟩ (fun q hq => Or.inr hq) hK hE hP hD hl ?_
  intro pc H locs ls v u hd hP hD hS hp
  exact W.lret hx hb hr (fun t ht hW => ⟨⟨v, u, rfl, hp, by rw [ht]; exact hP, hD⟩, hS.F ht⟩) hS.2.2 hd
theorem zz_bodyV {l : Launch} {y : MethodName} {wsY wsY' : List Cond} {fr lo mc ms : Nat} {g : zG} {args : List Value} {ws : va_W} {S : Type} {post : S → Prop} {w2 : S → va_W} {cc : ByteArray} {nL : Nat} {own : String}
    (hy : plainName y.cls = true) (hown : y.cls = own) (hw : wsY = Cond.code y cc nL none :: wsY') (hn : (lg_sl args).length ≤ nL)
    (h : ∀ (p : Program) (e : Env) (s : State) (m : MethodId) (below : List Frame) (meth : Method) (c : Code) (A : Nat → Prop) (Q : State → Prop) (ls : Array Slot), CallFix p m c cc nL s args.toArray wsY own → (y.name = "<init>" → meth.name = "<init>") → (∀ q, s.heap.size ≤ q → A q) → zK g s → zE g A s s.heap → va_P g.1 vwCl ws s.heap → va_D A ws → lv_has ls nL (lv_args 0 args) →
      (∀ (pc : Nat) (H : Heap) (locs : List Loc) (ls : Array Slot) (u : S), decode cc pc = .ok (.return_, 1) → va_P g.1 vwCl (w2 u) H → va_D A (w2 u) → va_S A s.heap H locs → post u → W p l e { frames := fr, cells := mc, slots := ms, locals := lo } s m args.toArray below meth c H locs mc ms Q (F0 m pc ls [])) →
      W p l e { frames := fr, cells := mc, slots := ms, locals := lo } s m args.toArray below meth c s.heap [] 0 0 Q (F0 m 0 ls [])) : zV l y wsY fr lo mc ms g args ws post w2 := by
  intro sz
  refine Met.ofW (cc := cc) (maxL := nL) (ret := none) hy hw ?_
  intro p e s m args1 below meth c s₁ B hml hv
  obtain ⟨rfl, hsz, hP, hK, hD0, hE⟩ := hv
  have hx := B.exec
  have hb := B.bytes
  have hr := B.returns
  have hts := atoms_spec (ws := wsY) B.pre
  have ho : s.vm.findClass own = some m.cls := by rw [← hown]; exact findClass_of_methodNamed B.named
  have hlocks := B.notSynchronized
  have hin : y.name = "<init>" → meth.name = "<init>" := fun hq => by rw [← hq]; exact (name_of_methodNamed B.named B.method).1
  subst hsz
  have hD := hD0.self (sz := s.heap.size)
  have hl := lv_entry args (n := nL) hn
  rw [lg_entry_eq]
  generalize (lg_sl args ++ List.replicate (nL - (lg_sl args).length) Slot.unset).toArray = ls at hl ⊢
  refine h p e s m below meth c (va_A ws s.heap.size) _ ls ⟨hx, hb, hml, ho, hts⟩ hin (fun q hq => Or.inr hq) hK hE hP hD hl ?_
  intro pc H locs ls u hd hP hD hS hp
  exact W.vret hx hb hr (fun t ht hW => ⟨⟨u, rfl, hp, by rw [ht]; exact hP, hD⟩, hS.F ht⟩) hS.2.2 hd
theorem zz_fm {ws wc : va_W} {is : List Nat} (h : is.map (fun i => ws[i]?) = wc.map some) : is.filterMap (fun i => ws[i]?) = wc := by
  have e : is.filterMap (fun i => ws[i]?) = (is.map (fun i => ws[i]?)).filterMap id := by rw [List.filterMap_map]; rfl
  rw [e, h, List.filterMap_map]
  simp
theorem zz_pre {s : State} {g : zG} {A : Nat → Prop} {ws wc : va_W} {H : Heap} {locs : List Loc} {av : List Value} {isC : List Nat} (hK : zK g s) (hE : zE g A s s.heap) (hA : ∀ q, s.heap.size ≤ q → A q) (hP : va_P g.1 vwCl ws H) (hD : va_D A ws) (hS : va_S A s.heap H locs) (hC : isC.map (fun i => ws[i]?) = wc.map some) (hn : va_nd isC = true)
    {U : State} (hU : U.heap = H) (hW : s.WarmedH U.vm) : va_Pc av (zB g wc H.size) av.toArray U := by
  have hPc := hP.sub (ws' := wc) isC (zz_fm hC)
  have hDc := hD.sub (ws' := wc) isC hn hC
  have hFc := va_free (wc := wc) hD hS hA isC hC
  exact ⟨rfl, by rw [hU], by rw [hU]; exact hPc, hK.warm hW, hDc.weaken (fun _ _ _ _ => trivial), by rw [hU]; exact ((vk_S.kept hE hS.2.1).narrow hFc).moved hW.alike⟩
section ZC
variable {p : Program} {l : Launch} {e : Env} {R : Room} {s : State} {m : MethodId} {args : Array Value} {below : List Frame} {meth : Method} {c : Code} {H : Heap} {locs : List Loc} {cells slots : Nat} {Q : State → Prop}
variable {cc : ByteArray} {pc nL : Nat} {ls : Array Slot} {rest st : List Value} {A : Nat → Prop} {own : String} {Ts : List Cond} {g : zG} {ws wc wr : va_W} {y : MethodName} {wsY : List Cond} {fr lo maxL index n mc ms : Nat} {bytes : ByteArray} {ret : Option FieldType} {b : Nat} {As : List Value} {S : Type} {w2 : S → va_W} {C : String}
theorem zz_callI {post : Int32 → S → Prop} (F : CallFix p m c cc nL s args Ts own) (hK : zK g s) (hE : zE g A s s.heap) (hA : ∀ q, s.heap.size ≤ q → A q) (hP : va_P g.1 vwCl ws H) (hD : va_D A ws) (hS : va_S A s.heap H locs)
    (hM : zI l y wsY fr lo g (.ref b :: As) wc post w2) (cw : CallW R s args own C index y bytes maxL ret wsY { frames := fr, cells := 0, slots := 0, locals := lo } 0 0 n)
    (isC isR : List Nat) (hC : isC.map (fun i => ws[i]?) = wc.map some) (hR : isR.map (fun i => ws[i]?) = wr.map some) (hn : va_nd isC = true) (hn2 : va_nd isR = true) (hdis : ∀ i ∈ isR, i ∉ isC)
    (ci q0 : Nat) {cq : vw_C} {fs : List Value} (hc : vwCl[ci]? = some cq) (hcq : cq.1 = C) (he : wc[q0]? = some (b, .inr (ci, fs)))
    (hst : st = As.reverse ++ .ref b :: rest) (hnl : As.length = n) (hsize : ls.size = nL) (hroom : (rest.map fun v => v.category).sum ≤ 8) (hdg : decode cc pc = .ok (.invokevirtual index, 3)) (hf : cells ≤ R.cells ∧ slots ≤ R.slots)
    (kk : ∀ (r : Int32) (u : S) (H1 : Heap) (locs1 : List Loc), post r u → va_P g.1 vwCl (wr ++ w2 u) H1 → va_D A (wr ++ w2 u) → va_S A s.heap H1 locs1 → W p l e R s m args below meth c H1 locs1 cells slots Q (F0 m (pc + 3) ls (.int r :: rest))) :
    W p l e R s m args below meth c H locs cells slots Q (F0 m pc ls st) := by
  have hPc := hP.sub (ws' := wc) isC (zz_fm hC)
  have hFc := va_free (wc := wc) hD hS hA isC hC
  subst hcq
  refine va_calli (va_runV (As := As) (rest := rest) F (hM H.size) cw ⟨zB.blind, va_recv hK.1 hPc (ci := ci) (q0 := q0) hc he, fun U hU hW => zz_pre hK hE hA hP hD hS hC hn hU hW⟩ rfl hnl hsize hst (lv_room hroom) hdg hf) hS (fun q _ h => hFc q h) hFc (fun r u t H1 locs1 ht hvm hw hB hz1 hk1 hS => ?_)
  obtain ⟨hP1, hD1⟩ := hB
  rw [ht] at hP1
  obtain ⟨hP, hD⟩ := va_join hP hD isC isR hC hR hn2 hdis hk1 hFc hP1 hD1
  exact kk r u H1 locs1 hw hP hD hS
theorem zz_callJ {post : Int64 → S → Prop} (F : CallFix p m c cc nL s args Ts own) (hK : zK g s) (hE : zE g A s s.heap) (hA : ∀ q, s.heap.size ≤ q → A q) (hP : va_P g.1 vwCl ws H) (hD : va_D A ws) (hS : va_S A s.heap H locs)
    (hM : zJ l y wsY fr lo g (.ref b :: As) wc post w2) (cw : CallW R s args own C index y bytes maxL ret wsY { frames := fr, cells := 0, slots := 0, locals := lo } 0 0 n)
    (isC isR : List Nat) (hC : isC.map (fun i => ws[i]?) = wc.map some) (hR : isR.map (fun i => ws[i]?) = wr.map some) (hn : va_nd isC = true) (hn2 : va_nd isR = true) (hdis : ∀ i ∈ isR, i ∉ isC)
    (ci q0 : Nat) {cq : vw_C} {fs : List Value} (hc : vwCl[ci]? = some cq) (hcq : cq.1 = C) (he : wc[q0]? = some (b, .inr (ci, fs)))
    (hst : st = As.reverse ++ .ref b :: rest) (hnl : As.length = n) (hsize : ls.size = nL) (hroom : (rest.map fun v => v.category).sum ≤ 8) (hdg : decode cc pc = .ok (.invokevirtual index, 3)) (hf : cells ≤ R.cells ∧ slots ≤ R.slots)
    (kk : ∀ (r : Int64) (u : S) (H1 : Heap) (locs1 : List Loc), post r u → va_P g.1 vwCl (wr ++ w2 u) H1 → va_D A (wr ++ w2 u) → va_S A s.heap H1 locs1 → W p l e R s m args below meth c H1 locs1 cells slots Q (F0 m (pc + 3) ls (.long r :: rest))) :
    W p l e R s m args below meth c H locs cells slots Q (F0 m pc ls st) := by
  have hPc := hP.sub (ws' := wc) isC (zz_fm hC)
  have hFc := va_free (wc := wc) hD hS hA isC hC
  subst hcq
  refine va_calll (va_runV (As := As) (rest := rest) F (hM H.size) cw ⟨zB.blind, va_recv hK.1 hPc (ci := ci) (q0 := q0) hc he, fun U hU hW => zz_pre hK hE hA hP hD hS hC hn hU hW⟩ rfl hnl hsize hst (lv_room hroom) hdg hf) hS (fun q _ h => hFc q h) hFc (fun r u t H1 locs1 ht hvm hw hB hz1 hk1 hS => ?_)
  obtain ⟨hP1, hD1⟩ := hB
  rw [ht] at hP1
  obtain ⟨hP, hD⟩ := va_join hP hD isC isR hC hR hn2 hdis hk1 hFc hP1 hD1
  exact kk r u H1 locs1 hw hP hD hS
theorem zz_callV {post : S → Prop} (F : CallFix p m c cc nL s args Ts own) (hK : zK g s) (hE : zE g A s s.heap) (hA : ∀ q, s.heap.size ≤ q → A q) (hP : va_P g.1 vwCl ws H) (hD : va_D A ws) (hS : va_S A s.heap H locs)
    (hM : zV l y wsY fr lo 0 0 g (.ref b :: As) wc post w2) (cw : CallW R s args own C index y bytes maxL ret wsY { frames := fr, cells := 0, slots := 0, locals := lo } 0 0 n)
    (isC isR : List Nat) (hC : isC.map (fun i => ws[i]?) = wc.map some) (hR : isR.map (fun i => ws[i]?) = wr.map some) (hn : va_nd isC = true) (hn2 : va_nd isR = true) (hdis : ∀ i ∈ isR, i ∉ isC)
    (ci q0 : Nat) {cq : vw_C} {fs : List Value} (hc : vwCl[ci]? = some cq) (hcq : cq.1 = C) (he : wc[q0]? = some (b, .inr (ci, fs)))
    (hst : st = As.reverse ++ .ref b :: rest) (hnl : As.length = n) (hsize : ls.size = nL) (hroom : (rest.map fun v => v.category).sum ≤ 8) (hdg : decode cc pc = .ok (.invokevirtual index, 3)) (hf : cells ≤ R.cells ∧ slots ≤ R.slots)
    (kk : ∀ (u : S) (H1 : Heap) (locs1 : List Loc), post u → va_P g.1 vwCl (wr ++ w2 u) H1 → va_D A (wr ++ w2 u) → va_S A s.heap H1 locs1 → W p l e R s m args below meth c H1 locs1 cells slots Q (F0 m (pc + 3) ls rest)) :
    W p l e R s m args below meth c H locs cells slots Q (F0 m pc ls st) := by
  have hPc := hP.sub (ws' := wc) isC (zz_fm hC)
  have hFc := va_free (wc := wc) hD hS hA isC hC
  subst hcq
  refine va_callv (va_runV (As := As) (rest := rest) F (hM H.size) cw ⟨zB.blind, va_recv hK.1 hPc (ci := ci) (q0 := q0) hc he, fun U hU hW => zz_pre hK hE hA hP hD hS hC hn hU hW⟩ rfl hnl hsize hst (lv_room hroom) hdg hf) hS (fun q _ h => hFc q h) hFc (fun u t H1 locs1 ht hvm hw hB hz1 hk1 hS => ?_)
  obtain ⟨hP1, hD1⟩ := hB
  rw [ht] at hP1
  obtain ⟨hP, hD⟩ := va_join hP hD isC isR hC hR hn2 hdis hk1 hFc hP1 hD1
  exact kk u H1 locs1 hw hP hD hS
theorem zz_callN {post : S → Prop} (F : CallFix p m c cc nL s args Ts own) (hK : zK g s) (hE : zE g A s s.heap) (hA : ∀ q, s.heap.size ≤ q → A q) (hP : va_P g.1 vwCl ws H) (hD : va_D A ws) (hS : va_S A s.heap H locs)
    (hM : zV l y wsY fr lo mc ms g (.ref b :: As) wc post w2) (cw : CallB R s args own index y bytes maxL none wsY { frames := fr, cells := mc, slots := ms, locals := lo } mc ms n ∧ y.name = "<init>" ∧ (Cond.instanceMethod y).before args s = true)
    (isC isR : List Nat) (hC : isC.map (fun i => ws[i]?) = wc.map some) (hR : isR.map (fun i => ws[i]?) = wr.map some) (hn : va_nd isC = true) (hn2 : va_nd isR = true) (hdis : ∀ i ∈ isR, i ∉ isC)
    (hst : st = As.reverse ++ .ref b :: rest) (hnl : As.length = n) (hsize : ls.size = nL) (hroom : (rest.map fun v => v.category).sum ≤ 8) (hdg : decode cc pc = .ok (.invokespecial index, 3)) (hf : cells + mc ≤ R.cells ∧ slots + ms ≤ R.slots)
    (kk : ∀ (u : S) (H1 : Heap) (locs1 : List Loc), post u → va_P g.1 vwCl (wr ++ w2 u) H1 → va_D A (wr ++ w2 u) → va_S A s.heap H1 locs1 → W p l e R s m args below meth c H1 locs1 (cells + mc) (slots + ms) Q (F0 m (pc + 3) ls rest)) :
    W p l e R s m args below meth c H locs cells slots Q (F0 m pc ls st) := by
  have hFc := va_free (wc := wc) hD hS hA isC hC
  refine va_callv (va_runI (As := As) (rest := rest) F (hM H.size) cw ⟨zB.blind, fun U hU hW => zz_pre hK hE hA hP hD hS hC hn hU hW⟩ rfl hnl hsize hst (lv_room hroom) hdg hf) hS (fun q _ h => hFc q h) hFc (fun u t H1 locs1 ht hvm hw hB hz1 hk1 hS => ?_)
  obtain ⟨hP1, hD1⟩ := hB
  rw [ht] at hP1
  obtain ⟨hP, hD⟩ := va_join hP hD isC isR hC hR hn2 hdis hk1 hFc hP1 hD1
  exact kk u H1 locs1 hw hP hD hS
/-- a static method, with a world of its own -/
theorem zz_callSI {post : Int32 → S → Prop} (F : CallFix p m c cc nL s args Ts own) (hK : zK g s) (hE : zE g A s s.heap) (hA : ∀ q, s.heap.size ≤ q → A q) (hP : va_P g.1 vwCl ws H) (hD : va_D A ws) (hS : va_S A s.heap H locs)
    (hM : zI l y wsY fr lo g As wc post w2) (cw : CallB R s args own index y bytes maxL ret wsY { frames := fr, cells := 0, slots := 0, locals := lo } 0 0 n ∧ (Cond.static y).before args s = true)
    (isC isR : List Nat) (hC : isC.map (fun i => ws[i]?) = wc.map some) (hR : isR.map (fun i => ws[i]?) = wr.map some) (hn : va_nd isC = true) (hn2 : va_nd isR = true) (hdis : ∀ i ∈ isR, i ∉ isC)
    (hst : st = As.reverse ++ rest) (hnl : As.length = n) (hsize : ls.size = nL) (hroom : (rest.map fun v => v.category).sum ≤ 8) (hdg : decode cc pc = .ok (.invokestatic index, 3)) (hf : cells ≤ R.cells ∧ slots ≤ R.slots)
    (kk : ∀ (r : Int32) (u : S) (H1 : Heap) (locs1 : List Loc), post r u → va_P g.1 vwCl (wr ++ w2 u) H1 → va_D A (wr ++ w2 u) → va_S A s.heap H1 locs1 → W p l e R s m args below meth c H1 locs1 cells slots Q (F0 m (pc + 3) ls (.int r :: rest))) :
    W p l e R s m args below meth c H locs cells slots Q (F0 m pc ls st) := by
  have hFc := va_free (wc := wc) hD hS hA isC hC
  refine va_calli (va_runS (As := As) (rest := rest) F (hM H.size) cw ⟨zB.blind, fun U hU hW => zz_pre hK hE hA hP hD hS hC hn hU hW⟩ rfl hnl hsize hst (lv_room hroom) hdg hf) hS (fun q _ h => hFc q h) hFc (fun r u t H1 locs1 ht hvm hw hB hz1 hk1 hS => ?_)
  obtain ⟨hP1, hD1⟩ := hB
  rw [ht] at hP1
  obtain ⟨hP, hD⟩ := va_join hP hD isC isR hC hR hn2 hdis hk1 hFc hP1 hD1
  exact kk r u H1 locs1 hw hP hD hS
/-- a static method of a nest mate, nothing answered -/
theorem zz_callSN {host : String} {post : S → Prop} (F : CallFix p m c cc nL s args Ts own) (hK : zK g s) (hE : zE g A s s.heap) (hA : ∀ q, s.heap.size ≤ q → A q) (hP : va_P g.1 vwCl ws H) (hD : va_D A ws) (hS : va_S A s.heap H locs)
    (hM : zV l y wsY fr lo 0 0 g As wc post w2) (cw : va_CN R s args own index y host bytes maxL ret wsY { frames := fr, cells := 0, slots := 0, locals := lo } 0 0 n ∧ (Cond.static y).before args s = true ∧ True)
    (isC isR : List Nat) (hC : isC.map (fun i => ws[i]?) = wc.map some) (hR : isR.map (fun i => ws[i]?) = wr.map some) (hn : va_nd isC = true) (hn2 : va_nd isR = true) (hdis : ∀ i ∈ isR, i ∉ isC)
    (hst : st = As.reverse ++ rest) (hnl : As.length = n) (hsize : ls.size = nL) (hroom : (rest.map fun v => v.category).sum ≤ 8) (hdg : decode cc pc = .ok (.invokestatic index, 3)) (hf : cells ≤ R.cells ∧ slots ≤ R.slots)
    (kk : ∀ (u : S) (H1 : Heap) (locs1 : List Loc), post u → va_P g.1 vwCl (wr ++ w2 u) H1 → va_D A (wr ++ w2 u) → va_S A s.heap H1 locs1 → W p l e R s m args below meth c H1 locs1 cells slots Q (F0 m (pc + 3) ls rest)) :
    W p l e R s m args below meth c H locs cells slots Q (F0 m pc ls st) := by
  have hFc := va_free (wc := wc) hD hS hA isC hC
  refine va_callv (va_runSN (As := As) (rest := rest) F (hM H.size) cw ⟨zB.blind, fun U hU hW => zz_pre hK hE hA hP hD hS hC hn hU hW⟩ rfl hnl hsize hst (lv_room hroom) hdg hf) hS (fun q _ h => hFc q h) hFc (fun u t H1 locs1 ht hvm hw hB hz1 hk1 hS => ?_)
  obtain ⟨hP1, hD1⟩ := hB
  rw [ht] at hP1
  obtain ⟨hP, hD⟩ := va_join hP hD isC isR hC hR hn2 hdis hk1 hFc hP1 hD1
  exact kk u H1 locs1 hw hP hD hS
end ZC
