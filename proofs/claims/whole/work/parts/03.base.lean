abbrev vwCl : List vw_C := [(RX0, TX0, 6), (RX1, TX1, 8), (RX2, TX2, 5), (RX3, TX3, 7), (RX4, TX4, 14), (RX5, TX5, 23)]
/-! BASE: the shape of a contract here, its body, its calls; ints that are naturals -/
abbrev zG : Type := va_G × (ClassId × ClassId × ClassId) × (Nat → Nat) × (Nat → Nat)
abbrev zT (g : zG) : List (ClassId × FieldType) := [(g.2.1.1, .int), (g.2.1.2.1, .byte), (g.2.1.2.2, .boolean)]
def zNs : List Cond := [.fieldLinkNest RX4 60 RX3 "length" "I" RX4, .fieldLinkNest RX3 80 RX1 "hourSteps" "I" RX4, .fieldLinkNest RX4 172 RX1 "hourSteps" "I" RX4, .fieldLinkNest RX0 44 RX1 "people" "I" RX4, .fieldLinkNest RX4 256 RX1 "people" "I" RX4, .fieldLinkNest RX4 101 RX1 "marches" "I" RX4, .fieldLinkNest RX4 259 RX1 "works" "I" RX4, .fieldLinkNest RX4 115 RX0 "minute" "I" RX4, .fieldLinkNest RX4 118 RX0 "steps" "I" RX4, .fieldLinkNest RX4 124 RX0 "sitting" "I" RX4, .fieldLinkNest RX4 217 RX2 "days" "I" RX4, .fieldLinkNest RX4 225 RX2 "rows" "I" RX4, .fieldLinkNest RX4 228 RX2 "rowFrom" "I" RX4, .fieldLinkNest RX4 231 RX2 "rowTo" "I" RX4, .methodLinkNest RX1 37 yX4_copyRow RX4, .methodLinkNest RX0 31 yX4_copyRow RX4]
def zN (U : State) : Prop := ∀ w ∈ zNs, va_Nw w U
theorem zN.warm {s U : State} (hW : s.WarmedH U.vm) (h : zN s) : zN U := by
  intro w hw
  have h1 := h w hw
  simp only [zNs, List.mem_cons, List.not_mem_nil, or_false] at hw
  rcases hw with rfl | rfl | rfl | rfl | rfl | rfl | rfl | rfl | rfl | rfl | rfl | rfl | rfl | rfl | rfl | rfl
  all_goals first | exact va_Nw.warmF hW h1 | exact va_Nw.warmM hW h1
theorem zN.same {u U : State} (hv : u.vm = U.vm) (h : zN u) : zN U := by
  intro w hw
  have h1 := h w hw
  simp only [zNs, List.mem_cons, List.not_mem_nil, or_false] at hw
  rcases hw with rfl | rfl | rfl | rfl | rfl | rfl | rfl | rfl | rfl | rfl | rfl | rfl | rfl | rfl | rfl | rfl
  all_goals exact va_Nw.same rfl hv h1
def zStr : List (Nat × String) := [(44, "clock"), (53, "person"), (58, "go"), (64, "wait"), (66, "march"), (71, "work"), (107, "fire"), (109, "hours")]
def zLen : List Nat := [5, 6, 2, 4, 5, 4, 4, 5]
def zByt : List (List Int32) := [[99, 108, 111, 99, 107], [112, 101, 114, 115, 111, 110], [103, 111], [119, 97, 105, 116], [109, 97, 114, 99, 104], [119, 111, 114, 107], [102, 105, 114, 101], [104, 111, 117, 114, 115]]
def zR (g : zG) (U : State) : Prop := ∀ (i : Nat) (q : Nat × String), zStr[i]? = some q → vk_R RX3 q.1 q.2 (g.2.2.1 i) U
def zK (g : zG) (U : State) : Prop := va_K g.1 vwCl (zT g) U ∧ zN U ∧ zR g U
def zE (g : zG) (A : Nat → Prop) (U : State) (H : Heap) : Prop := vk_S 8 zLen zByt g.2.2.1 g.2.2.2 A U H ∧ va_Z "java/lang/String" "COMPACT_STRINGS" "Z" (.int 1) A U H ∧ va_Zq "jdk/internal/util/Preconditions" "SIOOBE_FORMATTER" "Ljava/util/function/BiFunction;" A U H
theorem zE.moved {g : zG} {A : Nat → Prop} {u U : State} {H : Heap} (hvm : u.vm.Alike U.vm) (h : zE g A u H) : zE g A U H := ⟨h.1.moved hvm, h.2.1.moved hvm, h.2.2.moved hvm⟩
theorem zE.kept {g : zG} {A : Nat → Prop} {U : State} {H H1 : Heap} (h : zE g A U H) (hq : ∀ a : Nat, a < H.size → ¬ A a → H1[a]? = H[a]?) : zE g A U H1 := ⟨h.1.kept hq, h.2.1.kept hq, h.2.2.kept hq⟩
theorem zE.narrow {g : zG} {A B : Nat → Prop} {U : State} {H : Heap} (h : zE g A U H) (hAB : ∀ q, B q → A q) : zE g B U H := ⟨h.1.narrow hAB, h.2.1.narrow hAB, h.2.2.narrow hAB⟩
theorem zK.warm {g : zG} {s U : State} (hW : s.WarmedH U.vm) (h : zK g s) : zK g U := ⟨va_K.moved hW.alike h.1, h.2.1.warm hW, fun i q hq => vk_R.warm hW (h.2.2 i q hq)⟩
theorem zK.same {g : zG} {u U : State} (hv : u.vm = U.vm) (h : zK g u) : zK g U := ⟨va_K.moved (by rw [hv]; exact Vm.Alike.refl _) h.1, h.2.1.same hv, fun i q hq => vk_R.same hv.symm (h.2.2 i q hq)⟩
/-- a method's start: its world, and what the tables say -/
def zB (g : zG) (ws : va_W) (sz : Nat) (U : State) : Prop := U.heap.size = sz ∧ va_P g.1 vwCl ws U.heap ∧ zK g U ∧ va_D (fun _ => True) ws ∧ zE g (va_A ws sz) U U.heap
/-- a method's end -/
def zO (g : zG) (A : Nat → Prop) (ws : va_W) (t : State) : Prop := va_P g.1 vwCl ws t.heap ∧ va_D A ws
theorem zB.blind {g : zG} {args : List Value} {ws : va_W} {sz : Nat} : FrameBlind (va_Pc args (zB g ws sz)) := fun a U f mk q => by
  obtain ⟨h1, h2, h3, h4, h5, h6⟩ := q
  exact ⟨h1, h2, h3, zK.same (u := U) (U := U.calling f mk a) rfl h4, h5, zE.moved (u := U) (U := U.calling f mk a) (Vm.Alike.refl U.vm) h6⟩
/-- contracts: an int (or boolean), a long, nothing is answered -/
def zI (l : Launch) (y : MethodName) (wsY : List Cond) (fr lo : Nat) (g : zG) (args : List Value) (ws : va_W) {S : Type} (post : Int32 → S → Prop) (w2 : S → va_W) : Prop :=
  ∀ sz : Nat, Met l y wsY { frames := fr, cells := 0, slots := 0, locals := lo } (va_Pc args (zB g ws sz)) (va_Qi post (fun u t => zO g (va_A ws sz) (w2 u) t) (va_A ws sz)) 0 0 (va_A ws sz)
def zJ (l : Launch) (y : MethodName) (wsY : List Cond) (fr lo : Nat) (g : zG) (args : List Value) (ws : va_W) {S : Type} (post : Int64 → S → Prop) (w2 : S → va_W) : Prop :=
  ∀ sz : Nat, Met l y wsY { frames := fr, cells := 0, slots := 0, locals := lo } (va_Pc args (zB g ws sz)) (va_Ql post (fun u t => zO g (va_A ws sz) (w2 u) t) (va_A ws sz)) 0 0 (va_A ws sz)
def zV (l : Launch) (y : MethodName) (wsY : List Cond) (fr lo mc ms : Nat) (g : zG) (args : List Value) (ws : va_W) {S : Type} (post : S → Prop) (w2 : S → va_W) : Prop :=
  ∀ sz : Nat, Met l y wsY { frames := fr, cells := mc, slots := ms, locals := lo } (va_Pc args (zB g ws sz)) (va_Qv post (fun u t => zO g (va_A ws sz) (w2 u) t) (va_A ws sz)) mc ms (va_A ws sz)
theorem zz_bodyI {l : Launch} {y : MethodName} {wsY wsY' : List Cond} {fr lo : Nat} {g : zG} {args : List Value} {ws : va_W} {S : Type} {post : Int32 → S → Prop} {w2 : S → va_W} {cc : ByteArray} {nL : Nat} {own : String} {ty : FieldType}
    (hy : plainName y.cls = true) (hown : y.cls = own) (hw : wsY = Cond.code y cc nL (some ty) :: wsY') (hn : (lg_sl args).length ≤ nL)
    (h : ∀ (p : Program) (e : Env) (s : State) (m : MethodId) (below : List Frame) (meth : Method) (c : Code) (A : Nat → Prop) (Q : State → Prop) (ls : Array Slot), CallFix p m c cc nL s args.toArray wsY own → (∀ q, s.heap.size ≤ q → A q) → zK g s → zE g A s s.heap → va_P g.1 vwCl ws s.heap → va_D A ws → lv_has ls nL (lv_args 0 args) →
      (∀ (pc : Nat) (H : Heap) (locs : List Loc) (ls : Array Slot) (v : Int32) (u : S), decode cc pc = .ok (.ireturn, 1) → narrow ty (.int v) = .int v → va_P g.1 vwCl (w2 u) H → va_D A (w2 u) → va_S A s.heap H locs → post v u → W p l e { frames := fr, cells := 0, slots := 0, locals := lo } s m args.toArray below meth c H locs 0 0 Q (F0 m pc ls [.int v])) →
      W p l e { frames := fr, cells := 0, slots := 0, locals := lo } s m args.toArray below meth c s.heap [] 0 0 Q (F0 m 0 ls [])) : zI l y wsY fr lo g args ws post w2 := by
  intro sz
  refine Met.ofW (cc := cc) (maxL := nL) (ret := some ty) hy hw ?_
  intro p e s m args1 below meth c s₁ B hml hv
  obtain ⟨rfl, hsz, hP, hK, hD0, hE⟩ := hv
  have hx := B.exec
  have hb := B.bytes
  have hr := B.returns
  have hts := atoms_spec (ws := wsY) B.pre
  have ho : s.vm.findClass own = some m.cls := by rw [← hown]; exact findClass_of_methodNamed B.named
  have hlocks := B.notSynchronized
  subst hsz
  have hD := hD0.self (sz := s.heap.size)
  have hl := lv_entry args (n := nL) hn
  rw [lg_entry_eq]
  generalize (lg_sl args ++ List.replicate (nL - (lg_sl args).length) Slot.unset).toArray = ls at hl ⊢
  refine h p e s m below meth c (va_A ws s.heap.size) _ ls ⟨hx, hb, hml, ho, hts⟩ (fun q hq => Or.inr hq) hK hE hP hD hl ?_
  intro pc H locs ls v u hd hn2 hP hD hS hp
  exact W.zret (ty := ty) hx hb hr hn2 (fun t ht hW => ⟨⟨v, u, rfl, hp, by rw [ht]; exact hP, hD⟩, hS.F ht⟩) hS.2.2 hd
theorem zz_bodyJ {l : Launch} {y : MethodName} {wsY wsY' : List Cond} {fr lo : Nat} {g : zG} {args : List Value} {ws : va_W} {S : Type} {post : Int64 → S → Prop} {w2 : S → va_W} {cc : ByteArray} {nL : Nat} {own : String}
    (hy : plainName y.cls = true) (hown : y.cls = own) (hw : wsY = Cond.code y cc nL (some .long) :: wsY') (hn : (lg_sl args).length ≤ nL)
    (h : ∀ (p : Program) (e : Env) (s : State) (m : MethodId) (below : List Frame) (meth : Method) (c : Code) (A : Nat → Prop) (Q : State → Prop) (ls : Array Slot), CallFix p m c cc nL s args.toArray wsY own → (∀ q, s.heap.size ≤ q → A q) → zK g s → zE g A s s.heap → va_P g.1 vwCl ws s.heap → va_D A ws → lv_has ls nL (lv_args 0 args) →
      (∀ (pc : Nat) (H : Heap) (locs : List Loc) (ls : Array Slot) (v : Int64) (u : S), decode cc pc = .ok (.lreturn, 1) → va_P g.1 vwCl (w2 u) H → va_D A (w2 u) → va_S A s.heap H locs → post v u → W p l e { frames := fr, cells := 0, slots := 0, locals := lo } s m args.toArray below meth c H locs 0 0 Q (F0 m pc ls [.long v])) →
      W p l e { frames := fr, cells := 0, slots := 0, locals := lo } s m args.toArray below meth c s.heap [] 0 0 Q (F0 m 0 ls [])) : zJ l y wsY fr lo g args ws post w2 := by
  intro sz
  refine Met.ofW (cc := cc) (maxL := nL) (ret := some .long) hy hw ?_
  intro p e s m args1 below meth c s₁ B hml hv
  obtain ⟨rfl, hsz, hP, hK, hD0, hE⟩ := hv
  have hx := B.exec
  have hb := B.bytes
  have hr := B.returns
  have hts := atoms_spec (ws := wsY) B.pre
  have ho : s.vm.findClass own = some m.cls := by rw [← hown]; exact findClass_of_methodNamed B.named
  have hlocks := B.notSynchronized
  subst hsz
  have hD := hD0.self (sz := s.heap.size)
  have hl := lv_entry args (n := nL) hn
  rw [lg_entry_eq]
  generalize (lg_sl args ++ List.replicate (nL - (lg_sl args).length) Slot.unset).toArray = ls at hl ⊢
  refine h p e s m below meth c (va_A ws s.heap.size) _ ls ⟨hx, hb, hml, ho, hts⟩ (fun q hq => Or.inr hq) hK hE hP hD hl ?_
  intro pc H locs ls v u hd hP hD hS hp
  exact W.lret hx hb hr (fun t ht hW => ⟨⟨v, u, rfl, hp, by rw [ht]; exact hP, hD⟩, hS.F ht⟩) hS.2.2 hd
theorem zz_bodyV {l : Launch} {y : MethodName} {wsY wsY' : List Cond} {fr lo mc ms : Nat} {g : zG} {args : List Value} {ws : va_W} {S : Type} {post : S → Prop} {w2 : S → va_W} {cc : ByteArray} {nL : Nat} {own : String}
    (hy : plainName y.cls = true) (hown : y.cls = own) (hw : wsY = Cond.code y cc nL none :: wsY') (hn : (lg_sl args).length ≤ nL)
    (h : ∀ (p : Program) (e : Env) (s : State) (m : MethodId) (below : List Frame) (meth : Method) (c : Code) (A : Nat → Prop) (Q : State → Prop) (ls : Array Slot), CallFix p m c cc nL s args.toArray wsY own → (y.name = "<init>" → meth.name = "<init>") → (∀ q, s.heap.size ≤ q → A q) → zK g s → zE g A s s.heap → va_P g.1 vwCl ws s.heap → va_D A ws → lv_has ls nL (lv_args 0 args) →
      (∀ (pc : Nat) (H : Heap) (locs : List Loc) (ls : Array Slot) (u : S), decode cc pc = .ok (.return_, 1) → va_P g.1 vwCl (w2 u) H → va_D A (w2 u) → va_S A s.heap H locs → post u → W p l e { frames := fr, cells := mc, slots := ms, locals := lo } s m args.toArray below meth c H locs mc ms Q (F0 m pc ls [])) →
      W p l e { frames := fr, cells := mc, slots := ms, locals := lo } s m args.toArray below meth c s.heap [] 0 0 Q (F0 m 0 ls [])) : zV l y wsY fr lo mc ms g args ws post w2 := by
  intro sz
  refine Met.ofW (cc := cc) (maxL := nL) (ret := none) hy hw ?_
  intro p e s m args1 below meth c s₁ B hml hv
  obtain ⟨rfl, hsz, hP, hK, hD0, hE⟩ := hv
  have hx := B.exec
  have hb := B.bytes
  have hr := B.returns
  have hts := atoms_spec (ws := wsY) B.pre
  have ho : s.vm.findClass own = some m.cls := by rw [← hown]; exact findClass_of_methodNamed B.named
  have hlocks := B.notSynchronized
  have hin : y.name = "<init>" → meth.name = "<init>" := fun hq => by rw [← hq]; exact (name_of_methodNamed B.named B.method).1
  subst hsz
  have hD := hD0.self (sz := s.heap.size)
  have hl := lv_entry args (n := nL) hn
  rw [lg_entry_eq]
  generalize (lg_sl args ++ List.replicate (nL - (lg_sl args).length) Slot.unset).toArray = ls at hl ⊢
  refine h p e s m below meth c (va_A ws s.heap.size) _ ls ⟨hx, hb, hml, ho, hts⟩ hin (fun q hq => Or.inr hq) hK hE hP hD hl ?_
  intro pc H locs ls u hd hP hD hS hp
  exact W.vret hx hb hr (fun t ht hW => ⟨⟨u, rfl, hp, by rw [ht]; exact hP, hD⟩, hS.F ht⟩) hS.2.2 hd
theorem zz_fm {ws wc : va_W} {is : List Nat} (h : is.map (fun i => ws[i]?) = wc.map some) : is.filterMap (fun i => ws[i]?) = wc := by
  have e : is.filterMap (fun i => ws[i]?) = (is.map (fun i => ws[i]?)).filterMap id := by rw [List.filterMap_map]; rfl
  rw [e, h, List.filterMap_map]
  simp
theorem zz_pre {s : State} {g : zG} {A : Nat → Prop} {ws wc : va_W} {H : Heap} {locs : List Loc} {av : List Value} {isC : List Nat} (hK : zK g s) (hE : zE g A s s.heap) (hA : ∀ q, s.heap.size ≤ q → A q) (hP : va_P g.1 vwCl ws H) (hD : va_D A ws) (hS : va_S A s.heap H locs) (hC : isC.map (fun i => ws[i]?) = wc.map some) (hn : va_nd isC = true)
    {U : State} (hU : U.heap = H) (hW : s.WarmedH U.vm) : va_Pc av (zB g wc H.size) av.toArray U := by
  have hPc := hP.sub (ws' := wc) isC (zz_fm hC)
  have hDc := hD.sub (ws' := wc) isC hn hC
  have hFc := va_free (wc := wc) hD hS hA isC hC
  exact ⟨rfl, by rw [hU], by rw [hU]; exact hPc, hK.warm hW, hDc.weaken (fun _ _ _ _ => trivial), by rw [hU]; exact ((hE.kept hS.2.1).narrow hFc).moved hW.alike⟩
section ZC
variable {p : Program} {l : Launch} {e : Env} {R : Room} {s : State} {m : MethodId} {args : Array Value} {below : List Frame} {meth : Method} {c : Code} {H : Heap} {locs : List Loc} {cells slots : Nat} {Q : State → Prop}
variable {cc : ByteArray} {pc nL : Nat} {ls : Array Slot} {rest st : List Value} {A : Nat → Prop} {own : String} {Ts : List Cond} {g : zG} {ws wc wr : va_W} {y : MethodName} {wsY : List Cond} {fr lo maxL index n mc ms : Nat} {bytes : ByteArray} {ret : Option FieldType} {b : Nat} {As : List Value} {S : Type} {w2 : S → va_W} {C : String}
theorem zz_callI {post : Int32 → S → Prop} (F : CallFix p m c cc nL s args Ts own) (hK : zK g s) (hE : zE g A s s.heap) (hA : ∀ q, s.heap.size ≤ q → A q) (hP : va_P g.1 vwCl ws H) (hD : va_D A ws) (hS : va_S A s.heap H locs)
    (hM : zI l y wsY fr lo g (.ref b :: As) wc post w2) (cw : CallW R s args own C index y bytes maxL ret wsY { frames := fr, cells := 0, slots := 0, locals := lo } 0 0 n)
    (isC isR : List Nat) (hC : isC.map (fun i => ws[i]?) = wc.map some) (hR : isR.map (fun i => ws[i]?) = wr.map some) (hn : va_nd isC = true) (hn2 : va_nd isR = true) (hdis : ∀ i ∈ isR, i ∉ isC)
    (ci q0 : Nat) {cq : vw_C} {fs : List Value} (hc : vwCl[ci]? = some cq) (hcq : cq.1 = C) (he : wc[q0]? = some (b, .inr (ci, fs)))
    (hst : st = As.reverse ++ .ref b :: rest) (hnl : As.length = n) (hsize : ls.size = nL) (hroom : (rest.map fun v => v.category).sum ≤ 8) (hdg : decode cc pc = .ok (.invokevirtual index, 3)) (hf : cells ≤ R.cells ∧ slots ≤ R.slots)
    (kk : ∀ (r : Int32) (u : S) (H1 : Heap) (locs1 : List Loc), post r u → va_P g.1 vwCl (wr ++ w2 u) H1 → va_D A (wr ++ w2 u) → va_S A s.heap H1 locs1 → W p l e R s m args below meth c H1 locs1 cells slots Q (F0 m (pc + 3) ls (.int r :: rest))) :
    W p l e R s m args below meth c H locs cells slots Q (F0 m pc ls st) := by
  have hPc := hP.sub (ws' := wc) isC (zz_fm hC)
  have hFc := va_free (wc := wc) hD hS hA isC hC
  subst hcq
  refine va_calli (va_runV (As := As) (rest := rest) F (hM H.size) cw ⟨zB.blind, va_recv hK.1 hPc (ci := ci) (q0 := q0) hc he, fun U hU hW => zz_pre hK hE hA hP hD hS hC hn hU hW⟩ rfl hnl hsize hst (lv_room hroom) hdg hf) hS (fun q _ h => hFc q h) hFc (fun r u t H1 locs1 ht hvm hw hB hz1 hk1 hS => ?_)
  obtain ⟨hP1, hD1⟩ := hB
  rw [ht] at hP1
  obtain ⟨hP, hD⟩ := va_join hP hD isC isR hC hR hn2 hdis hk1 hFc hP1 hD1
  exact kk r u H1 locs1 hw hP hD hS
theorem zz_callJ {post : Int64 → S → Prop} (F : CallFix p m c cc nL s args Ts own) (hK : zK g s) (hE : zE g A s s.heap) (hA : ∀ q, s.heap.size ≤ q → A q) (hP : va_P g.1 vwCl ws H) (hD : va_D A ws) (hS : va_S A s.heap H locs)
    (hM : zJ l y wsY fr lo g (.ref b :: As) wc post w2) (cw : CallW R s args own C index y bytes maxL ret wsY { frames := fr, cells := 0, slots := 0, locals := lo } 0 0 n)
    (isC isR : List Nat) (hC : isC.map (fun i => ws[i]?) = wc.map some) (hR : isR.map (fun i => ws[i]?) = wr.map some) (hn : va_nd isC = true) (hn2 : va_nd isR = true) (hdis : ∀ i ∈ isR, i ∉ isC)
    (ci q0 : Nat) {cq : vw_C} {fs : List Value} (hc : vwCl[ci]? = some cq) (hcq : cq.1 = C) (he : wc[q0]? = some (b, .inr (ci, fs)))
    (hst : st = As.reverse ++ .ref b :: rest) (hnl : As.length = n) (hsize : ls.size = nL) (hroom : (rest.map fun v => v.category).sum ≤ 8) (hdg : decode cc pc = .ok (.invokevirtual index, 3)) (hf : cells ≤ R.cells ∧ slots ≤ R.slots)
    (kk : ∀ (r : Int64) (u : S) (H1 : Heap) (locs1 : List Loc), post r u → va_P g.1 vwCl (wr ++ w2 u) H1 → va_D A (wr ++ w2 u) → va_S A s.heap H1 locs1 → W p l e R s m args below meth c H1 locs1 cells slots Q (F0 m (pc + 3) ls (.long r :: rest))) :
    W p l e R s m args below meth c H locs cells slots Q (F0 m pc ls st) := by
  have hPc := hP.sub (ws' := wc) isC (zz_fm hC)
  have hFc := va_free (wc := wc) hD hS hA isC hC
  subst hcq
  refine va_calll (va_runV (As := As) (rest := rest) F (hM H.size) cw ⟨zB.blind, va_recv hK.1 hPc (ci := ci) (q0 := q0) hc he, fun U hU hW => zz_pre hK hE hA hP hD hS hC hn hU hW⟩ rfl hnl hsize hst (lv_room hroom) hdg hf) hS (fun q _ h => hFc q h) hFc (fun r u t H1 locs1 ht hvm hw hB hz1 hk1 hS => ?_)
  obtain ⟨hP1, hD1⟩ := hB
  rw [ht] at hP1
  obtain ⟨hP, hD⟩ := va_join hP hD isC isR hC hR hn2 hdis hk1 hFc hP1 hD1
  exact kk r u H1 locs1 hw hP hD hS
theorem zz_callV {post : S → Prop} (F : CallFix p m c cc nL s args Ts own) (hK : zK g s) (hE : zE g A s s.heap) (hA : ∀ q, s.heap.size ≤ q → A q) (hP : va_P g.1 vwCl ws H) (hD : va_D A ws) (hS : va_S A s.heap H locs)
    (hM : zV l y wsY fr lo 0 0 g (.ref b :: As) wc post w2) (cw : CallW R s args own C index y bytes maxL ret wsY { frames := fr, cells := 0, slots := 0, locals := lo } 0 0 n)
    (isC isR : List Nat) (hC : isC.map (fun i => ws[i]?) = wc.map some) (hR : isR.map (fun i => ws[i]?) = wr.map some) (hn : va_nd isC = true) (hn2 : va_nd isR = true) (hdis : ∀ i ∈ isR, i ∉ isC)
    (ci q0 : Nat) {cq : vw_C} {fs : List Value} (hc : vwCl[ci]? = some cq) (hcq : cq.1 = C) (he : wc[q0]? = some (b, .inr (ci, fs)))
    (hst : st = As.reverse ++ .ref b :: rest) (hnl : As.length = n) (hsize : ls.size = nL) (hroom : (rest.map fun v => v.category).sum ≤ 8) (hdg : decode cc pc = .ok (.invokevirtual index, 3)) (hf : cells ≤ R.cells ∧ slots ≤ R.slots)
    (kk : ∀ (u : S) (H1 : Heap) (locs1 : List Loc), post u → va_P g.1 vwCl (wr ++ w2 u) H1 → va_D A (wr ++ w2 u) → va_S A s.heap H1 locs1 → W p l e R s m args below meth c H1 locs1 cells slots Q (F0 m (pc + 3) ls rest)) :
    W p l e R s m args below meth c H locs cells slots Q (F0 m pc ls st) := by
  have hPc := hP.sub (ws' := wc) isC (zz_fm hC)
  have hFc := va_free (wc := wc) hD hS hA isC hC
  subst hcq
  refine va_callv (va_runV (As := As) (rest := rest) F (hM H.size) cw ⟨zB.blind, va_recv hK.1 hPc (ci := ci) (q0 := q0) hc he, fun U hU hW => zz_pre hK hE hA hP hD hS hC hn hU hW⟩ rfl hnl hsize hst (lv_room hroom) hdg hf) hS (fun q _ h => hFc q h) hFc (fun u t H1 locs1 ht hvm hw hB hz1 hk1 hS => ?_)
  obtain ⟨hP1, hD1⟩ := hB
  rw [ht] at hP1
  obtain ⟨hP, hD⟩ := va_join hP hD isC isR hC hR hn2 hdis hk1 hFc hP1 hD1
  exact kk u H1 locs1 hw hP hD hS
theorem zz_callN {post : S → Prop} (F : CallFix p m c cc nL s args Ts own) (hK : zK g s) (hE : zE g A s s.heap) (hA : ∀ q, s.heap.size ≤ q → A q) (hP : va_P g.1 vwCl ws H) (hD : va_D A ws) (hS : va_S A s.heap H locs)
    (hM : zV l y wsY fr lo mc ms g (.ref b :: As) wc post w2) (cw : CallB R s args own index y bytes maxL none wsY { frames := fr, cells := mc, slots := ms, locals := lo } mc ms n ∧ y.name = "<init>" ∧ (Cond.instanceMethod y).before args s = true)
    (isC isR : List Nat) (hC : isC.map (fun i => ws[i]?) = wc.map some) (hR : isR.map (fun i => ws[i]?) = wr.map some) (hn : va_nd isC = true) (hn2 : va_nd isR = true) (hdis : ∀ i ∈ isR, i ∉ isC)
    (hst : st = As.reverse ++ .ref b :: rest) (hnl : As.length = n) (hsize : ls.size = nL) (hroom : (rest.map fun v => v.category).sum ≤ 8) (hdg : decode cc pc = .ok (.invokespecial index, 3)) (hf : cells + mc ≤ R.cells ∧ slots + ms ≤ R.slots)
    (kk : ∀ (u : S) (H1 : Heap) (locs1 : List Loc), post u → va_P g.1 vwCl (wr ++ w2 u) H1 → va_D A (wr ++ w2 u) → va_S A s.heap H1 locs1 → W p l e R s m args below meth c H1 locs1 (cells + mc) (slots + ms) Q (F0 m (pc + 3) ls rest)) :
    W p l e R s m args below meth c H locs cells slots Q (F0 m pc ls st) := by
  have hFc := va_free (wc := wc) hD hS hA isC hC
  refine va_callv (va_runI (As := As) (rest := rest) F (hM H.size) cw ⟨zB.blind, fun U hU hW => zz_pre hK hE hA hP hD hS hC hn hU hW⟩ rfl hnl hsize hst (lv_room hroom) hdg hf) hS (fun q _ h => hFc q h) hFc (fun u t H1 locs1 ht hvm hw hB hz1 hk1 hS => ?_)
  obtain ⟨hP1, hD1⟩ := hB
  rw [ht] at hP1
  obtain ⟨hP, hD⟩ := va_join hP hD isC isR hC hR hn2 hdis hk1 hFc hP1 hD1
  exact kk u H1 locs1 hw hP hD hS
/-- a static method, with a world of its own -/
theorem zz_callSI {post : Int32 → S → Prop} (F : CallFix p m c cc nL s args Ts own) (hK : zK g s) (hE : zE g A s s.heap) (hA : ∀ q, s.heap.size ≤ q → A q) (hP : va_P g.1 vwCl ws H) (hD : va_D A ws) (hS : va_S A s.heap H locs)
    (hM : zI l y wsY fr lo g As wc post w2) (cw : CallB R s args own index y bytes maxL ret wsY { frames := fr, cells := 0, slots := 0, locals := lo } 0 0 n ∧ (Cond.static y).before args s = true)
    (isC isR : List Nat) (hC : isC.map (fun i => ws[i]?) = wc.map some) (hR : isR.map (fun i => ws[i]?) = wr.map some) (hn : va_nd isC = true) (hn2 : va_nd isR = true) (hdis : ∀ i ∈ isR, i ∉ isC)
    (hst : st = As.reverse ++ rest) (hnl : As.length = n) (hsize : ls.size = nL) (hroom : (rest.map fun v => v.category).sum ≤ 8) (hdg : decode cc pc = .ok (.invokestatic index, 3)) (hf : cells ≤ R.cells ∧ slots ≤ R.slots)
    (kk : ∀ (r : Int32) (u : S) (H1 : Heap) (locs1 : List Loc), post r u → va_P g.1 vwCl (wr ++ w2 u) H1 → va_D A (wr ++ w2 u) → va_S A s.heap H1 locs1 → W p l e R s m args below meth c H1 locs1 cells slots Q (F0 m (pc + 3) ls (.int r :: rest))) :
    W p l e R s m args below meth c H locs cells slots Q (F0 m pc ls st) := by
  have hFc := va_free (wc := wc) hD hS hA isC hC
  refine va_calli (va_runS (As := As) (rest := rest) F (hM H.size) cw ⟨zB.blind, fun U hU hW => zz_pre hK hE hA hP hD hS hC hn hU hW⟩ rfl hnl hsize hst (lv_room hroom) hdg hf) hS (fun q _ h => hFc q h) hFc (fun r u t H1 locs1 ht hvm hw hB hz1 hk1 hS => ?_)
  obtain ⟨hP1, hD1⟩ := hB
  rw [ht] at hP1
  obtain ⟨hP, hD⟩ := va_join hP hD isC isR hC hR hn2 hdis hk1 hFc hP1 hD1
  exact kk r u H1 locs1 hw hP hD hS
/-- a static method of a nest mate, nothing answered -/
theorem zz_callSN {host : String} {post : S → Prop} (F : CallFix p m c cc nL s args Ts own) (hK : zK g s) (hE : zE g A s s.heap) (hA : ∀ q, s.heap.size ≤ q → A q) (hP : va_P g.1 vwCl ws H) (hD : va_D A ws) (hS : va_S A s.heap H locs)
    (hM : zV l y wsY fr lo 0 0 g As wc post w2) (cw : va_CN R s args own index y host bytes maxL ret wsY { frames := fr, cells := 0, slots := 0, locals := lo } 0 0 n ∧ (Cond.static y).before args s = true ∧ True)
    (isC isR : List Nat) (hC : isC.map (fun i => ws[i]?) = wc.map some) (hR : isR.map (fun i => ws[i]?) = wr.map some) (hn : va_nd isC = true) (hn2 : va_nd isR = true) (hdis : ∀ i ∈ isR, i ∉ isC)
    (hst : st = As.reverse ++ rest) (hnl : As.length = n) (hsize : ls.size = nL) (hroom : (rest.map fun v => v.category).sum ≤ 8) (hdg : decode cc pc = .ok (.invokestatic index, 3)) (hf : cells ≤ R.cells ∧ slots ≤ R.slots)
    (kk : ∀ (u : S) (H1 : Heap) (locs1 : List Loc), post u → va_P g.1 vwCl (wr ++ w2 u) H1 → va_D A (wr ++ w2 u) → va_S A s.heap H1 locs1 → W p l e R s m args below meth c H1 locs1 cells slots Q (F0 m (pc + 3) ls rest)) :
    W p l e R s m args below meth c H locs cells slots Q (F0 m pc ls st) := by
  have hFc := va_free (wc := wc) hD hS hA isC hC
  refine va_callv (va_runSN (As := As) (rest := rest) F (hM H.size) cw ⟨zB.blind, fun U hU hW => zz_pre hK hE hA hP hD hS hC hn hU hW⟩ rfl hnl hsize hst (lv_room hroom) hdg hf) hS (fun q _ h => hFc q h) hFc (fun u t H1 locs1 ht hvm hw hB hz1 hk1 hS => ?_)
  obtain ⟨hP1, hD1⟩ := hB
  rw [ht] at hP1
  obtain ⟨hP, hD⟩ := va_join hP hD isC isR hC hR hn2 hdis hk1 hFc hP1 hD1
  exact kk u H1 locs1 hw hP hD hS
/-- a method of a constant text -/
theorem zz_callK {post : Int32 → S → Prop} (F : CallFix p m c cc nL s args Ts own) (hK : zK g s) (hE : zE g A s s.heap) (hA : ∀ q, s.heap.size ≤ q → A q) (hP : va_P g.1 vwCl ws H) (hD : va_D A ws) (hS : va_S A s.heap H locs) {j : Nat} (hj : j < 8)
    (hM : zI l y wsY fr lo g (.ref (g.2.2.1 j) :: As) wc post w2) (cw : CallW R s args own "java/lang/String" index y bytes maxL ret wsY { frames := fr, cells := 0, slots := 0, locals := lo } 0 0 n)
    (isC isR : List Nat) (hC : isC.map (fun i => ws[i]?) = wc.map some) (hR : isR.map (fun i => ws[i]?) = wr.map some) (hn : va_nd isC = true) (hn2 : va_nd isR = true) (hdis : ∀ i ∈ isR, i ∉ isC)
    (hst : st = As.reverse ++ .ref (g.2.2.1 j) :: rest) (hnl : As.length = n) (hsize : ls.size = nL) (hroom : (rest.map fun v => v.category).sum ≤ 8) (hdg : decode cc pc = .ok (.invokevirtual index, 3)) (hf : cells ≤ R.cells ∧ slots ≤ R.slots)
    (kk : ∀ (r : Int32) (u : S) (H1 : Heap) (locs1 : List Loc), post r u → va_P g.1 vwCl (wr ++ w2 u) H1 → va_D A (wr ++ w2 u) → va_S A s.heap H1 locs1 → W p l e R s m args below meth c H1 locs1 cells slots Q (F0 m (pc + 3) ls (.int r :: rest))) :
    W p l e R s m args below meth c H locs cells slots Q (F0 m pc ls st) := by
  have hFc := va_free (wc := wc) hD hS hA isC hC
  refine va_calli (va_runV (As := As) (rest := rest) F (hM H.size) cw ⟨zB.blind, vk_recv hE.1 hj hS, fun U hU hW => zz_pre hK hE hA hP hD hS hC hn hU hW⟩ rfl hnl hsize hst (lv_room hroom) hdg hf) hS (fun q _ h => hFc q h) hFc (fun r u t H1 locs1 ht hvm hw hB hz1 hk1 hS => ?_)
  obtain ⟨hP1, hD1⟩ := hB
  rw [ht] at hP1
  obtain ⟨hP, hD⟩ := va_join hP hD isC isR hC hR hn2 hdis hk1 hFc hP1 hD1
  exact kk r u H1 locs1 hw hP hD hS
/-- a static method, nothing answered -/
theorem zz_callSV {post : S → Prop} (F : CallFix p m c cc nL s args Ts own) (hK : zK g s) (hE : zE g A s s.heap) (hA : ∀ q, s.heap.size ≤ q → A q) (hP : va_P g.1 vwCl ws H) (hD : va_D A ws) (hS : va_S A s.heap H locs)
    (hM : zV l y wsY fr lo 0 0 g As wc post w2) (cw : CallB R s args own index y bytes maxL ret wsY { frames := fr, cells := 0, slots := 0, locals := lo } 0 0 n ∧ (Cond.static y).before args s = true)
    (isC isR : List Nat) (hC : isC.map (fun i => ws[i]?) = wc.map some) (hR : isR.map (fun i => ws[i]?) = wr.map some) (hn : va_nd isC = true) (hn2 : va_nd isR = true) (hdis : ∀ i ∈ isR, i ∉ isC)
    (hst : st = As.reverse ++ rest) (hnl : As.length = n) (hsize : ls.size = nL) (hroom : (rest.map fun v => v.category).sum ≤ 8) (hdg : decode cc pc = .ok (.invokestatic index, 3)) (hf : cells ≤ R.cells ∧ slots ≤ R.slots)
    (kk : ∀ (u : S) (H1 : Heap) (locs1 : List Loc), post u → va_P g.1 vwCl (wr ++ w2 u) H1 → va_D A (wr ++ w2 u) → va_S A s.heap H1 locs1 → W p l e R s m args below meth c H1 locs1 cells slots Q (F0 m (pc + 3) ls rest)) :
    W p l e R s m args below meth c H locs cells slots Q (F0 m pc ls st) := by
  have hFc := va_free (wc := wc) hD hS hA isC hC
  refine va_callv (va_runS (As := As) (rest := rest) F (hM H.size) cw ⟨zB.blind, fun U hU hW => zz_pre hK hE hA hP hD hS hC hn hU hW⟩ rfl hnl hsize hst (lv_room hroom) hdg hf) hS (fun q _ h => hFc q h) hFc (fun u t H1 locs1 ht hvm hw hB hz1 hk1 hS => ?_)
  obtain ⟨hP1, hD1⟩ := hB
  rw [ht] at hP1
  obtain ⟨hP, hD⟩ := va_join hP hD isC isR hC hR hn2 hdis hk1 hFc hP1 hD1
  exact kk u H1 locs1 hw hP hD hS
end ZC
/-! NUMBERS: an int that is a whole number; branches read as conditions of whole numbers -/
def zi (z : Int) : Int32 := Int32.ofInt z
theorem zi_c (z : Int) {x : Int32} (h : Int32.ofInt z = x) : x = zi z := h.symm
theorem zi_n (n : Nat) : nI n = zi (n : Int) := Int32.ofInt_eq_ofNat.symm
theorem zi_self (x : Int32) : x = zi x.toInt := (Int32.ofInt_toInt x).symm
theorem zi_add {x y : Int32} {a b : Int} (h : x = zi a) (k : y = zi b) : x + y = zi (a + b) := by rw [h, k]; exact (Int32.ofInt_add a b).symm
theorem zi_sub {x y : Int32} {a b : Int} (h : x = zi a) (k : y = zi b) : x - y = zi (a - b) := by rw [h, k]; exact (Int32.ofInt_sub a b).symm
theorem zi_mul {x y : Int32} {a b : Int} (h : x = zi a) (k : y = zi b) : x * y = zi (a * b) := by rw [h, k]; exact (Int32.ofInt_mul a b).symm
theorem zi_neg {x : Int32} {a : Int} (h : x = zi a) : -x = zi (0 - a) := by rw [h, Int.zero_sub]; exact (Int32.ofInt_neg a).symm
theorem zi_eq {x y : Int32} {a b : Int} (h : x = zi a) (k : y = zi b) (e : a = b) : x = y := by rw [h, k, e]
theorem zi_t {a : Int} (h1 : -2147483648 ≤ a) (h2 : a < 2147483648) : (zi a).toInt = a := Int32.toInt_ofInt_of_le h1 h2
theorem zi_lt {x y : Int32} {a b : Int} (h : x = zi a) (k : y = zi b) (ha : -2147483648 ≤ a ∧ a < 2147483648) (hb : -2147483648 ≤ b ∧ b < 2147483648) : x < y ↔ a < b := by
  rw [Int32.lt_iff_toInt_lt, h, k, zi_t ha.1 ha.2, zi_t hb.1 hb.2]
theorem zi_le {x y : Int32} {a b : Int} (h : x = zi a) (k : y = zi b) (ha : -2147483648 ≤ a ∧ a < 2147483648) (hb : -2147483648 ≤ b ∧ b < 2147483648) : x ≤ y ↔ a ≤ b := by
  rw [Int32.le_iff_toInt_le, h, k, zi_t ha.1 ha.2, zi_t hb.1 hb.2]
theorem zi_eqq {x y : Int32} {a b : Int} (h : x = zi a) (k : y = zi b) (ha : -2147483648 ≤ a ∧ a < 2147483648) (hb : -2147483648 ≤ b ∧ b < 2147483648) : x = y ↔ a = b := by
  rw [← Int32.toInt_inj, h, k, zi_t ha.1 ha.2, zi_t hb.1 hb.2]
theorem zi_in {i : Int32} {k n : Nat} (hi : i = nI k) (hk : k < n) (hn : n < 2147483648) : vp_in i n := by rw [hi]; exact vp_in_nI hk hn
theorem zi_ix {i : Int32} {k n : Nat} (hi : i = nI k) (hk : k < n) (hn : n < 2147483648) : i.toNatClampNeg = k := by rw [hi]; exact nI_clamp (by omega)
section ZB
variable {p : Program} {l : Launch} {e : Env} {R : Room} {s : State} {m : MethodId} {args : Array Value} {below : List Frame} {meth : Method} {c : Code} {H : Heap} {locs : List Loc} {cells slots : Nat} {Q : State → Prop}
variable {cc : ByteArray} {pc : Nat} {ls : Array Slot} {rest st st2 : List Value} {D : va_G} {cl : List vw_C} {A : Nat → Prop} {a : Nat} {tys : List (ClassId × FieldType)} {ws : va_W} {H0 : Heap}
theorem zz_st (h : st = st2) (k : W p l e R s m args below meth c H locs cells slots Q (F0 m pc ls st2)) : W p l e R s m args below meth c H locs cells slots Q (F0 m pc ls st) := by rw [h]; exact k
theorem zz_topi {x y : Int32} (h : x = y) (k : W p l e R s m args below meth c H locs cells slots Q (F0 m pc ls (.int y :: rest))) : W p l e R s m args below meth c H locs cells slots Q (F0 m pc ls (.int x :: rest)) := by rw [h]; exact k
theorem zz_iald (hexec : p.tables.exec = Jvm.exec) (hb : c.code = cc) (hK : va_K D cl tys s) (hP : va_P D cl ws H) (q0 t0 : Nat) {cA : ClassId} {n : Nat} {f : Nat → Int32} (ha : ws[q0]? = some (a, .inl (cA, n, .inl f))) (ht : tys[t0]? = some (cA, .int)) {i : Int32} (k : Nat) (hi : i = nI k) (hk : k < n) (hn : n < 2147483648) (hdg : decode cc pc = .ok (.iaload, 1))
    (kk : W p l e R s m args below meth c H locs cells slots Q (F0 m (pc + 1) ls (.int (f k) :: rest))) : W p l e R s m args below meth c H locs cells slots Q (F0 m pc ls (.int i :: .ref a :: rest)) := by
  refine va_iald hexec hb hK hP q0 t0 ha ht (zi_in hi hk hn) hdg ?_
  rw [zi_ix hi hk hn]; exact kk
theorem zz_bald (hexec : p.tables.exec = Jvm.exec) (hb : c.code = cc) (hK : va_K D cl tys s) (hP : va_P D cl ws H) (q0 t0 : Nat) {cA : ClassId} {n : Nat} {f : Nat → Int32} (ha : ws[q0]? = some (a, .inl (cA, n, .inl f))) (ht : tys[t0]? = some (cA, .byte)) {i : Int32} (k : Nat) (hi : i = nI k) (hk : k < n) (hn : n < 2147483648) (hdg : decode cc pc = .ok (.baload, 1))
    (kk : W p l e R s m args below meth c H locs cells slots Q (F0 m (pc + 1) ls (.int (f k) :: rest))) : W p l e R s m args below meth c H locs cells slots Q (F0 m pc ls (.int i :: .ref a :: rest)) := by
  refine va_bald hexec hb hK hP q0 t0 ha ht (zi_in hi hk hn) hdg ?_
  rw [zi_ix hi hk hn]; exact kk
theorem zz_zald (hexec : p.tables.exec = Jvm.exec) (hb : c.code = cc) (hK : va_K D cl tys s) (hP : va_P D cl ws H) (q0 t0 : Nat) {cA : ClassId} {n : Nat} {f : Nat → Int32} (ha : ws[q0]? = some (a, .inl (cA, n, .inl f))) (ht : tys[t0]? = some (cA, .boolean)) {i : Int32} (k : Nat) (hi : i = nI k) (hk : k < n) (hn : n < 2147483648) (hdg : decode cc pc = .ok (.baload, 1))
    (kk : W p l e R s m args below meth c H locs cells slots Q (F0 m (pc + 1) ls (.int (f k) :: rest))) : W p l e R s m args below meth c H locs cells slots Q (F0 m pc ls (.int i :: .ref a :: rest)) := by
  refine va_zald hexec hb hK hP q0 t0 ha ht (zi_in hi hk hn) hdg ?_
  rw [zi_ix hi hk hn]; exact kk
theorem zz_iast (hexec : p.tables.exec = Jvm.exec) (hb : c.code = cc) (hK : va_K D cl tys s) (hP : va_P D cl ws H) (hD : va_D A ws) (hS : va_S A H0 H locs) (q0 t0 : Nat) {cA : ClassId} {n : Nat} {f : Nat → Int32} (ha : ws[q0]? = some (a, .inl (cA, n, .inl f))) (ht : tys[t0]? = some (cA, .int)) {i x : Int32} (k : Nat) (hi : i = nI k) (hk : k < n) (hn : n < 2147483648) (hdg : decode cc pc = .ok (.iastore, 1))
    (kk : ∀ (H1 : Heap) (locs1 : List Loc), va_P D cl (ws.set q0 (a, .inl (cA, n, .inl (upd f k x)))) H1 → va_D A (ws.set q0 (a, .inl (cA, n, .inl (upd f k x)))) → va_S A H0 H1 locs1 → W p l e R s m args below meth c H1 locs1 cells slots Q (F0 m (pc + 1) ls rest)) : W p l e R s m args below meth c H locs cells slots Q (F0 m pc ls (.int x :: .int i :: .ref a :: rest)) := by
  refine va_iast hexec hb hK hP hD hS q0 t0 ha ht (zi_in hi hk hn) hdg ?_
  rw [zi_ix hi hk hn]; exact kk
theorem zz_bast (hexec : p.tables.exec = Jvm.exec) (hb : c.code = cc) (hK : va_K D cl tys s) (hP : va_P D cl ws H) (hD : va_D A ws) (hS : va_S A H0 H locs) (q0 t0 : Nat) {cA : ClassId} {n : Nat} {f : Nat → Int32} (ha : ws[q0]? = some (a, .inl (cA, n, .inl f))) (ht : tys[t0]? = some (cA, .byte)) {i x : Int32} (k : Nat) (hi : i = nI k) (hk : k < n) (hn : n < 2147483648) (hdg : decode cc pc = .ok (.bastore, 1))
    (kk : ∀ (H1 : Heap) (locs1 : List Loc), va_P D cl (ws.set q0 (a, .inl (cA, n, .inl (upd f k (vp_nar .byte x))))) H1 → va_D A (ws.set q0 (a, .inl (cA, n, .inl (upd f k (vp_nar .byte x))))) → va_S A H0 H1 locs1 → W p l e R s m args below meth c H1 locs1 cells slots Q (F0 m (pc + 1) ls rest)) : W p l e R s m args below meth c H locs cells slots Q (F0 m pc ls (.int x :: .int i :: .ref a :: rest)) := by
  refine va_bast hexec hb hK hP hD hS q0 t0 ha ht (zi_in hi hk hn) hdg ?_
  rw [zi_ix hi hk hn]; exact kk
theorem zz_zast (hexec : p.tables.exec = Jvm.exec) (hb : c.code = cc) (hK : va_K D cl tys s) (hP : va_P D cl ws H) (hD : va_D A ws) (hS : va_S A H0 H locs) (q0 t0 : Nat) {cA : ClassId} {n : Nat} {f : Nat → Int32} (ha : ws[q0]? = some (a, .inl (cA, n, .inl f))) (ht : tys[t0]? = some (cA, .boolean)) {i x : Int32} (k : Nat) (hi : i = nI k) (hk : k < n) (hn : n < 2147483648) (hdg : decode cc pc = .ok (.bastore, 1))
    (kk : ∀ (H1 : Heap) (locs1 : List Loc), va_P D cl (ws.set q0 (a, .inl (cA, n, .inl (upd f k (vp_nar .boolean x))))) H1 → va_D A (ws.set q0 (a, .inl (cA, n, .inl (upd f k (vp_nar .boolean x))))) → va_S A H0 H1 locs1 → W p l e R s m args below meth c H1 locs1 cells slots Q (F0 m (pc + 1) ls rest)) : W p l e R s m args below meth c H locs cells slots Q (F0 m pc ls (.int x :: .int i :: .ref a :: rest)) := by
  refine va_zast hexec hb hK hP hD hS q0 t0 ha ht (zi_in hi hk hn) hdg ?_
  rw [zi_ix hi hk hn]; exact kk
theorem zz_icmp_eq (hexec : p.tables.exec = Jvm.exec) (hb : c.code = cc) {x y : Int32} {off : Int} {tgt : Nat} (hdg : decode cc pc = .ok (.if_icmp .eq off, 3)) (ht : (pc : Int) + off = (tgt : Int)) {a b : Int} (hx : x = zi a) (hy : y = zi b) (ra : -2147483648 ≤ a ∧ a < 2147483648) (rb : -2147483648 ≤ b ∧ b < 2147483648)
    (kt : a = b → W p l e R s m args below meth c H locs cells slots Q (F0 m tgt ls rest)) (kf : ¬ a = b → W p l e R s m args below meth c H locs cells slots Q (F0 m (pc + 3) ls rest)) : W p l e R s m args below meth c H locs cells slots Q (F0 m pc ls (.int y :: .int x :: rest)) :=
  lv_icmp_eq hexec hb hdg ht (fun q => kt ((zi_eqq hx hy ra rb).mp q)) (fun q => kf (fun z => q ((zi_eqq hx hy ra rb).mpr z)))
theorem zz_if_eq (hexec : p.tables.exec = Jvm.exec) (hb : c.code = cc) {x : Int32} {off : Int} {tgt : Nat} (hdg : decode cc pc = .ok (.ifCond .eq off, 3)) (ht : (pc : Int) + off = (tgt : Int)) {a : Int} (hx : x = zi a) (ra : -2147483648 ≤ a ∧ a < 2147483648)
    (kt : a = 0 → W p l e R s m args below meth c H locs cells slots Q (F0 m tgt ls rest)) (kf : ¬ a = 0 → W p l e R s m args below meth c H locs cells slots Q (F0 m (pc + 3) ls rest)) : W p l e R s m args below meth c H locs cells slots Q (F0 m pc ls (.int x :: rest)) :=
  lv_if_eq hexec hb hdg ht (fun q => kt ((zi_eqq hx (zi_c 0 rfl) ra ⟨by decide, by decide⟩).mp q)) (fun q => kf (fun z => q ((zi_eqq hx (zi_c 0 rfl) ra ⟨by decide, by decide⟩).mpr z)))
theorem zz_icmp_ne (hexec : p.tables.exec = Jvm.exec) (hb : c.code = cc) {x y : Int32} {off : Int} {tgt : Nat} (hdg : decode cc pc = .ok (.if_icmp .ne off, 3)) (ht : (pc : Int) + off = (tgt : Int)) {a b : Int} (hx : x = zi a) (hy : y = zi b) (ra : -2147483648 ≤ a ∧ a < 2147483648) (rb : -2147483648 ≤ b ∧ b < 2147483648)
    (kt : a ≠ b → W p l e R s m args below meth c H locs cells slots Q (F0 m tgt ls rest)) (kf : ¬ a ≠ b → W p l e R s m args below meth c H locs cells slots Q (F0 m (pc + 3) ls rest)) : W p l e R s m args below meth c H locs cells slots Q (F0 m pc ls (.int y :: .int x :: rest)) :=
  lv_icmp_ne hexec hb hdg ht (fun q => kt (fun z => q ((zi_eqq hx hy ra rb).mpr z))) (fun q => kf (fun z => z ((zi_eqq hx hy ra rb).mp q)))
theorem zz_if_ne (hexec : p.tables.exec = Jvm.exec) (hb : c.code = cc) {x : Int32} {off : Int} {tgt : Nat} (hdg : decode cc pc = .ok (.ifCond .ne off, 3)) (ht : (pc : Int) + off = (tgt : Int)) {a : Int} (hx : x = zi a) (ra : -2147483648 ≤ a ∧ a < 2147483648)
    (kt : a ≠ 0 → W p l e R s m args below meth c H locs cells slots Q (F0 m tgt ls rest)) (kf : ¬ a ≠ 0 → W p l e R s m args below meth c H locs cells slots Q (F0 m (pc + 3) ls rest)) : W p l e R s m args below meth c H locs cells slots Q (F0 m pc ls (.int x :: rest)) :=
  lv_if_ne hexec hb hdg ht (fun q => kt (fun z => q ((zi_eqq hx (zi_c 0 rfl) ra ⟨by decide, by decide⟩).mpr z))) (fun q => kf (fun z => z ((zi_eqq hx (zi_c 0 rfl) ra ⟨by decide, by decide⟩).mp q)))
theorem zz_icmp_lt (hexec : p.tables.exec = Jvm.exec) (hb : c.code = cc) {x y : Int32} {off : Int} {tgt : Nat} (hdg : decode cc pc = .ok (.if_icmp .lt off, 3)) (ht : (pc : Int) + off = (tgt : Int)) {a b : Int} (hx : x = zi a) (hy : y = zi b) (ra : -2147483648 ≤ a ∧ a < 2147483648) (rb : -2147483648 ≤ b ∧ b < 2147483648)
    (kt : a < b → W p l e R s m args below meth c H locs cells slots Q (F0 m tgt ls rest)) (kf : ¬ a < b → W p l e R s m args below meth c H locs cells slots Q (F0 m (pc + 3) ls rest)) : W p l e R s m args below meth c H locs cells slots Q (F0 m pc ls (.int y :: .int x :: rest)) :=
  lv_icmp_lt hexec hb hdg ht (fun q => kt ((zi_lt hx hy ra rb).mp q)) (fun q => kf (fun z => q ((zi_lt hx hy ra rb).mpr z)))
theorem zz_if_lt (hexec : p.tables.exec = Jvm.exec) (hb : c.code = cc) {x : Int32} {off : Int} {tgt : Nat} (hdg : decode cc pc = .ok (.ifCond .lt off, 3)) (ht : (pc : Int) + off = (tgt : Int)) {a : Int} (hx : x = zi a) (ra : -2147483648 ≤ a ∧ a < 2147483648)
    (kt : a < 0 → W p l e R s m args below meth c H locs cells slots Q (F0 m tgt ls rest)) (kf : ¬ a < 0 → W p l e R s m args below meth c H locs cells slots Q (F0 m (pc + 3) ls rest)) : W p l e R s m args below meth c H locs cells slots Q (F0 m pc ls (.int x :: rest)) :=
  lv_if_lt hexec hb hdg ht (fun q => kt ((zi_lt hx (zi_c 0 rfl) ra ⟨by decide, by decide⟩).mp q)) (fun q => kf (fun z => q ((zi_lt hx (zi_c 0 rfl) ra ⟨by decide, by decide⟩).mpr z)))
theorem zz_icmp_ge (hexec : p.tables.exec = Jvm.exec) (hb : c.code = cc) {x y : Int32} {off : Int} {tgt : Nat} (hdg : decode cc pc = .ok (.if_icmp .ge off, 3)) (ht : (pc : Int) + off = (tgt : Int)) {a b : Int} (hx : x = zi a) (hy : y = zi b) (ra : -2147483648 ≤ a ∧ a < 2147483648) (rb : -2147483648 ≤ b ∧ b < 2147483648)
    (kt : a ≥ b → W p l e R s m args below meth c H locs cells slots Q (F0 m tgt ls rest)) (kf : ¬ a ≥ b → W p l e R s m args below meth c H locs cells slots Q (F0 m (pc + 3) ls rest)) : W p l e R s m args below meth c H locs cells slots Q (F0 m pc ls (.int y :: .int x :: rest)) :=
  lv_icmp_ge hexec hb hdg ht (fun q => kt ((zi_le hy hx rb ra).mp q)) (fun q => kf (fun z => q ((zi_le hy hx rb ra).mpr z)))
theorem zz_if_ge (hexec : p.tables.exec = Jvm.exec) (hb : c.code = cc) {x : Int32} {off : Int} {tgt : Nat} (hdg : decode cc pc = .ok (.ifCond .ge off, 3)) (ht : (pc : Int) + off = (tgt : Int)) {a : Int} (hx : x = zi a) (ra : -2147483648 ≤ a ∧ a < 2147483648)
    (kt : a ≥ 0 → W p l e R s m args below meth c H locs cells slots Q (F0 m tgt ls rest)) (kf : ¬ a ≥ 0 → W p l e R s m args below meth c H locs cells slots Q (F0 m (pc + 3) ls rest)) : W p l e R s m args below meth c H locs cells slots Q (F0 m pc ls (.int x :: rest)) :=
  lv_if_ge hexec hb hdg ht (fun q => kt ((zi_le (zi_c 0 rfl) hx ⟨by decide, by decide⟩ ra).mp q)) (fun q => kf (fun z => q ((zi_le (zi_c 0 rfl) hx ⟨by decide, by decide⟩ ra).mpr z)))
theorem zz_icmp_gt (hexec : p.tables.exec = Jvm.exec) (hb : c.code = cc) {x y : Int32} {off : Int} {tgt : Nat} (hdg : decode cc pc = .ok (.if_icmp .gt off, 3)) (ht : (pc : Int) + off = (tgt : Int)) {a b : Int} (hx : x = zi a) (hy : y = zi b) (ra : -2147483648 ≤ a ∧ a < 2147483648) (rb : -2147483648 ≤ b ∧ b < 2147483648)
    (kt : a > b → W p l e R s m args below meth c H locs cells slots Q (F0 m tgt ls rest)) (kf : ¬ a > b → W p l e R s m args below meth c H locs cells slots Q (F0 m (pc + 3) ls rest)) : W p l e R s m args below meth c H locs cells slots Q (F0 m pc ls (.int y :: .int x :: rest)) :=
  lv_icmp_gt hexec hb hdg ht (fun q => kt ((zi_lt hy hx rb ra).mp q)) (fun q => kf (fun z => q ((zi_lt hy hx rb ra).mpr z)))
theorem zz_if_gt (hexec : p.tables.exec = Jvm.exec) (hb : c.code = cc) {x : Int32} {off : Int} {tgt : Nat} (hdg : decode cc pc = .ok (.ifCond .gt off, 3)) (ht : (pc : Int) + off = (tgt : Int)) {a : Int} (hx : x = zi a) (ra : -2147483648 ≤ a ∧ a < 2147483648)
    (kt : a > 0 → W p l e R s m args below meth c H locs cells slots Q (F0 m tgt ls rest)) (kf : ¬ a > 0 → W p l e R s m args below meth c H locs cells slots Q (F0 m (pc + 3) ls rest)) : W p l e R s m args below meth c H locs cells slots Q (F0 m pc ls (.int x :: rest)) :=
  lv_if_gt hexec hb hdg ht (fun q => kt ((zi_lt (zi_c 0 rfl) hx ⟨by decide, by decide⟩ ra).mp q)) (fun q => kf (fun z => q ((zi_lt (zi_c 0 rfl) hx ⟨by decide, by decide⟩ ra).mpr z)))
theorem zz_icmp_le (hexec : p.tables.exec = Jvm.exec) (hb : c.code = cc) {x y : Int32} {off : Int} {tgt : Nat} (hdg : decode cc pc = .ok (.if_icmp .le off, 3)) (ht : (pc : Int) + off = (tgt : Int)) {a b : Int} (hx : x = zi a) (hy : y = zi b) (ra : -2147483648 ≤ a ∧ a < 2147483648) (rb : -2147483648 ≤ b ∧ b < 2147483648)
    (kt : a ≤ b → W p l e R s m args below meth c H locs cells slots Q (F0 m tgt ls rest)) (kf : ¬ a ≤ b → W p l e R s m args below meth c H locs cells slots Q (F0 m (pc + 3) ls rest)) : W p l e R s m args below meth c H locs cells slots Q (F0 m pc ls (.int y :: .int x :: rest)) :=
  lv_icmp_le hexec hb hdg ht (fun q => kt ((zi_le hx hy ra rb).mp q)) (fun q => kf (fun z => q ((zi_le hx hy ra rb).mpr z)))
theorem zz_if_le (hexec : p.tables.exec = Jvm.exec) (hb : c.code = cc) {x : Int32} {off : Int} {tgt : Nat} (hdg : decode cc pc = .ok (.ifCond .le off, 3)) (ht : (pc : Int) + off = (tgt : Int)) {a : Int} (hx : x = zi a) (ra : -2147483648 ≤ a ∧ a < 2147483648)
    (kt : a ≤ 0 → W p l e R s m args below meth c H locs cells slots Q (F0 m tgt ls rest)) (kf : ¬ a ≤ 0 → W p l e R s m args below meth c H locs cells slots Q (F0 m (pc + 3) ls rest)) : W p l e R s m args below meth c H locs cells slots Q (F0 m pc ls (.int x :: rest)) :=
  lv_if_le hexec hb hdg ht (fun q => kt ((zi_le hx (zi_c 0 rfl) ra ⟨by decide, by decide⟩).mp q)) (fun q => kf (fun z => q ((zi_le hx (zi_c 0 rfl) ra ⟨by decide, by decide⟩).mpr z)))
end ZB
/-- a new array in a world whose tables know its class already -/
theorem zz_same {g : zG} {s : State} {cA cB : ClassId} {ty : FieldType} (t0 : Nat) (hK : va_K g.1 vwCl (zT g) s) (hK2 : va_K g.1 vwCl (zT g ++ [(cA, ty)]) s) (ht : (zT g)[t0]? = some (cB, ty)) (hp : ∀ C, ty ≠ .object C) : cA = cB := by
  have h1 := (hK.2 t0 _ ht).2
  have h2 := (hK2.2 3 (cA, ty) rfl).2
  have e1 : s.vm.findClass ("[" ++ ty.toString) = some cB := by
    cases ty <;> first | exact absurd rfl (hp _) | exact h1
  have e2 : s.vm.findClass ("[" ++ ty.toString) = some cA := by
    cases ty <;> first | exact absurd rfl (hp _) | exact h2
  exact Option.some.inj (e2.symm.trans e1)
section ZA
variable {p : Program} {l : Launch} {e : Env} {R : Room} {s : State} {m : MethodId} {args : Array Value} {below : List Frame} {meth : Method} {c : Code} {H : Heap} {locs : List Loc} {cells slots : Nat} {Q : State → Prop}
variable {cc : ByteArray} {pc : Nat} {ls : Array Slot} {rest : List Value} {A : Nat → Prop} {g : zG} {ws : va_W} {H0 : Heap}
theorem zz_new_int (hexec : p.tables.exec = Jvm.exec) (hb : c.code = cc) (harr : (Cond.arrayClass .int).before args s = true) (hK : va_K g.1 vwCl (zT g) s) (hP : va_P g.1 vwCl ws H) (hD : va_D A ws) (hS : va_S A H0 H locs) (hA : ∀ q, H0.size ≤ q → A q)
    {n : Int32} {N2 : Nat} {atype : ArrayType} (hty : newarray.typeOf atype = .int) (hn : ¬ n < 0) (hN : n.toNatClampNeg = N2) (hbytes : N2 * componentBytes .int ≤ 536870912) (hcells : cells + 1 ≤ R.cells) (hslots : slots + N2 ≤ R.slots) (hdg : decode cc pc = .ok (.newarray atype, 2))
    (kk : ∀ (q : Nat) (H1 : Heap), va_P g.1 vwCl (ws ++ [(q, .inl (g.2.1.1, N2, .inl (fun _ => 0)))]) H1 → va_D A (ws ++ [(q, .inl (g.2.1.1, N2, .inl (fun _ => 0)))]) → va_S A H0 H1 locs →
      W p l e R s m args below meth c H1 locs (cells + 1) (slots + N2) Q (F0 m (pc + 2) ls (.ref q :: rest))) : W p l e R s m args below meth c H locs cells slots Q (F0 m pc ls (.int n :: rest)) := by
  refine va_newa hexec hb (by rw [hty]; exact harr) hty hK hP hD hS hA (a0 := (N2, .inl (fun _ => 0))) (fun cA => rfl) hn hN hbytes hcells hslots hdg (fun q cA H1 hK2 hP2 hD2 hS2 => ?_)
  have e1 : cA = g.2.1.1 := zz_same 0 hK hK2 rfl (fun C h => by cases h)
  subst e1
  exact kk q H1 hP2 hD2 hS2
theorem zz_new_byte (hexec : p.tables.exec = Jvm.exec) (hb : c.code = cc) (harr : (Cond.arrayClass .byte).before args s = true) (hK : va_K g.1 vwCl (zT g) s) (hP : va_P g.1 vwCl ws H) (hD : va_D A ws) (hS : va_S A H0 H locs) (hA : ∀ q, H0.size ≤ q → A q)
    {n : Int32} {N2 : Nat} {atype : ArrayType} (hty : newarray.typeOf atype = .byte) (hn : ¬ n < 0) (hN : n.toNatClampNeg = N2) (hbytes : N2 * componentBytes .byte ≤ 536870912) (hcells : cells + 1 ≤ R.cells) (hslots : slots + N2 ≤ R.slots) (hdg : decode cc pc = .ok (.newarray atype, 2))
    (kk : ∀ (q : Nat) (H1 : Heap), va_P g.1 vwCl (ws ++ [(q, .inl (g.2.1.2.1, N2, .inl (fun _ => 0)))]) H1 → va_D A (ws ++ [(q, .inl (g.2.1.2.1, N2, .inl (fun _ => 0)))]) → va_S A H0 H1 locs →
      W p l e R s m args below meth c H1 locs (cells + 1) (slots + N2) Q (F0 m (pc + 2) ls (.ref q :: rest))) : W p l e R s m args below meth c H locs cells slots Q (F0 m pc ls (.int n :: rest)) := by
  refine va_newa hexec hb (by rw [hty]; exact harr) hty hK hP hD hS hA (a0 := (N2, .inl (fun _ => 0))) (fun cA => rfl) hn hN hbytes hcells hslots hdg (fun q cA H1 hK2 hP2 hD2 hS2 => ?_)
  have e1 : cA = g.2.1.2.1 := zz_same 1 hK hK2 rfl (fun C h => by cases h)
  subst e1
  exact kk q H1 hP2 hD2 hS2
theorem zz_new_boolean (hexec : p.tables.exec = Jvm.exec) (hb : c.code = cc) (harr : (Cond.arrayClass .boolean).before args s = true) (hK : va_K g.1 vwCl (zT g) s) (hP : va_P g.1 vwCl ws H) (hD : va_D A ws) (hS : va_S A H0 H locs) (hA : ∀ q, H0.size ≤ q → A q)
    {n : Int32} {N2 : Nat} {atype : ArrayType} (hty : newarray.typeOf atype = .boolean) (hn : ¬ n < 0) (hN : n.toNatClampNeg = N2) (hbytes : N2 * componentBytes .boolean ≤ 536870912) (hcells : cells + 1 ≤ R.cells) (hslots : slots + N2 ≤ R.slots) (hdg : decode cc pc = .ok (.newarray atype, 2))
    (kk : ∀ (q : Nat) (H1 : Heap), va_P g.1 vwCl (ws ++ [(q, .inl (g.2.1.2.2, N2, .inl (fun _ => 0)))]) H1 → va_D A (ws ++ [(q, .inl (g.2.1.2.2, N2, .inl (fun _ => 0)))]) → va_S A H0 H1 locs →
      W p l e R s m args below meth c H1 locs (cells + 1) (slots + N2) Q (F0 m (pc + 2) ls (.ref q :: rest))) : W p l e R s m args below meth c H locs cells slots Q (F0 m pc ls (.int n :: rest)) := by
  refine va_newa hexec hb (by rw [hty]; exact harr) hty hK hP hD hS hA (a0 := (N2, .inl (fun _ => 0))) (fun cA => rfl) hn hN hbytes hcells hslots hdg (fun q cA H1 hK2 hP2 hD2 hS2 => ?_)
  have e1 : cA = g.2.1.2.2 := zz_same 2 hK hK2 rfl (fun C h => by cases h)
  subst e1
  exact kk q H1 hP2 hD2 hS2
end ZA
/-- a row's entries behind its length don't matter -/
theorem zz_extE {c n : Nat} {f h : Nat → Int32} (he : ∀ k, k < n → f k = h k) : vp_cell c (n, .inl f) = vp_cell c (n, .inl h) := by
  rw [vp_cell_i, vp_cell_i, arrV, arrV]
  congr 1
  apply Array.ext
  · simp
  · intro i h1 h2
    simp only [Array.size_ofFn] at h1
    simp [he i h1]
theorem zz_extP {D : va_G} {cl : List vw_C} {ws : va_W} {H : Heap} (hP : va_P D cl ws H) (q : Nat) {a c n : Nat} {f : Nat → Int32} (h : Nat → Int32) (hq : ws[q]? = some (a, .inl (c, n, .inl f))) (he : ∀ k, k < n → f k = h k) : va_P D cl (ws.set q (a, .inl (c, n, .inl h))) H := by
  have hl := (List.getElem?_eq_some_iff.mp hq).1
  intro k x hk
  by_cases hkq : k = q
  · subst hkq
    rw [List.getElem?_set_self hl] at hk
    cases hk
    have h1 : H[a]? = some (vp_cell c (n, .inl f)) := hP k _ hq
    show H[a]? = some (vp_cell c (n, .inl h))
    rw [← zz_extE he]
    exact h1
  · rw [List.getElem?_set_ne (Ne.symm hkq)] at hk
    exact hP k x hk
