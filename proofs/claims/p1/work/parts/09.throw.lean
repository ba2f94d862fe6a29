/-! byteAt where it throws, and the law's byteAt, which catches -/
abbrev thX : String := "java/lang/ArrayIndexOutOfBoundsException"
abbrev thN : List String := ["java/lang/IndexOutOfBoundsException", "java/lang/RuntimeException", "java/lang/Exception"]
abbrev thT : String := "no such file, piece or byte of a piece"
/-- a call has ended by a throw: a new object of that kind, no old slot written -/
def th_Q (cls : String) (mc ms : Nat) (st : State) (o : Outcome) (t : State) : Prop :=
  ∃ (a : Addr) (ce : Cell), o = .threw a ∧ st.WarmedH t.vm ∧ st.sameButNew ({ t with vm := st.vm } : State) [] mc ms ∧ t.heap[a]? = some ce ∧ st.vm.findClass cls = some ce.cls ∧ ce.vm = .none ∧ st.vm.assignable ce.cls ce.cls = true
section TH1
variable {p : Program} {l : Launch} {e : Env} {R : Room} {s : State} {m : MethodId} {args : Array Value} {below : List Frame} {meth : Method} {c : Code} {locs : List Loc} {cells slots : Nat}
set_option maxHeartbeats 4000000 in
theorem th_new {T : State} (X : Stand p l e R s m args below meth c T [] cells slots) (hexec : p.tables.exec = Jvm.exec) (htr : e.platform.stackTraces = false)
    {own cls text : String} {names : List String} {ik is ic : Nat} (hown : s.vm.findClass own = some m.cls) (hcls : Bundle.fit cls = true) (hnames : ∀ n ∈ names, Bundle.fit n = true)
    (hk : (Cond.classLink own ik cls).before args s = true) (hini : (Cond.initialized cls).before args s = true) (hs : (Cond.stringRef own is text).before args s = true)
    (h : ∀ a ∈ Bundle.ownAtoms own ic cls names, a.before args s = true) (hgrow : s.heap.size ≤ T.heap.size)
    {pc : Nat} {ls : Array Slot} {rest : List Value} (hsize : ls.size = c.maxLocals)
    (d0 : decode c.code pc = .ok (.new ik, 3)) (d3 : decode c.code (pc + 3) = .ok (.dup, 1)) (d4 : decode c.code (pc + 4) = .ok (.ldc is, 2))
    (d6 : decode c.code (pc + 6) = .ok (.invokespecial ic, 3)) (d9 : decode c.code (pc + 9) = .ok (.athrow, 1)) (hout : ∀ x ∈ c.exceptionTable.toList, covers x (pc + 9) = false)
    (hRframes : names.length + 3 < R.frames) (hRlocals : (rest.map fun v => v.category).sum + (13 * (names.length + 1) + 43) ≤ R.locals) (hRcells : cells + 1 ≤ R.cells) (hRslots : slots + 6 ≤ R.slots) (hlocks : meth.locks = false) :
    ∃ U o, Steps p.tables e below (T.setTop (F0 m pc ls rest)) U ∧ U.status = .running ∧ Ended U below o ∧ th_Q cls (cells + 1) (slots + 6) s o U := by
  have hins : (Cond.instantiable cls 6).before args s = true := h _ (by simp [Bundle.ownAtoms])
  obtain ⟨vm₁, cX, kX, hfX, hkX, -, -, X₁, st1⟩ := X.newCold hexec (own := own) (C := cls) (index := ik) (n := 6) hown hk hins hini (g := F0 m pc ls rest) rfl d0 hRcells hRslots
  generalize hT : (T.setVm vm₁).pushCell { cls := cX, slots := kX.instanceTypes.map defaultValue, vm := .none } = T1 at X₁ st1
  have hcellA : T1.heap[T.heap.size]? = some (freshCell cX kX) := by rw [← hT]; exact State.heap_pushCell_size _ _
  obtain ⟨-, -, -, sa, -, -, -, -, -, hev⟩ := Cond.stringRef_spec hown hs
  obtain ⟨U, hsteps, hrun, hend, hW, hsame, ce, hce, hO⟩ := X₁.ctorThrowS hexec htr (own := own) (cls := cls) (names := names) (ic := ic) hown hcls hnames h (fun x hx => by cases hx)
    hfX hkX hcellA hgrow (msg := .ref sa) rfl
    (g := F0 m (pc + 6) ls (.ref sa :: .ref T.heap.size :: .ref T.heap.size :: rest)) rfl hsize rfl rfl (rest := rest) rfl d6 d9 hout hRframes (by simp only [List.map_cons, List.sum_cons, show (Value.ref T.heap.size).category = 1 from rfl]; show 2 * 0 + _ + _ ≤ _; omega) hlocks
  refine ⟨U, .threw T.heap.size, ?_, hrun, hend, T.heap.size, ce, rfl, hW, hsame, hce, hO.cls, hO.vm, hO.self⟩
  refine st1 _ ?_
  show Steps p.tables e below (T1.setTop (F0 m (pc + 3) ls (.ref T.heap.size :: rest))) _
  jvm_step X₁.here [X₁.here.top, hexec, d3, Value.category]
  exact X₁.ldcString hexec (own := own) (text := text) (index := is) (a := sa) hown hs hev
    (g := F0 m (pc + 4) ls (.ref T.heap.size :: .ref T.heap.size :: rest)) rfl d4 _ hsteps
end TH1
section TH2
variable {e : Env} {s : State} {f : JFrame} {a : Addr}
theorem th_find {x : ExceptionTableEntry} {k : ClassId} {cell : Cell} {vm' : Vm} (hx : covers x f.pc = true) (h0 : x.catchType ≠ 0)
    (hg : (Jvm.resolveClass f.method.cls x.catchType).Gives e.toSetting s.vm (.ok k) vm') (hsz : vm'.classes.size ≤ s.vm.classes.size)
    (hcell : s.heap[a]? = some cell) (hobj : ∀ z, cell.vm ≠ .statics z) (hk : ∃ q, vm'.classes[cell.cls]? = some q) (hc : ∃ q, vm'.classes[k]? = some q) (hfit : vm'.assignable cell.cls k = true)
    (Q : Handler → Pre) (E : CtlPost) (d : Bool) (acts : List Action) : wp (findHandler.go f a [x]) Q E e d acts s ↔ Q (.found x.handlerPc) d acts (s.setVm vm') := by
  obtain ⟨ha, ht⟩ := hg.op (op := VmOp.resolveClass f.method.cls x.catchType) rfl
  simp only [covers] at hx
  simp [findHandler.go, hx, h0, ha, ht, hsz, hcell, hobj, hk, hc, hfit, VmOp.dirties, VmOp.acts]
theorem th_step {r : List Frame} {pc : Nat} {vm' : Vm} (hfind : ∀ (Q : Handler → Pre) (E : CtlPost) (d : Bool) (acts : List Action), wp (findHandler f a) Q E e d acts s ↔ Q (.found pc) d acts (s.setVm vm')) :
    (stepThrowing e s a (.java f :: r)).Is ((s.setVm vm').setFrames (.java { f with pc := pc, stack := [.ref a] } :: r)) [] := by
  simp only [stepThrowing, searchFrame, vmDo]
  generalize hr : Sem.go _ e false [] s = res
  obtain ⟨as, rfl, ha⟩ := Sem.eq_ok_of hr (a := Handler.found pc) (s' := s.setVm vm') (acts' := []) (by simp [hfind _ _ _ _])
  exact ⟨rfl, ha⟩
end TH2
section TH3
variable {p : Program} {l : Launch} {e : Env} {R : Room} {s : State} {m : MethodId} {args : Array Value} {below : List Frame} {meth : Method} {c : Code} {H : Heap} {locs : List Loc} {cells slots : Nat} {Q : State → Prop}
set_option maxHeartbeats 4000000 in
/-- a call that throws, caught in the walked method by its one handler -/
theorem th_call {y : MethodName} {bytes cc : ByteArray} {maxL nL mc ms n index : Nat} {ret : Option FieldType} {ws : List Cond} {rm : Room} {Pc : Array Value → State → Prop} {Ts : List Cond} {own C cls : String} {b : Addr} {As rest : List Value} {pc hpc sp ep ct : Nat} {ls : Array Slot} {st : List Value}
    (S : CallFix p m c cc nL s args Ts own) (hM : MetFree l y (headSpec ws rm) Pc (fun _ _ _ _ _ => True) (fun _ st o t => th_Q cls mc ms st o t)) (cw : CallW R s args own C index y bytes maxL ret ws rm mc ms n) (hp : PreV s H C b Pc As)
    (hn : As.length = n) (hsize : ls.size = nL) (hstack : st = As.reverse ++ .ref b :: rest) (hW : (rest.map fun v => v.category).sum ≤ 8) (hdg : decode cc pc = .ok (.invokevirtual index, 3)) (hf : cells + mc ≤ R.cells ∧ slots + ms ≤ R.slots)
    (htab : c.exceptionTable.toList = [⟨sp, ep, hpc, ct⟩]) (hcov : covers ⟨sp, ep, hpc, ct⟩ pc = true) (hct : ct ≠ 0) (hlink : (Cond.classLink own ct cls).before args s = true)
    (kk : ∀ (a : Nat) (H1 : Heap), H.size ≤ H1.size → (∀ q : Nat, q < H.size → H1[q]? = H[q]?) → W p l e R s m args below meth c H1 locs (cells + mc) (slots + ms) Q (F0 m hpc ls [.ref a])) : W p l e R s m args below meth c H locs cells slots Q (F0 m pc ls st) := by
  obtain ⟨⟨hrc, hrs, hfr, hlo, hws, hcw, hcode, hini, hy, hlen, hl⟩, hin, hse⟩ := cw
  obtain ⟨hx, hb, hml, ho, -⟩ := S
  obtain ⟨hbl, ⟨cellB, hcB, hoB, hclB⟩, hPc⟩ := hp
  intro T hT X
  obtain ⟨mk, methM, hnamed, hmethM, hstM, habM⟩ := Cond.instanceMethod_spec hin
  obtain ⟨methM', cM, hmethM', -, -, -, -, -, -, hsigM⟩ := Cond.code_spec hnamed hcode
  cases hmethM.symm.trans hmethM'
  obtain ⟨c2, r2, m2, q1, q2, q3, q4, kP, hkP, hkPi⟩ := Cond.selects_spec hse
  cases hclB.symm.trans q1
  cases (State.methodFound?_of_named hnamed hy).symm.trans q2
  cases hnamed.symm.trans q3
  have hselP : selectMethod e.platform s.vm cellB.cls mk = .method mk := by rw [Launch.admits_selectMethod X.admits]; exact q4
  obtain ⟨vm₁, X₁, hstep₁⟩ := X.invokevirtual hx ho hl hnamed hmethM hstM hkP hkPi hy (a := b) (cell := cellB) (by rw [hT]; exact hcB)
    (fun z h => by rw [h] at hoB; cases hoB) hselP hmethM habM hkP hkPi (g := F0 m pc ls st) rfl (argsL := As) (rest := rest) (hn.trans (hlen _ hsigM)) hstack (by rw [hb]; exact hdg)
  have hn1 := X₁.named hnamed
  obtain ⟨kY, hkY, -⟩ := className_of_methodNamed hn1
  have hini1 : (Cond.initialized y.cls).before args (T.setVm vm₁) = true := word_at X₁.warmed (Or.inl (by first | rfl | simp [Cond.onTables, Cond.keeps, Cond.steady])) hini
  have hinitY : kY.init = .initialized := Cond.initialized_spec (findClass_of_methodNamed hn1) hkY hini1
  obtain ⟨methY, cY, hmY, hcY, -, hlY, -⟩ := Cond.code_spec hn1 (hws _ hcw args _ X₁.warmed)
  have h : At (T.setVm vm₁) (F0 m pc ls rest).method c below := X₁.here
  have happ : (headSpec ws rm).appliesLoose y e.platform ((T.setVm vm₁).calling (F0 m pc ls rest) mk (Value.ref b :: As).toArray) = true :=
    Spec.appliesLoose_calling (g := F0 m pc ls rest) h (by rw [hb]; exact hdg) hn1 hkY hinitY
      (X₁.room_calling (g := F0 m pc ls rest) (R' := rm) (hsize.trans hml.symm) hmY hcY hfr (by rw [hlY]; show 2 * 0 + (rest.map fun v => v.category).sum + _ + _ ≤ _; omega) (by rw [hrc]; exact hf.1) (by rw [hrs]; exact hf.2)) (atoms_intro fun w hw => hws w hw _ _ X₁.warmed)
  obtain ⟨mid, hmid⟩ := h.above
  have hfr2 : ((T.setVm vm₁).setTop (F0 m pc ls rest)).frames = (.java (F0 m pc ls rest) :: mid) ++ below := by rw [State.frames_setTop' _ h.top, hmid]; rfl
  obtain ⟨o, s₂, hsteps, -, hend, hq⟩ := Steps.callFree hM p X.admits X.cas X.clock (acts := []) hfr2 happ (hbl _ _ _ _ (hPc (T.setVm vm₁) hT X₁.warmed)) trivial
  have hq' : th_Q cls mc ms ((T.setVm vm₁).calling (F0 m pc ls rest) mk (Value.ref b :: As).toArray) o s₂ := hq
  obtain ⟨a, ce, rfl, hW2, hsame, hce, hfc, hvm, hasg⟩ := hq'
  rw [State.frames_setTop' _ h.top, show (T.setVm vm₁).frames.tail = below from X₁.tail] at hend
  obtain ⟨T', X', hWT, hTs, hs2⟩ := X₁.outOfThrown (g := F0 m pc ls rest) rfl hend hW2 hsame
  rw [List.append_nil] at X'
  have hT'h : T'.heap = s₂.heap := by rw [hs2]; exact (Stand.throwing_heap T' (F0 m pc ls rest) a).symm
  have hT'v : T'.vm = s₂.vm := by rw [hs2]; exact (Stand.throwing_vm T' (F0 m pc ls rest) a).symm
  have hpl : e.platform.magicAccessors = ({} : Platform).magicAccessors := by rw [X.admits.platform]
  obtain ⟨cT, hcT, hcl⟩ := Cond.classLink_spec ho hlink e.platform hpl
  have hal1 : s.vm.Alike vm₁ := X₁.warmed.alike
  have hfc' : vm₁.findClass cls = some ce.cls := hfc
  have hce' : cT = ce.cls := by
    rw [hal1.findClass] at hfc'
    exact Option.some.inj (hcT.symm.trans hfc')
  subst hce'
  have hasg1 : vm₁.assignable ce.cls ce.cls = true := hasg
  obtain ⟨dk, _, _, kt, hd, _, _, _, _, hkt, _, hopen⟩ := hcl.here
  have hcl₀ := X'.warmed.classLinks hcl
  have hW' : s.WarmedH (T'.vm.noted m.cls ct (.cls ce.cls)) := X'.warmed.noted hd hopen (State.rightAt_cls hcl)
  obtain ⟨kt', hkt', -⟩ := hW'.alike.2.2 _ _ hkt
  have X2 := X'.noted hW'
  have hTs2 : s₂.heap = T'.heap := hT'h.symm
  have hzk : H.size ≤ T'.heap.size ∧ ∀ q : Nat, q < H.size → T'.heap[q]? = H[q]? := by
    have hh : ((T.setVm vm₁).calling (F0 m pc ls rest) mk (Value.ref b :: As).toArray).heap = H := hT
    obtain ⟨-, z1, -, -, -, z2⟩ := hsame
    rw [hh] at z1 z2
    refine ⟨by rw [hT'h]; exact z1, fun q hq => ?_⟩
    obtain ⟨cq, hcq⟩ : ∃ cq, H[q]? = some cq := ⟨_, Array.getElem?_eq_getElem hq⟩
    obtain ⟨c', e1, e2, e3, e4⟩ := z2 q cq hcq
    rw [hT'h, hcq]
    refine e1.trans (congrArg some ?_)
    rw [e2]
    have : c'.slots = cq.slots := by
      apply Array.ext_getElem?
      intro i
      exact e4 i (fun hm => by cases hm)
    rw [this]
  obtain ⟨t, a1, b1⟩ := kk a T'.heap hzk.1 hzk.2 (T'.setVm (T'.vm.noted m.cls ct (.cls ce.cls))) rfl X2
  refine ⟨t, hstep₁ _ fun acts => ?_, b1⟩
  rw [doInvoke_state]
  refine hsteps.trans ?_
  rw [hs2]
  have hA : At T' (F0 m pc ls rest).method c below := X'.here
  have hmeth' : T'.vm.method? m = some meth := X'.method'
  have hcell' : T'.heap[a]? = some ce := by rw [hT'h]; exact hce
  obtain ⟨hgo, hw⟩ := hA.throwing a
  refine Steps.head hgo hw ?_
  have hfind : ∀ (Q : Handler → Pre) (E : CtlPost) (d : Bool) (acts : List Action), wp (findHandler (F0 m pc ls rest) a) Q E e d acts ((T'.setTop (F0 m pc ls rest)).pushFrame (.throwing a)) ↔ Q (.found hpc) d acts (((T'.setTop (F0 m pc ls rest)).pushFrame (.throwing a)).setVm (T'.vm.noted m.cls ct (.cls ce.cls))) := by
    intro Q E d acts
    rw [W.findHandler_eq (by rw [Stand.throwing_vm]; exact hmeth') X.code, htab]
    exact th_find (x := ⟨sp, ep, hpc, ct⟩) hcov hct (by rw [Stand.throwing_vm]; exact resolveClass_links e.toSetting hcl₀) (by rw [Stand.throwing_vm]; no_record) (by rw [Stand.throwing_heap]; exact hcell') (fun z h => by rw [hvm] at h; cases h) ⟨kt', hkt'⟩ ⟨kt', hkt'⟩ (by rw [hW'.alike.assignable, ← hal1.assignable]; exact hasg1) Q E d acts
  rw [stepThread_throwing (frames_entered hA.top _), (th_step (s := (T'.setTop (F0 m pc ls rest)).pushFrame (.throwing a)) hfind).1]
  obtain ⟨g₀, hg⟩ := Option.isSome_iff_exists.mp hA.top
  obtain ⟨r, hr⟩ := State.topJava?_eq_some.mp hg
  show Steps p.tables e below ((((T'.setTop (F0 m pc ls rest)).pushFrame (.throwing a)).setFrames (.java (F0 m hpc ls [.ref a]) :: T'.frames.tail)).setVm (T'.vm.noted m.cls ct (.cls ce.cls))) t
  rw [State.pushFrame, State.setFrames_setFrames, State.setTop_of_frames _ hr, State.setFrames_setFrames]
  have hr' : (T'.setVm (T'.vm.noted m.cls ct (.cls ce.cls))).frames = .java g₀ :: r := hr
  rw [State.setTop_of_frames _ hr'] at a1
  rw [hr]
  exact a1
end TH3
