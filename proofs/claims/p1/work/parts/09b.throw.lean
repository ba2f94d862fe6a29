/-! words of Throwable and its kin, carried from state to state -/
abbrev thL : List Cond := Bundle.ownAtoms RX1 115 thX thN
set_option maxRecDepth 20000 in
theorem th_split : ∀ w ∈ thL, (w.onTables && w.keepsFace) = true ∨ w = .laysStatic Bundle.tN "UNASSIGNED_STACK" Bundle.steD ∨ w = .laysStatic Bundle.tN "SUPPRESSED_SENTINEL" Bundle.listD ∨ w = .isRef (.static Bundle.tN "UNASSIGNED_STACK" Bundle.steD) ∨ w = .isRef (.static Bundle.tN "SUPPRESSED_SENTINEL" Bundle.listD) := by decide +kernel
theorem th_face {args args' : Array Value} {s U : State} {w : Cond} (hW : s.WarmedH U.vm) (hg : (w.onTables && w.keepsFace) = true) (h : w.before args s = true) : w.before args' U = true := by
  rw [Bool.and_eq_true] at hg
  have h1 : w.before args (s.setVm U.vm) = true := Cond.before_shiftedFace (State.Shifted.of_warmed hW) w hg.2 h
  exact va_tabs hg.1 (rfl : (s.setVm U.vm).vm = U.vm) h1
def thP (U : State) : Prop := (∀ w ∈ thL, w.before #[] U = true) ∧ (Cond.stringRef RX1 113 thT).before #[] U = true ∧ (Cond.classLink RL 13 thX).before #[] U = true
theorem th_static {args args' : Array Value} {s U : State} {C n d : String} (hW : s.WarmedH U.vm) (hh : ∀ q : Nat, q < s.heap.size → U.heap[q]? = s.heap[q]?) (h : (Cond.laysStatic C n d).before args s = true) : (Cond.laysStatic C n d).before args' U = true := by
  obtain ⟨c, k, i, f, a, cell, hc, hi, hst, ha, hcell, hs, hcls, hlt, hty⟩ := Cond.laysStatic_spec h
  obtain ⟨k', hi', hek⟩ := State.fieldFound?_setVm hW.alike hi
  exact Cond.laysStatic_of (s := U) (by rw [hW.alike.findClass]; exact hc) hi' hst (by rw [hek]; exact ha) (by rw [hh a (Array.getElem?_eq_some_iff.mp hcell).1]; exact hcell) hs hcls hlt (by rw [hek]; exact hty)
theorem th_isref {args args' : Array Value} {s U : State} {C n d : String} (hW : s.WarmedH U.vm) (hh : ∀ q : Nat, q < s.heap.size → U.heap[q]? = s.heap[q]?) (hl : (Cond.laysStatic C n d).before args s = true) (h : (Cond.isRef (.static C n d)).before args s = true) : (Cond.isRef (.static C n d)).before args' U = true := by
  obtain ⟨c, k, i, f, a, cell, hc, hi, hst, ha, hcell, hs, hcls, hlt, hty⟩ := Cond.laysStatic_spec hl
  obtain ⟨k', hi', hek⟩ := State.fieldFound?_setVm hW.alike hi
  cases hv : (Term.static C n d).eval args s none [] s with
  | none => simp [Cond.before, Cond.holds, Cond.value, hv] at h
  | some w =>
    obtain ⟨-, a2, cell2, ha2, hcell2, -, hslot⟩ := Term.static_spec hi hv
    cases ha.symm.trans ha2
    cases hcell.symm.trans hcell2
    have hv' : (Term.static C n d).eval args' U none [] U = some w := Term.static_eval (s := U) hi' hst (by rw [hek]; exact ha) (by rw [hh a (Array.getElem?_eq_some_iff.mp hcell).1]; exact hcell) hs hslot
    simp only [Cond.before, Cond.holds, Cond.value, hv] at h
    simp only [Cond.before, Cond.holds, Cond.value, hv']
    exact h
theorem th_string {args args' : Array Value} {s U : State} {C t : String} {i : Nat} (hW : s.WarmedH U.vm) (h : (Cond.stringRef C i t).before args s = true) : (Cond.stringRef C i t).before args' U = true := by
  have h1 : (Cond.stringRef C i t).before args (s.setVm U.vm) = true := Cond.stringRef_warmed hW h
  exact h1
set_option maxRecDepth 20000 in
theorem thP.move {s U : State} (hW : s.WarmedH U.vm) (hh : ∀ q : Nat, q < s.heap.size → U.heap[q]? = s.heap[q]?) (h : thP s) : thP U := by
  refine ⟨fun w hw => ?_, th_string hW h.2.1, word_at hW (Or.inl (by rfl)) h.2.2⟩
  rcases th_split w hw with hg | rfl | rfl | rfl | rfl
  · exact th_face hW hg (h.1 w hw)
  · exact th_static hW hh (h.1 _ hw)
  · exact th_static hW hh (h.1 _ hw)
  · exact th_isref hW hh (h.1 (.laysStatic Bundle.tN "UNASSIGNED_STACK" Bundle.steD) (by decide +kernel)) (h.1 _ hw)
  · exact th_isref hW hh (h.1 (.laysStatic Bundle.tN "SUPPRESSED_SENTINEL" Bundle.listD) (by decide +kernel)) (h.1 _ hw)
theorem thP.at {U : State} (h : thP U) (args : Array Value) : ∀ w ∈ thL, w.before args U = true := by
  intro w hw
  rcases th_split w hw with hg | rfl | rfl | rfl | rfl
  · exact th_face (State.WarmedH.refl U) hg (h.1 w hw)
  · exact h.1 _ hw
  · exact h.1 _ hw
  · exact h.1 _ hw
  · exact h.1 _ hw
theorem q_lt {a b : Int32} (h : ¬ b ≤ a) : a < b := by
  rw [Int32.le_iff_toInt_le] at h; rw [Int32.lt_iff_toInt_lt]; omega
set_option maxHeartbeats 4000000 in
set_option maxRecDepth 100000 in
theorem t_byteAt (l : Launch) (hfl : l.flags = flags0) (dC : Nat → ClassId) (dI : Nat → Nat → Nat) (x a f0 f1 f2 fe b0 r0 b1 r1 b2 r2 : Nat) (cR : ClassId) (pv : Int32) (p0 p1 p2 : Int32) (hbad : ¬ okB pv p0 p1 p2) : MetFree l yX1_byteAt (headSpec wsX1_byteAt ({ frames := 7, cells := 1, slots := 6, locals := 200 })) (va_Pc [.ref x, .int p0, .int p1, .int p2] (fun U => nwP U ∧ thP U ∧ va_P (dC, dI) vwCl [(x, .inr (2, [.int pv, .ref a, .ref fe, .int 0, .int 0, .int 0, .int 0, .int 0])), (a, .inl (cR, 3, .inr (.inr (.inr (.inr (gF f0 f1 f2)))))), (f0, .inr (1, [.int 0, .ref b0, .ref r0, .int 0, .int 0])), (f1, .inr (1, [.int 1, .ref b1, .ref r1, .int 0, .int 0])), (f2, .inr (1, [.int 2, .ref b2, .ref r2, .int 0, .int 0]))] U.heap ∧ va_K (dC, dI) vwCl [(cR, (.object "ThreeFiles$StoredFile"))] U)) (fun _ _ _ _ _ => True) (fun _ st o t => th_Q thX 1 6 st o t) := by
  refine MetFree.of_bodyS (code := cX1_byteAt) (maxLocals := 4) (ret := (some .int)) (by decide) ?_ ?_
  · intro args s m h hn
    obtain ⟨meth, c, h1, h2, h3, h4, h5, h6, -, -⟩ := Cond.code_spec hn (atoms_spec (ws := wsX1_byteAt) h _ List.mem_cons_self)
    exact ⟨meth, c, h1, h2, h3, h4, h5, h6⟩
  · intro p e s m args below meth c s₁ B hml hv _
    obtain ⟨rfl, hN, hT, hP, hK⟩ := hv
    have hh0 : s₁.heap = s.heap := by rw [B.state]; rfl
    suffices K : W p l e (headSpec wsX1_byteAt ({ frames := 7, cells := 1, slots := 6, locals := 200 })).room s m [.ref x, .int p0, .int p1, .int p2].toArray below meth c s.heap [] 0 0 (fun t => ∃ o, t.status = .running ∧ Ended t below o ∧ th_Q thX 1 6 s o t) (entryFrame m [.ref x, .int p0, .int p1, .int p2].toArray 4) by
      obtain ⟨t, a1, o, b1, b2, b3⟩ := K s₁ hh0 (Stand.of_body B)
      exact ⟨t, o, a1, b1, b2, b3⟩
    have hx := B.exec
    have hb := B.bytes
    have hr := B.returns
    have hts := atoms_spec (ws := wsX1_byteAt) B.pre
    have hown : s.vm.findClass RX1 = some m.cls := findClass_of_methodNamed B.named
    have hlocks := B.notSynchronized
    have hempty : c.exceptionTable.isEmpty = true := BodyLoose.noHandlers B (hts (.code yX1_byteAt cX1_byteAt 4 (some .int)) List.mem_cons_self)
    have hthr : ∀ ls : Array Slot, ls.size = 4 → W p l e (headSpec wsX1_byteAt ({ frames := 7, cells := 1, slots := 6, locals := 200 })).room s m [.ref x, .int p0, .int p1, .int p2].toArray below meth c s.heap [] 0 0 (fun t => ∃ o, t.status = .running ∧ Ended t below o ∧ th_Q thX 1 6 s o t) (F0 m 29 ls []) := by
      intro ls hsz T hTh X
      obtain ⟨U, o, h1, h2, h3, h4⟩ := th_new (cls := thX) (names := thN) (text := thT) (ik := 111) (is := 113) (ic := 115) (pc := 29) (rest := []) X hx (Launch.traces_off hfl X.admits) hown (by decide) (by decide) (hts (.classLink RX1 111 RJx00060) (by decide +kernel)) (hts (.initialized RJx00060) (by decide +kernel)) hT.2.1 (hT.at _) (by rw [hTh]; exact Nat.le_refl _) (hsz.trans hml.symm) (by rw [hb]; exact dX1_byteAt_29) (by rw [hb]; exact dX1_byteAt_32) (by rw [hb]; exact dX1_byteAt_33) (by rw [hb]; exact dX1_byteAt_35) (by rw [hb]; exact dX1_byteAt_38) (fun x hx => by rw [Array.isEmpty_iff.mp hempty] at hx; cases hx) (Nat.le_of_ble_eq_true rfl) (Nat.le_of_ble_eq_true rfl) (Nat.le_of_ble_eq_true rfl) (Nat.le_of_ble_eq_true rfl) hlocks
      exact ⟨U, h1, o, h2, h3, h4⟩
    have hP : va_P (dC, dI) vwCl [(x, .inr (2, [.int pv, .ref a, .ref fe, .int 0, .int 0, .int 0, .int 0, .int 0])), (a, .inl (cR, 3, .inr (.inr (.inr (.inr (gF f0 f1 f2)))))), (f0, .inr (1, [.int 0, .ref b0, .ref r0, .int 0, .int 0])), (f1, .inr (1, [.int 1, .ref b1, .ref r1, .int 0, .int 0])), (f2, .inr (1, [.int 2, .ref b2, .ref r2, .int 0, .int 0]))] s.heap := hP
    have hl := lv_entry ([.ref x, .int p0, .int p1, .int p2]) (n := 4) (Nat.le_of_ble_eq_true rfl)
    rw [lg_entry_eq]
    generalize (lg_sl ([.ref x, .int p0, .int p1, .int p2]) ++ List.replicate (4 - (lg_sl ([.ref x, .int p0, .int p1, .int p2])).length) Slot.unset).toArray = ls at hl ⊢
    have hl : lv_has ls 4 [(0, .ref x), (1, .int p0), (2, .int p1), (3, .int p2)] := hl
    refine lv_iload_n hx hb dX1_byteAt_0 rfl (lv_at hl 1 rfl) ?_
    have hPc := hP.sub (ws' := []) [] rfl
    have hKc := hK.sub (tys' := []) [] rfl
    refine vp_callSi ((va_runS (As := [.int p0]) (rest := []) ⟨hx, hb, hml, hown, hts⟩ (c_isFile l dC dI p0) (va_cwS 1 hts gX1_byteAt_X1_isFile rfl rfl rfl (by decide +kernel) ⟨Nat.le_of_ble_eq_true rfl, Nat.le_of_ble_eq_true rfl⟩) ⟨fun a U g mk q => by obtain ⟨q0, qP, qK⟩ := q; exact ⟨q0, qP, va_K.moved (u := U) (U := U.calling g mk a) (Vm.Alike.refl U.vm) qK⟩, fun U hU hW => ⟨rfl, by rw [hU]; exact hPc, va_K.moved hW.alike hKc⟩⟩ rfl rfl hl.1 rfl (lv_room (Nat.le_of_ble_eq_true rfl)) dX1_byteAt_1 ⟨Nat.le_of_ble_eq_true rfl, Nat.le_of_ble_eq_true rfl⟩)).run (fun r_1 hq_1 => ?_)
    rcases hq_1 with ⟨rfl, hf_1⟩ | ⟨rfl, hf_1⟩
    ·
      rcases hf_1 with rfl | rfl | rfl
      ·
        refine lv_if_eq (tgt := 29) hx hb dX1_byteAt_4 (by decide) (fun c4_2 => ?_) (fun c4_2 => ?_)
        · exact absurd c4_2 (by decide)
        ·
          refine lv_iload_n hx hb dX1_byteAt_7 rfl (lv_at hl 2 rfl) ?_
          refine lv_if_lt (tgt := 29) hx hb dX1_byteAt_8 (by decide) (fun c8_3 => ?_) (fun c8_3 => ?_)
          ·
            exact hthr ls hl.1
          ·
            refine lv_iload_n hx hb dX1_byteAt_11 rfl (lv_at hl 2 rfl) ?_
            refine lv_aload_n hx hb dX1_byteAt_12 rfl (lv_at hl 0 rfl) ?_
            refine va_get (D := (dC, dI)) (ci := 2) (v := .int pv) (C := RX1) (T := TX1) (N := 8) hx hb hts (by decide +kernel) hown hK hP 0 rfl rfl 0 (by decide) (hts (.fieldLink RX1 9 "ThreeFiles" "pieces" "I") (by decide +kernel)) (fun _ h9 => h9) rfl dX1_byteAt_13 ?_
            refine lv_icmp_ge (tgt := 29) hx hb dX1_byteAt_16 (by decide) (fun c16_4 => ?_) (fun c16_4 => ?_)
            ·
              exact hthr ls hl.1
            ·
              refine lv_iload_n hx hb dX1_byteAt_19 rfl (lv_at hl 3 rfl) ?_
              refine lv_if_lt (tgt := 29) hx hb dX1_byteAt_20 (by decide) (fun c20_5 => ?_) (fun c20_5 => ?_)
              ·
                exact hthr ls hl.1
              ·
                refine lv_iload_n hx hb dX1_byteAt_23 rfl (lv_at hl 3 rfl) ?_
                refine lv_bipush (v := 24) hx hb dX1_byteAt_24 (by decide) ?_
                refine lv_icmp_lt (tgt := 39) hx hb dX1_byteAt_26 (by decide) (fun c26_6 => ?_) (fun c26_6 => ?_)
                ·
                  exact absurd ⟨(by decide), c8_3, q_lt c16_4, c20_5, c26_6⟩ hbad
                ·
                  exact hthr ls hl.1
      ·
        refine lv_if_eq (tgt := 29) hx hb dX1_byteAt_4 (by decide) (fun c4_7 => ?_) (fun c4_7 => ?_)
        · exact absurd c4_7 (by decide)
        ·
          refine lv_iload_n hx hb dX1_byteAt_7 rfl (lv_at hl 2 rfl) ?_
          refine lv_if_lt (tgt := 29) hx hb dX1_byteAt_8 (by decide) (fun c8_8 => ?_) (fun c8_8 => ?_)
          ·
            exact hthr ls hl.1
          ·
            refine lv_iload_n hx hb dX1_byteAt_11 rfl (lv_at hl 2 rfl) ?_
            refine lv_aload_n hx hb dX1_byteAt_12 rfl (lv_at hl 0 rfl) ?_
            refine va_get (D := (dC, dI)) (ci := 2) (v := .int pv) (C := RX1) (T := TX1) (N := 8) hx hb hts (by decide +kernel) hown hK hP 0 rfl rfl 0 (by decide) (hts (.fieldLink RX1 9 "ThreeFiles" "pieces" "I") (by decide +kernel)) (fun _ h9 => h9) rfl dX1_byteAt_13 ?_
            refine lv_icmp_ge (tgt := 29) hx hb dX1_byteAt_16 (by decide) (fun c16_9 => ?_) (fun c16_9 => ?_)
            ·
              exact hthr ls hl.1
            ·
              refine lv_iload_n hx hb dX1_byteAt_19 rfl (lv_at hl 3 rfl) ?_
              refine lv_if_lt (tgt := 29) hx hb dX1_byteAt_20 (by decide) (fun c20_10 => ?_) (fun c20_10 => ?_)
              ·
                exact hthr ls hl.1
              ·
                refine lv_iload_n hx hb dX1_byteAt_23 rfl (lv_at hl 3 rfl) ?_
                refine lv_bipush (v := 24) hx hb dX1_byteAt_24 (by decide) ?_
                refine lv_icmp_lt (tgt := 39) hx hb dX1_byteAt_26 (by decide) (fun c26_11 => ?_) (fun c26_11 => ?_)
                ·
                  exact absurd ⟨(by decide), c8_8, q_lt c16_9, c20_10, c26_11⟩ hbad
                ·
                  exact hthr ls hl.1
      ·
        refine lv_if_eq (tgt := 29) hx hb dX1_byteAt_4 (by decide) (fun c4_12 => ?_) (fun c4_12 => ?_)
        · exact absurd c4_12 (by decide)
        ·
          refine lv_iload_n hx hb dX1_byteAt_7 rfl (lv_at hl 2 rfl) ?_
          refine lv_if_lt (tgt := 29) hx hb dX1_byteAt_8 (by decide) (fun c8_13 => ?_) (fun c8_13 => ?_)
          ·
            exact hthr ls hl.1
          ·
            refine lv_iload_n hx hb dX1_byteAt_11 rfl (lv_at hl 2 rfl) ?_
            refine lv_aload_n hx hb dX1_byteAt_12 rfl (lv_at hl 0 rfl) ?_
            refine va_get (D := (dC, dI)) (ci := 2) (v := .int pv) (C := RX1) (T := TX1) (N := 8) hx hb hts (by decide +kernel) hown hK hP 0 rfl rfl 0 (by decide) (hts (.fieldLink RX1 9 "ThreeFiles" "pieces" "I") (by decide +kernel)) (fun _ h9 => h9) rfl dX1_byteAt_13 ?_
            refine lv_icmp_ge (tgt := 29) hx hb dX1_byteAt_16 (by decide) (fun c16_14 => ?_) (fun c16_14 => ?_)
            ·
              exact hthr ls hl.1
            ·
              refine lv_iload_n hx hb dX1_byteAt_19 rfl (lv_at hl 3 rfl) ?_
              refine lv_if_lt (tgt := 29) hx hb dX1_byteAt_20 (by decide) (fun c20_15 => ?_) (fun c20_15 => ?_)
              ·
                exact hthr ls hl.1
              ·
                refine lv_iload_n hx hb dX1_byteAt_23 rfl (lv_at hl 3 rfl) ?_
                refine lv_bipush (v := 24) hx hb dX1_byteAt_24 (by decide) ?_
                refine lv_icmp_lt (tgt := 39) hx hb dX1_byteAt_26 (by decide) (fun c26_16 => ?_) (fun c26_16 => ?_)
                ·
                  exact absurd ⟨(by decide), c8_13, q_lt c16_14, c20_15, c26_16⟩ hbad
                ·
                  exact hthr ls hl.1
    ·
      refine lv_if_eq (tgt := 29) hx hb dX1_byteAt_4 (by decide) (fun c4_17 => ?_) (fun c4_17 => ?_)
      ·
        exact hthr ls hl.1
      · exact absurd (by decide) c4_17
section TH4
variable {p : Program} {l : Launch} {e : Env} {R : Room} {s : State} {m : MethodId} {args : Array Value} {below : List Frame} {meth : Method} {c : Code} {H : Heap} {locs : List Loc} {cells slots : Nat}
set_option maxHeartbeats 4000000 in
/-- a call of a static method that has an exception table -/
theorem th_runS {y : MethodName} {bytes cc : ByteArray} {maxL nL mc ms n index : Nat} {ret : Option FieldType} {hh : List (Nat × Nat × Nat × Nat)} {ws ws' : List Cond} {rm : Room} {Pc : Array Value → State → Prop} {Qc : Array Value → State → Outcome → State → Prop} {free : Addr → Prop} {Ts : List Cond} {own : String} {As rest : List Value} {pc : Nat} {ls : Array Slot} {st : List Value}
    (S : CallFix p m c cc nL s args Ts own) (hM : Met l y ws rm Pc Qc mc ms free) (hT : GoodIn Ts (va_wsS own index y ws)) (hw : ws = Cond.codeWith y bytes maxL ret hh :: ws') (hrc : rm.cells = mc) (hrs : rm.slots = ms)
    (hd : y.cls ≠ "java/lang/invoke/MethodHandle" ∧ y.cls ≠ "java/lang/invoke/VarHandle" ∧ (parseMethodDescriptor y.desc).map (fun d => d.parameters.length) = some n) (hR : rm.frames + 1 ≤ R.frames ∧ 8 + (maxL + 11) + rm.locals ≤ R.locals)
    (hp : PreS s H Pc As) (hn : As.length = n) (hsize : ls.size = nL) (hstack : st = As.reverse ++ rest) (hW : (rest.map fun v => v.category).sum ≤ 8) (hdg : decode cc pc = .ok (.invokestatic index, 3)) (hf : cells + mc ≤ R.cells ∧ slots + ms ≤ R.slots) :
    va_Run p l e R s m args below meth c H locs cells slots mc ms (F0 m pc ls st) rest (Qc As.toArray) free := by
  obtain ⟨hx, hb, hml, ho, ht⟩ := S
  have ok : ∀ w ∈ va_wsS own index y ws, w.before args s = true := fun w h => ht w (hT w h).1
  have hcw : Cond.codeWith y bytes maxL ret hh ∈ ws := by rw [hw]; exact List.mem_cons_self
  have hini : (Cond.initialized y.cls).before args s = true := ok _ (by simp [va_wsS])
  have hws : ∀ w ∈ ws, ∀ (a' : Array Value) (U : State), s.WarmedH U.vm → w.before a' U = true := pay_in ht (fun w h => hT w (by unfold va_wsS; exact List.mem_append_right _ h))
  have hK : Back l R p e below s args y 3 8 (PreOf R mc ms Pc) (PostOf Qc mc ms free) := va_backW (hh := hh) (bytes := bytes) (maxL := maxL) (ret := ret) hM hp.1 hrc hrs hR.1 hR.2 hws hcw (fun a' U hW => word_at hW (Or.inl (by first | rfl | simp [Cond.onTables, Cond.keeps, Cond.steady])) hini)
  intro T hTh X
  obtain ⟨mk, methM, cM, hnamed, hmethM, -, -, -, -, -, -, hsigM⟩ := Cond.codeWith_spec (hws _ hcw args s (State.WarmedH.refl s))
  have hstatic : methM.isStatic = true := Cond.static_spec hnamed hmethM (ok _ (by simp [va_wsS]))
  obtain ⟨kP, hkP, -⟩ := className_of_methodNamed hnamed
  have hinitP : kP.init = .initialized := Cond.initialized_spec (findClass_of_methodNamed hnamed) hkP hini
  have hlen : As.length = methM.sig.parameters.length := by
    have h2 := hd.2.2
    rw [hsigM] at h2
    exact hn.trans (Option.some.inj h2).symm
  obtain ⟨vm₁, X₁, hstep₁⟩ := X.invokestatic hx ho (ok (.methodLink own index y) (by simp [va_wsS])) hnamed hmethM hstatic hkP hinitP ⟨hd.1, hd.2.1⟩ (g := F0 m pc ls st) rfl (argsL := As) (rest := rest) hlen hstack (by rw [hb]; exact hdg)
  obtain ⟨v, ⟨U', l2, c2, s2⟩, X', ⟨g', mk', t, L, e1, e2, hq, h1, hL, h2, h3⟩, st'⟩ := hK m meth c ⟨T.setVm vm₁, locs, cells, slots⟩ (F0 m pc ls rest) (.invokestatic index) mk As.toArray X₁ rfl (hsize.trans hml.symm) (by rw [hb]; exact hdg) (by show 2 * 0 + (rest.map fun v => v.category).sum ≤ 8; omega) (X₁.named hnamed) ⟨hf.1, hf.2, hp.2 (T.setVm vm₁) hTh X₁.warmed⟩
  dsimp only [Pt.U, Pt.locs, Pt.cells, Pt.slots] at X' e1 e2 h1 h2 h3 st'
  subst h1; subst h2; subst h3
  exact ⟨v, (T.setVm vm₁).calling g' mk' As.toArray, t, U', L, hTh, X', hL, e1, e2, hq, fun target h => hstep₁ _ fun acts => by rw [doInvoke_state]; exact st'.trans h⟩
end TH4
set_option maxHeartbeats 4000000 in
set_option maxRecDepth 100000 in
theorem l_byteAt (l : Launch) (hfl : l.flags = flags0) (dC : Nat → ClassId) (dI : Nat → Nat → Nat) (sz : Nat) (x a f0 f1 f2 fe b0 r0 b1 r1 b2 r2 : Nat) (cR : ClassId) (pv : Int32) (ou : Nat) (kl : ClassId) (p0 p1 p2 : Int32) : Met l yL_byteAt wsL_byteAt ({ frames := 8, cells := 1, slots := 6, locals := 223 }) (va_Pc [.ref x, .int p0, .int p1, .int p2, .ref ou] (fun U => nwP U ∧ thP U ∧ U.heap.size = sz ∧ va_P (dC, dI) vwCl [(x, .inr (2, [.int pv, .ref a, .ref fe, .int 0, .int 0, .int 0, .int 0, .int 0])), (a, .inl (cR, 3, .inr (.inr (.inr (.inr (gF f0 f1 f2)))))), (f0, .inr (1, [.int 0, .ref b0, .ref r0, .int 0, .int 0])), (f1, .inr (1, [.int 1, .ref b1, .ref r1, .int 0, .int 0])), (f2, .inr (1, [.int 2, .ref b2, .ref r2, .int 0, .int 0])), (ou, .inl (kl, 1, .inr (.inl (fun _ => 0))))] U.heap ∧ va_K (dC, dI) vwCl [(cR, (.object "ThreeFiles$StoredFile")), (kl, .long)] U ∧ va_D (fun _ => True) [(x, .inr (2, [.int pv, .ref a, .ref fe, .int 0, .int 0, .int 0, .int 0, .int 0])), (a, .inl (cR, 3, .inr (.inr (.inr (.inr (gF f0 f1 f2)))))), (f0, .inr (1, [.int 0, .ref b0, .ref r0, .int 0, .int 0])), (f1, .inr (1, [.int 1, .ref b1, .ref r1, .int 0, .int 0])), (f2, .inr (1, [.int 2, .ref b2, .ref r2, .int 0, .int 0])), (ou, .inl (kl, 1, .inr (.inl (fun _ => 0))))])) (va_Qi (fun r (_ : Unit) => (r = 0 ∧ okB pv p0 p1 p2) ∨ (r = 1 ∧ ¬ okB pv p0 p1 p2)) (fun _ t => ∃ g : Nat → Int64, g 0 = 0 ∧ va_P (dC, dI) vwCl [(ou, .inl (kl, 1, .inr (.inl g)))] t.heap ∧ va_K (dC, dI) vwCl [(kl, .long)] t ∧ va_D (va_A [(x, .inr (2, [.int pv, .ref a, .ref fe, .int 0, .int 0, .int 0, .int 0, .int 0])), (a, .inl (cR, 3, .inr (.inr (.inr (.inr (gF f0 f1 f2)))))), (f0, .inr (1, [.int 0, .ref b0, .ref r0, .int 0, .int 0])), (f1, .inr (1, [.int 1, .ref b1, .ref r1, .int 0, .int 0])), (f2, .inr (1, [.int 2, .ref b2, .ref r2, .int 0, .int 0])), (ou, .inl (kl, 1, .inr (.inl (fun _ => 0))))] sz) [(ou, .inl (kl, 1, .inr (.inl g)))]) (va_A [(x, .inr (2, [.int pv, .ref a, .ref fe, .int 0, .int 0, .int 0, .int 0, .int 0])), (a, .inl (cR, 3, .inr (.inr (.inr (.inr (gF f0 f1 f2)))))), (f0, .inr (1, [.int 0, .ref b0, .ref r0, .int 0, .int 0])), (f1, .inr (1, [.int 1, .ref b1, .ref r1, .int 0, .int 0])), (f2, .inr (1, [.int 2, .ref b2, .ref r2, .int 0, .int 0])), (ou, .inl (kl, 1, .inr (.inl (fun _ => 0))))] sz)) 1 6 (va_A [(x, .inr (2, [.int pv, .ref a, .ref fe, .int 0, .int 0, .int 0, .int 0, .int 0])), (a, .inl (cR, 3, .inr (.inr (.inr (.inr (gF f0 f1 f2)))))), (f0, .inr (1, [.int 0, .ref b0, .ref r0, .int 0, .int 0])), (f1, .inr (1, [.int 1, .ref b1, .ref r1, .int 0, .int 0])), (f2, .inr (1, [.int 2, .ref b2, .ref r2, .int 0, .int 0])), (ou, .inl (kl, 1, .inr (.inl (fun _ => 0))))] sz) := by
  refine va_MetW (cc := cL_byteAt) (maxL := 6) (ret := (some .int)) (hh := [(0, 12, 15, 13)]) (by decide) rfl ?_
  intro p e s m args below meth c s₁ B hml hv
  obtain ⟨rfl, hN, hT, hsz, hP, hK, hD0⟩ := hv
  have hx := B.exec
  have hb := B.bytes
  have hr := B.returns
  have hts := atoms_spec (ws := wsL_byteAt) B.pre
  have hown : s.vm.findClass RL = some m.cls := findClass_of_methodNamed B.named
  have hlocks := B.notSynchronized
  have htab : c.exceptionTable.toList = [⟨0, 12, 15, 13⟩] := by
    obtain ⟨m9, meth9, c9, hn9, hm9, hc9, -, -, hmap, -⟩ := Cond.codeWith_spec (hts (.codeWith yL_byteAt cL_byteAt 6 (some .int) [(0, 12, 15, 13)]) List.mem_cons_self)
    cases B.named.symm.trans hn9
    cases B.method.symm.trans hm9
    cases (Stand.of_body B).code.symm.trans hc9
    obtain ⟨x, hx1, hx2⟩ := List.map_eq_singleton_iff.mp hmap
    rw [hx1]
    obtain ⟨q1, q2, q3, q4⟩ := x
    simp only [Prod.mk.injEq] at hx2
    obtain ⟨rfl, rfl, rfl, rfl⟩ := hx2
    rfl
  subst hsz
  have hD := hD0.self (sz := s.heap.size)
  generalize hAe : va_A [(x, .inr (2, [.int pv, .ref a, .ref fe, .int 0, .int 0, .int 0, .int 0, .int 0])), (a, .inl (cR, 3, .inr (.inr (.inr (.inr (gF f0 f1 f2)))))), (f0, .inr (1, [.int 0, .ref b0, .ref r0, .int 0, .int 0])), (f1, .inr (1, [.int 1, .ref b1, .ref r1, .int 0, .int 0])), (f2, .inr (1, [.int 2, .ref b2, .ref r2, .int 0, .int 0])), (ou, .inl (kl, 1, .inr (.inl (fun _ => 0))))] s.heap.size = A at hD ⊢
  have hA : ∀ q : Nat, s.heap.size ≤ q → A q := fun q h => by rw [← hAe]; exact Or.inr h
  have hS : va_S A s.heap s.heap [] := va_S.rf
  have hP : va_P (dC, dI) vwCl [(x, .inr (2, [.int pv, .ref a, .ref fe, .int 0, .int 0, .int 0, .int 0, .int 0])), (a, .inl (cR, 3, .inr (.inr (.inr (.inr (gF f0 f1 f2)))))), (f0, .inr (1, [.int 0, .ref b0, .ref r0, .int 0, .int 0])), (f1, .inr (1, [.int 1, .ref b1, .ref r1, .int 0, .int 0])), (f2, .inr (1, [.int 2, .ref b2, .ref r2, .int 0, .int 0])), (ou, .inl (kl, 1, .inr (.inl (fun _ => 0))))] s.heap := hP
  have hl := lv_entry ([.ref x, .int p0, .int p1, .int p2, .ref ou]) (n := 6) (Nat.le_of_ble_eq_true rfl)
  rw [lg_entry_eq]
  generalize (lg_sl ([.ref x, .int p0, .int p1, .int p2, .ref ou]) ++ List.replicate (6 - (lg_sl ([.ref x, .int p0, .int p1, .int p2, .ref ou])).length) Slot.unset).toArray = ls at hl ⊢
  have hl : lv_has ls 6 [(0, .ref x), (1, .int p0), (2, .int p1), (3, .int p2), (4, .ref ou)] := hl
  refine lv_aload hx hb dL_byteAt_0 (lv_at hl 4 rfl) ?_
  refine lv_iconst (v := 0) hx hb dL_byteAt_2 (by decide) ?_
  refine lv_aload_n hx hb dL_byteAt_3 rfl (lv_at hl 0 rfl) ?_
  refine lv_iload_n hx hb dL_byteAt_4 rfl (lv_at hl 1 rfl) ?_
  refine lv_iload_n hx hb dL_byteAt_5 rfl (lv_at hl 2 rfl) ?_
  refine lv_iload_n hx hb dL_byteAt_6 rfl (lv_at hl 3 rfl) ?_
  have hPc := hP.sub (ws' := [(x, .inr (2, [.int pv, .ref a, .ref fe, .int 0, .int 0, .int 0, .int 0, .int 0])), (a, .inl (cR, 3, .inr (.inr (.inr (.inr (gF f0 f1 f2)))))), (f0, .inr (1, [.int 0, .ref b0, .ref r0, .int 0, .int 0])), (f1, .inr (1, [.int 1, .ref b1, .ref r1, .int 0, .int 0])), (f2, .inr (1, [.int 2, .ref b2, .ref r2, .int 0, .int 0]))]) [0, 1, 2, 3, 4] rfl
  have hKc := hK.sub (tys' := [(cR, (.object "ThreeFiles$StoredFile"))]) [0] rfl
  by_cases hok : okB pv p0 p1 p2
  · refine vp_callSi ((va_runV (As := [.int p0, .int p1, .int p2]) (rest := [.int 0, .ref ou]) ⟨hx, hb, hml, hown, hts⟩ (c_byteAt l dC dI x a f0 f1 f2 fe b0 r0 b1 r1 b2 r2 cR pv p0 p1 p2 hok.1 hok.2.1 hok.2.2.1 hok.2.2.2.1 hok.2.2.2.2) (cwV 3 hts gL_byteAt_X1_byteAt rfl rfl rfl (by decide +kernel) ⟨Nat.le_of_ble_eq_true rfl, Nat.le_of_ble_eq_true rfl⟩) ⟨fun a U g mk q => by obtain ⟨q0, qN, qP, qK⟩ := q; exact ⟨q0, nwS qN, qP, va_K.moved (u := U) (U := U.calling g mk a) (Vm.Alike.refl U.vm) qK⟩, va_recv hKc hPc (ci := 2) (q0 := 0) rfl rfl, fun U hU hW => ⟨rfl, nwW hW hN, by rw [hU]; exact hPc, va_K.moved hW.alike hKc⟩⟩ rfl rfl hl.1 rfl (lv_room (Nat.le_of_ble_eq_true rfl)) dL_byteAt_7 ⟨Nat.le_of_ble_eq_true rfl, Nat.le_of_ble_eq_true rfl⟩).run) (fun r hq => ?_)
    obtain rfl : r = 0 := hq
    refine lv_i2l (v := (0 : Int32).toInt64) hx hb dL_byteAt_10 rfl ?_
    refine va_last hx hb hK hP hD hS 5 1 rfl rfl (i := 0) (x := (0 : Int32).toInt64) (by unfold vp_in; decide) dL_byteAt_11 (fun H locs hP hD hS => ?_)
    have hP : va_P (dC, dI) vwCl [(x, .inr (2, [.int pv, .ref a, .ref fe, .int 0, .int 0, .int 0, .int 0, .int 0])), (a, .inl (cR, 3, .inr (.inr (.inr (.inr (gF f0 f1 f2)))))), (f0, .inr (1, [.int 0, .ref b0, .ref r0, .int 0, .int 0])), (f1, .inr (1, [.int 1, .ref b1, .ref r1, .int 0, .int 0])), (f2, .inr (1, [.int 2, .ref b2, .ref r2, .int 0, .int 0])), (ou, .inl (kl, 1, .inr (.inl (vp_updL (fun _ => 0) 0 ((0 : Int32).toInt64)))))] H := hP
    have hD : va_D A [(x, .inr (2, [.int pv, .ref a, .ref fe, .int 0, .int 0, .int 0, .int 0, .int 0])), (a, .inl (cR, 3, .inr (.inr (.inr (.inr (gF f0 f1 f2)))))), (f0, .inr (1, [.int 0, .ref b0, .ref r0, .int 0, .int 0])), (f1, .inr (1, [.int 1, .ref b1, .ref r1, .int 0, .int 0])), (f2, .inr (1, [.int 2, .ref b2, .ref r2, .int 0, .int 0])), (ou, .inl (kl, 1, .inr (.inl (vp_updL (fun _ => 0) 0 ((0 : Int32).toInt64)))))] := hD
    refine lv_goto (tgt := 19) hx hb dL_byteAt_12 (by decide) ?_
    refine lv_iconst (v := 0) hx hb dL_byteAt_19 (by decide) ?_
    have hP9 := hP.sub (ws' := [(ou, .inl (kl, 1, .inr (.inl (vp_updL (fun _ => 0) 0 ((0 : Int32).toInt64)))))]) [5] rfl
    have hD9 := hD.sub (ws' := [(ou, .inl (kl, 1, .inr (.inl (vp_updL (fun _ => 0) 0 ((0 : Int32).toInt64)))))]) [5] (by decide) rfl
    have hK9 := hK.sub (tys' := [(kl, .long)]) [1] rfl
    refine W.widen (k := 1) (n := 6) (by omega) (by omega) ?_
    exact W.iret (v := 0) hx hb hr (fun t ht hW => ⟨⟨0, (), rfl, Or.inl ⟨rfl, hok⟩, _, (by rfl), by rw [ht]; exact hP9, va_K.moved hW.alike hK9, hD9⟩, hS.F ht⟩) hS.2.2 dL_byteAt_20
  · refine th_call (cls := thX) (As := [.int p0, .int p1, .int p2]) (rest := [.int 0, .ref ou]) ⟨hx, hb, hml, hown, hts⟩ (t_byteAt l hfl dC dI x a f0 f1 f2 fe b0 r0 b1 r1 b2 r2 cR pv p0 p1 p2 hok) (cwV 3 hts gL_byteAt_X1_byteAt rfl rfl rfl (by decide +kernel) ⟨Nat.le_of_ble_eq_true rfl, Nat.le_of_ble_eq_true rfl⟩) ⟨fun a U g mk q => by obtain ⟨q0, qN, qT, qP, qK⟩ := q; exact ⟨q0, nwS qN, thP.move (s := U) (U := U.calling g mk a) (State.WarmedH.refl U) (fun _ _ => rfl) qT, qP, va_K.moved (u := U) (U := U.calling g mk a) (Vm.Alike.refl U.vm) qK⟩, va_recv hKc hPc (ci := 2) (q0 := 0) rfl rfl, fun U hU hW => ⟨rfl, nwW hW hN, thP.move hW (fun q _ => by rw [hU]) hT, by rw [hU]; exact hPc, va_K.moved hW.alike hKc⟩⟩ rfl hl.1 rfl (Nat.le_of_ble_eq_true rfl) dL_byteAt_7 ⟨Nat.le_of_ble_eq_true rfl, Nat.le_of_ble_eq_true rfl⟩ htab (by decide) (by decide) (va_Nw.use rfl hT.2.2) (fun a1 H1 hz hk => ?_)
    have hP : va_P (dC, dI) vwCl [(x, .inr (2, [.int pv, .ref a, .ref fe, .int 0, .int 0, .int 0, .int 0, .int 0])), (a, .inl (cR, 3, .inr (.inr (.inr (.inr (gF f0 f1 f2)))))), (f0, .inr (1, [.int 0, .ref b0, .ref r0, .int 0, .int 0])), (f1, .inr (1, [.int 1, .ref b1, .ref r1, .int 0, .int 0])), (f2, .inr (1, [.int 2, .ref b2, .ref r2, .int 0, .int 0])), (ou, .inl (kl, 1, .inr (.inl (fun _ => 0))))] H1 := hP.kept (fun k q hq => hk q.1 ((hP k q hq).lt))
    have hS : va_S A s.heap H1 [] := ⟨hz, fun q h1 _ => hk q h1, fun l h => by cases h⟩
    refine lv_astore (lv' := [(5, .ref a1), (0, .ref x), (1, .int p0), (2, .int p1), (3, .int p2), (4, .ref ou)]) hx hb dL_byteAt_15 hl (by decide) rfl (fun ls hl => ?_)
    refine lv_iconst (v := 1) hx hb dL_byteAt_17 (by decide) ?_
    have hP9 := hP.sub (ws' := [(ou, .inl (kl, 1, .inr (.inl (fun _ => 0))))]) [5] rfl
    have hD9 := hD.sub (ws' := [(ou, .inl (kl, 1, .inr (.inl (fun _ => 0))))]) [5] (by decide) rfl
    have hK9 := hK.sub (tys' := [(kl, .long)]) [1] rfl
    refine W.widen (k := 1) (n := 6) (by omega) (by omega) ?_
    exact W.iret (v := 1) hx hb hr (fun t ht hW => ⟨⟨1, (), rfl, Or.inr ⟨rfl, hok⟩, _, (by rfl), by rw [ht]; exact hP9, va_K.moved hW.alike hK9, hD9⟩, hS.F ht⟩) hS.2.2 dL_byteAt_18
