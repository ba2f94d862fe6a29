set_option maxHeartbeats 4000000 in
set_option maxRecDepth 100000 in
theorem c_length (l : Launch) (dC : Nat → ClassId) (dI : Nat → Nat → Nat) (f : Nat) (nu : Int32) (b r : Nat) : Met l yX0_length wsX0_length ({ frames := 0, cells := 0, slots := 0, locals := 0 }) (va_Pc [.ref f] (fun U => va_P (dC, dI) vwCl [(f, .inr (1, [.int nu, .ref b, .ref r, .int 0, .int 0]))] U.heap ∧ va_K (dC, dI) vwCl [] U)) (vp_Si (fun r => r = 0)) 0 0 (fun _ => False) := by
  refine Met.ofW (cc := cX0_length) (maxL := 1) (ret := (some .int)) (by decide) rfl ?_
  intro p e s m args below meth c s₁ B hml hv
  obtain ⟨rfl, hP, hK⟩ := hv
  have hx := B.exec
  have hb := B.bytes
  have hr := B.returns
  have hts := atoms_spec (ws := wsX0_length) B.pre
  have hown : s.vm.findClass RX0 = some m.cls := findClass_of_methodNamed B.named
  have hlocks := B.notSynchronized
  have hP : va_P (dC, dI) vwCl [(f, .inr (1, [.int nu, .ref b, .ref r, .int 0, .int 0]))] s.heap := hP
  have hl := lv_entry ([.ref f]) (n := 1) (Nat.le_of_ble_eq_true rfl)
  rw [lg_entry_eq]
  generalize (lg_sl ([.ref f]) ++ List.replicate (1 - (lg_sl ([.ref f])).length) Slot.unset).toArray = ls at hl ⊢
  have hl : lv_has ls 1 [(0, .ref f)] := hl
  refine lv_aload_n hx hb dX0_length_0 rfl (lv_at hl 0 rfl) ?_
  refine va_get (D := (dC, dI)) (ci := 1) (v := .int 0) (C := RX0) (T := TX0) (N := 5) hx hb hts (by decide +kernel) hown hK hP 0 rfl rfl 3 (by decide) (hts (.fieldLink RX0 22 "ThreeFiles$StoredFile" "length" "I") (by decide +kernel)) (fun _ h9 => h9) rfl dX0_length_1 ?_
  exact W.iret (v := 0) hx hb hr (fun t ht hW => ⟨0, rfl, rfl, ht⟩) (fun _ h => absurd h List.not_mem_nil) dX0_length_4

set_option maxHeartbeats 4000000 in
set_option maxRecDepth 100000 in
theorem c_has (l : Launch) (dC : Nat → ClassId) (dI : Nat → Nat → Nat) (f : Nat) (nu : Int32) (b r : Nat) (p0 : Int32) : Met l yX0_has wsX0_has ({ frames := 0, cells := 0, slots := 0, locals := 0 }) (va_Pc [.ref f, .int p0] (fun U => va_P (dC, dI) vwCl [(f, .inr (1, [.int nu, .ref b, .ref r, .int 0, .int 0]))] U.heap ∧ va_K (dC, dI) vwCl [] U)) (vp_Si (fun r => r = 0)) 0 0 (fun _ => False) := by
  refine Met.ofW (cc := cX0_has) (maxL := 2) (ret := (some .boolean)) (by decide) rfl ?_
  intro p e s m args below meth c s₁ B hml hv
  obtain ⟨rfl, hP, hK⟩ := hv
  have hx := B.exec
  have hb := B.bytes
  have hr := B.returns
  have hts := atoms_spec (ws := wsX0_has) B.pre
  have hown : s.vm.findClass RX0 = some m.cls := findClass_of_methodNamed B.named
  have hlocks := B.notSynchronized
  have hP : va_P (dC, dI) vwCl [(f, .inr (1, [.int nu, .ref b, .ref r, .int 0, .int 0]))] s.heap := hP
  have hl := lv_entry ([.ref f, .int p0]) (n := 2) (Nat.le_of_ble_eq_true rfl)
  rw [lg_entry_eq]
  generalize (lg_sl ([.ref f, .int p0]) ++ List.replicate (2 - (lg_sl ([.ref f, .int p0])).length) Slot.unset).toArray = ls at hl ⊢
  have hl : lv_has ls 2 [(0, .ref f), (1, .int p0)] := hl
  refine lv_iload_n hx hb dX0_has_0 rfl (lv_at hl 1 rfl) ?_
  refine lv_if_lt (tgt := 16) hx hb dX0_has_1 (by decide) (fun c1_1 => ?_) (fun c1_1 => ?_)
  ·
    refine lv_iconst (v := 0) hx hb dX0_has_16 (by decide) ?_
    exact W.zret (ty := .boolean) (v := 0) hx hb hr rfl (fun t ht hW => ⟨0, rfl, rfl, ht⟩) (fun _ h => absurd h List.not_mem_nil) dX0_has_17
  ·
    refine lv_iload_n hx hb dX0_has_4 rfl (lv_at hl 1 rfl) ?_
    refine lv_aload_n hx hb dX0_has_5 rfl (lv_at hl 0 rfl) ?_
    refine va_get (D := (dC, dI)) (ci := 1) (v := .int 0) (C := RX0) (T := TX0) (N := 5) hx hb hts (by decide +kernel) hown hK hP 0 rfl rfl 3 (by decide) (hts (.fieldLink RX0 22 "ThreeFiles$StoredFile" "length" "I") (by decide +kernel)) (fun _ h9 => h9) rfl dX0_has_6 ?_
    refine lv_icmp_ge (tgt := 16) hx hb dX0_has_9 (by decide) (fun c9_2 => ?_) (fun c9_2 => ?_)
    ·
      refine lv_iconst (v := 0) hx hb dX0_has_16 (by decide) ?_
      exact W.zret (ty := .boolean) (v := 0) hx hb hr rfl (fun t ht hW => ⟨0, rfl, rfl, ht⟩) (fun _ h => absurd h List.not_mem_nil) dX0_has_17
    · exact absurd (q_ge c1_1) c9_2

set_option maxHeartbeats 4000000 in
set_option maxRecDepth 100000 in
theorem c_get (l : Launch) (dC : Nat → ClassId) (dI : Nat → Nat → Nat) (f : Nat) (nu : Int32) (b r : Nat) (p0 : Int32) : Met l yX0_get wsX0_get ({ frames := 0, cells := 0, slots := 0, locals := 0 }) (va_Pc [.ref f, .int p0] (fun U => va_P (dC, dI) vwCl [(f, .inr (1, [.int nu, .ref b, .ref r, .int 0, .int 0]))] U.heap ∧ va_K (dC, dI) vwCl [] U)) (vp_Si (fun r => r = 0)) 0 0 (fun _ => False) := by
  refine Met.ofW (cc := cX0_get) (maxL := 2) (ret := (some .int)) (by decide) rfl ?_
  intro p e s m args below meth c s₁ B hml hv
  obtain ⟨rfl, hP, hK⟩ := hv
  have hx := B.exec
  have hb := B.bytes
  have hr := B.returns
  have hts := atoms_spec (ws := wsX0_get) B.pre
  have hown : s.vm.findClass RX0 = some m.cls := findClass_of_methodNamed B.named
  have hlocks := B.notSynchronized
  have hP : va_P (dC, dI) vwCl [(f, .inr (1, [.int nu, .ref b, .ref r, .int 0, .int 0]))] s.heap := hP
  have hl := lv_entry ([.ref f, .int p0]) (n := 2) (Nat.le_of_ble_eq_true rfl)
  rw [lg_entry_eq]
  generalize (lg_sl ([.ref f, .int p0]) ++ List.replicate (2 - (lg_sl ([.ref f, .int p0])).length) Slot.unset).toArray = ls at hl ⊢
  have hl : lv_has ls 2 [(0, .ref f), (1, .int p0)] := hl
  refine lv_iload_n hx hb dX0_get_0 rfl (lv_at hl 1 rfl) ?_
  refine lv_if_lt (tgt := 21) hx hb dX0_get_1 (by decide) (fun c1_1 => ?_) (fun c1_1 => ?_)
  ·
    refine lv_iconst (v := 0) hx hb dX0_get_21 (by decide) ?_
    exact W.iret (v := 0) hx hb hr (fun t ht hW => ⟨0, rfl, rfl, ht⟩) (fun _ h => absurd h List.not_mem_nil) dX0_get_22
  ·
    refine lv_iload_n hx hb dX0_get_4 rfl (lv_at hl 1 rfl) ?_
    refine lv_aload_n hx hb dX0_get_5 rfl (lv_at hl 0 rfl) ?_
    refine va_get (D := (dC, dI)) (ci := 1) (v := .int 0) (C := RX0) (T := TX0) (N := 5) hx hb hts (by decide +kernel) hown hK hP 0 rfl rfl 3 (by decide) (hts (.fieldLink RX0 22 "ThreeFiles$StoredFile" "length" "I") (by decide +kernel)) (fun _ h9 => h9) rfl dX0_get_6 ?_
    refine lv_icmp_ge (tgt := 21) hx hb dX0_get_9 (by decide) (fun c9_2 => ?_) (fun c9_2 => ?_)
    ·
      refine lv_iconst (v := 0) hx hb dX0_get_21 (by decide) ?_
      exact W.iret (v := 0) hx hb hr (fun t ht hW => ⟨0, rfl, rfl, ht⟩) (fun _ h => absurd h List.not_mem_nil) dX0_get_22
    · exact absurd (q_ge c1_1) c9_2

set_option maxHeartbeats 4000000 in
set_option maxRecDepth 100000 in
theorem c_isFile (l : Launch) (dC : Nat → ClassId) (dI : Nat → Nat → Nat) (p0 : Int32) : Met l yX1_isFile wsX1_isFile ({ frames := 0, cells := 0, slots := 0, locals := 0 }) (va_Pc [.int p0] (fun U => va_P (dC, dI) vwCl [] U.heap ∧ va_K (dC, dI) vwCl [] U)) (vp_Si (fun r => (r = 1 ∧ (p0 = 0 ∨ p0 = 1 ∨ p0 = 2)) ∨ (r = 0 ∧ (p0 < 0 ∨ 3 ≤ p0)))) 0 0 (fun _ => False) := by
  refine Met.ofW (cc := cX1_isFile) (maxL := 1) (ret := (some .boolean)) (by decide) rfl ?_
  intro p e s m args below meth c s₁ B hml hv
  obtain ⟨rfl, hP, hK⟩ := hv
  have hx := B.exec
  have hb := B.bytes
  have hr := B.returns
  have hts := atoms_spec (ws := wsX1_isFile) B.pre
  have hown : s.vm.findClass RX1 = some m.cls := findClass_of_methodNamed B.named
  have hlocks := B.notSynchronized
  have hP : va_P (dC, dI) vwCl [] s.heap := hP
  have hl := lv_entry ([.int p0]) (n := 1) (Nat.le_of_ble_eq_true rfl)
  rw [lg_entry_eq]
  generalize (lg_sl ([.int p0]) ++ List.replicate (1 - (lg_sl ([.int p0])).length) Slot.unset).toArray = ls at hl ⊢
  have hl : lv_has ls 1 [(0, .int p0)] := hl
  refine lv_iload_n hx hb dX1_isFile_0 rfl (lv_at hl 0 rfl) ?_
  refine lv_if_lt (tgt := 13) hx hb dX1_isFile_1 (by decide) (fun c1_1 => ?_) (fun c1_1 => ?_)
  ·
    refine lv_iconst (v := 0) hx hb dX1_isFile_13 (by decide) ?_
    exact W.zret (ty := .boolean) (v := 0) hx hb hr rfl (fun t ht hW => ⟨0, rfl, Or.inr ⟨rfl, Or.inl c1_1⟩, ht⟩) (fun _ h => absurd h List.not_mem_nil) dX1_isFile_14
  ·
    refine lv_iload_n hx hb dX1_isFile_4 rfl (lv_at hl 0 rfl) ?_
    refine lv_iconst (v := 3) hx hb dX1_isFile_5 (by decide) ?_
    refine lv_icmp_ge (tgt := 13) hx hb dX1_isFile_6 (by decide) (fun c6_2 => ?_) (fun c6_2 => ?_)
    ·
      refine lv_iconst (v := 0) hx hb dX1_isFile_13 (by decide) ?_
      exact W.zret (ty := .boolean) (v := 0) hx hb hr rfl (fun t ht hW => ⟨0, rfl, Or.inr ⟨rfl, Or.inr c6_2⟩, ht⟩) (fun _ h => absurd h List.not_mem_nil) dX1_isFile_14
    ·
      refine lv_iconst (v := 1) hx hb dX1_isFile_9 (by decide) ?_
      refine lv_goto (tgt := 14) hx hb dX1_isFile_10 (by decide) ?_
      exact W.zret (ty := .boolean) (v := 1) hx hb hr rfl (fun t ht hW => ⟨1, rfl, Or.inl ⟨rfl, q_file c1_1 c6_2⟩, ht⟩) (fun _ h => absurd h List.not_mem_nil) dX1_isFile_14

set_option maxHeartbeats 4000000 in
set_option maxRecDepth 100000 in
theorem c_isYear (l : Launch) (dC : Nat → ClassId) (dI : Nat → Nat → Nat) (p0 : Int32) : Met l yX1_isYear wsX1_isYear ({ frames := 0, cells := 0, slots := 0, locals := 0 }) (va_Pc [.int p0] (fun U => va_P (dC, dI) vwCl [] U.heap ∧ va_K (dC, dI) vwCl [] U)) (vp_Si (fun r => r = 1 ∨ r = 0)) 0 0 (fun _ => False) := by
  refine Met.ofW (cc := cX1_isYear) (maxL := 1) (ret := (some .boolean)) (by decide) rfl ?_
  intro p e s m args below meth c s₁ B hml hv
  obtain ⟨rfl, hP, hK⟩ := hv
  have hx := B.exec
  have hb := B.bytes
  have hr := B.returns
  have hts := atoms_spec (ws := wsX1_isYear) B.pre
  have hown : s.vm.findClass RX1 = some m.cls := findClass_of_methodNamed B.named
  have hlocks := B.notSynchronized
  have hP : va_P (dC, dI) vwCl [] s.heap := hP
  have hl := lv_entry ([.int p0]) (n := 1) (Nat.le_of_ble_eq_true rfl)
  rw [lg_entry_eq]
  generalize (lg_sl ([.int p0]) ++ List.replicate (1 - (lg_sl ([.int p0])).length) Slot.unset).toArray = ls at hl ⊢
  have hl : lv_has ls 1 [(0, .int p0)] := hl
  refine lv_iload_n hx hb dX1_isYear_0 rfl (lv_at hl 0 rfl) ?_
  refine lv_iconst (v := 1) hx hb dX1_isYear_1 (by decide) ?_
  refine lv_icmp_lt (tgt := 15) hx hb dX1_isYear_2 (by decide) (fun c2_1 => ?_) (fun c2_1 => ?_)
  ·
    refine lv_iconst (v := 0) hx hb dX1_isYear_15 (by decide) ?_
    exact W.zret (ty := .boolean) (v := 0) hx hb hr rfl (fun t ht hW => ⟨0, rfl, Or.inr rfl, ht⟩) (fun _ h => absurd h List.not_mem_nil) dX1_isYear_16
  ·
    refine lv_iload_n hx hb dX1_isYear_5 rfl (lv_at hl 0 rfl) ?_
    refine lv_bipush (v := 100) hx hb dX1_isYear_6 (by decide) ?_
    refine lv_icmp_gt (tgt := 15) hx hb dX1_isYear_8 (by decide) (fun c8_2 => ?_) (fun c8_2 => ?_)
    ·
      refine lv_iconst (v := 0) hx hb dX1_isYear_15 (by decide) ?_
      exact W.zret (ty := .boolean) (v := 0) hx hb hr rfl (fun t ht hW => ⟨0, rfl, Or.inr rfl, ht⟩) (fun _ h => absurd h List.not_mem_nil) dX1_isYear_16
    ·
      refine lv_iconst (v := 1) hx hb dX1_isYear_11 (by decide) ?_
      refine lv_goto (tgt := 16) hx hb dX1_isYear_12 (by decide) ?_
      exact W.zret (ty := .boolean) (v := 1) hx hb hr rfl (fun t ht hW => ⟨1, rfl, Or.inl rfl, ht⟩) (fun _ h => absurd h List.not_mem_nil) dX1_isYear_16

set_option maxHeartbeats 4000000 in
set_option maxRecDepth 100000 in
theorem c_stripeCount (l : Launch) (dC : Nat → ClassId) (dI : Nat → Nat → Nat) (x a f0 f1 f2 fe b0 r0 b1 r1 b2 r2 : Nat) (cR : ClassId) (pv : Int32) : Met l yX1_stripeCount wsX1_stripeCount ({ frames := 1, cells := 0, slots := 0, locals := 20 }) (va_Pc [.ref x] (fun U => nwP U ∧ va_P (dC, dI) vwCl [(x, .inr (2, [.int pv, .ref a, .ref fe, .int 0, .int 0, .int 0, .int 0, .int 0])), (a, .inl (cR, 3, .inr (.inr (.inr (.inr (gF f0 f1 f2)))))), (f0, .inr (1, [.int 0, .ref b0, .ref r0, .int 0, .int 0])), (f1, .inr (1, [.int 1, .ref b1, .ref r1, .int 0, .int 0])), (f2, .inr (1, [.int 2, .ref b2, .ref r2, .int 0, .int 0]))] U.heap ∧ va_K (dC, dI) vwCl [(cR, (.object "ThreeFiles$StoredFile"))] U)) (vp_Si (fun r => r = 0)) 0 0 (fun _ => False) := by
  refine Met.ofW (cc := cX1_stripeCount) (maxL := 3) (ret := (some .int)) (by decide) rfl ?_
  intro p e s m args below meth c s₁ B hml hv
  obtain ⟨rfl, hN, hP, hK⟩ := hv
  have hx := B.exec
  have hb := B.bytes
  have hr := B.returns
  have hts := atoms_spec (ws := wsX1_stripeCount) B.pre
  have hown : s.vm.findClass RX1 = some m.cls := findClass_of_methodNamed B.named
  have hlocks := B.notSynchronized
  have hP : va_P (dC, dI) vwCl [(x, .inr (2, [.int pv, .ref a, .ref fe, .int 0, .int 0, .int 0, .int 0, .int 0])), (a, .inl (cR, 3, .inr (.inr (.inr (.inr (gF f0 f1 f2)))))), (f0, .inr (1, [.int 0, .ref b0, .ref r0, .int 0, .int 0])), (f1, .inr (1, [.int 1, .ref b1, .ref r1, .int 0, .int 0])), (f2, .inr (1, [.int 2, .ref b2, .ref r2, .int 0, .int 0]))] s.heap := hP
  have hl := lv_entry ([.ref x]) (n := 3) (Nat.le_of_ble_eq_true rfl)
  rw [lg_entry_eq]
  generalize (lg_sl ([.ref x]) ++ List.replicate (3 - (lg_sl ([.ref x])).length) Slot.unset).toArray = ls at hl ⊢
  have hl : lv_has ls 3 [(0, .ref x)] := hl
  refine lv_iconst (v := 0) hx hb dX1_stripeCount_0 (by decide) ?_
  refine lv_istore_n (lv' := [(1, .int 0), (0, .ref x)]) hx hb dX1_stripeCount_1 rfl hl (by decide) rfl (fun ls hl => ?_)
  refine lv_iconst (v := 0) hx hb dX1_stripeCount_2 (by decide) ?_
  refine lv_istore_n (lv' := [(2, .int 0), (1, .int 0), (0, .ref x)]) hx hb dX1_stripeCount_3 rfl hl (by decide) rfl (fun ls hl => ?_)
  refine lv_iload_n hx hb dX1_stripeCount_4 rfl (lv_at hl 0 rfl) ?_
  refine lv_iconst (v := 3) hx hb dX1_stripeCount_5 (by decide) ?_
  refine lv_icmp_ge (tgt := 32) hx hb dX1_stripeCount_6 (by decide) (fun c6_1 => ?_) (fun c6_1 => ?_)
  · exact absurd c6_1 (by decide)
  ·
    refine lv_iload_n hx hb dX1_stripeCount_9 rfl (lv_at hl 1 rfl) ?_
    refine lv_aload_n hx hb dX1_stripeCount_10 rfl (lv_at hl 2 rfl) ?_
    refine va_get (D := (dC, dI)) (ci := 2) (v := .ref a) (C := RX1) (T := TX1) (N := 8) hx hb hts (by decide +kernel) hown hK hP 0 rfl rfl 1 (by decide) (hts (.fieldLink RX1 15 "ThreeFiles" "files" "[LThreeFiles$StoredFile;") (by decide +kernel)) (fun _ h9 => h9) rfl dX1_stripeCount_11 ?_
    refine lv_iload_n hx hb dX1_stripeCount_14 rfl (lv_at hl 0 rfl) ?_
    refine va_aldq hx hb hK hP 1 0 rfl rfl (i := 0) (by unfold vp_in; decide) dX1_stripeCount_15 ?_
    refine W.eq (g2 := F0 m 16 ls [.ref f0, .int 0]) (by rfl) ?_
    have hPc := hP.sub (ws' := [(f0, .inr (1, [.int 0, .ref b0, .ref r0, .int 0, .int 0]))]) [2] rfl
    have hKc := hK.sub (tys' := []) [] rfl
    refine vp_callSi ((va_runVN (As := []) (rest := [.int 0]) ⟨hx, hb, hml, hown, hts⟩ (c_length l dC dI f0 0 b0 r0) ⟨va_cnB 0 hts gX1_stripeCount_X0_length_n66 rfl rfl rfl hN.n66 (hts (.initialized RX0) (by decide +kernel)) (by decide +kernel) ⟨Nat.le_of_ble_eq_true rfl, Nat.le_of_ble_eq_true rfl⟩, hts (.instanceMethod yX0_length) (by decide +kernel), hts (.selects RX0 yX0_length yX0_length) (by decide +kernel)⟩ ⟨fun a U g mk q => by obtain ⟨q0, qP, qK⟩ := q; exact ⟨q0, qP, va_K.moved (u := U) (U := U.calling g mk a) (Vm.Alike.refl U.vm) qK⟩, va_recv hKc hPc (ci := 1) (q0 := 0) rfl rfl, fun U hU hW => ⟨rfl, by rw [hU]; exact hPc, va_K.moved hW.alike hKc⟩⟩ rfl rfl hl.1 rfl (lv_room (Nat.le_of_ble_eq_true rfl)) dX1_stripeCount_16 ⟨Nat.le_of_ble_eq_true rfl, Nat.le_of_ble_eq_true rfl⟩)).run (fun r_2 hq_2 => ?_)
    obtain rfl : r_2 = 0 := hq_2
    refine lv_bipush (v := 24) hx hb dX1_stripeCount_19 (by decide) ?_
    refine lv_idiv hx hb dX1_stripeCount_21 (by decide) ?_
    refine W.eq (g2 := F0 m 22 ls [.int 0, .int 0]) (by rfl) ?_
    refine va_mmax hx hb (hml.trans hl.1.symm) hown (hts (.methodLink RX1 125 Lib.Math.max.name) (by decide +kernel)) (hts (.static Lib.Math.max.name) (by decide +kernel)) (hts (.initialized "java/lang/Math") (by decide +kernel)) (hts (.code Lib.Math.max.name Lib.Math.max.code 2 (some .int)) (by decide +kernel)) (Nat.le_of_ble_eq_true rfl) (Nat.le_of_ble_eq_true rfl) (Nat.zero_le _) (Nat.zero_le _) dX1_stripeCount_22 ?_
    refine W.eq (g2 := F0 m 25 ls [.int 0]) (by rfl) ?_
    refine lv_istore_n (lv' := [(1, .int 0), (2, .int 0), (0, .ref x)]) hx hb dX1_stripeCount_25 rfl hl (by decide) rfl (fun ls hl => ?_)
    refine lv_iinc (v := 1) (lv' := [(2, .int 1), (1, .int 0), (0, .ref x)]) hx hb dX1_stripeCount_26 hl (k := 1) rfl (by decide) (by decide) rfl (fun ls hl => ?_)
    refine lv_goto (tgt := 4) hx hb dX1_stripeCount_29 (by decide) ?_
    refine lv_iload_n hx hb dX1_stripeCount_4 rfl (lv_at hl 0 rfl) ?_
    refine lv_iconst (v := 3) hx hb dX1_stripeCount_5 (by decide) ?_
    refine lv_icmp_ge (tgt := 32) hx hb dX1_stripeCount_6 (by decide) (fun c6_3 => ?_) (fun c6_3 => ?_)
    · exact absurd c6_3 (by decide)
    ·
      refine lv_iload_n hx hb dX1_stripeCount_9 rfl (lv_at hl 1 rfl) ?_
      refine lv_aload_n hx hb dX1_stripeCount_10 rfl (lv_at hl 2 rfl) ?_
      refine va_get (D := (dC, dI)) (ci := 2) (v := .ref a) (C := RX1) (T := TX1) (N := 8) hx hb hts (by decide +kernel) hown hK hP 0 rfl rfl 1 (by decide) (hts (.fieldLink RX1 15 "ThreeFiles" "files" "[LThreeFiles$StoredFile;") (by decide +kernel)) (fun _ h9 => h9) rfl dX1_stripeCount_11 ?_
      refine lv_iload_n hx hb dX1_stripeCount_14 rfl (lv_at hl 0 rfl) ?_
      refine va_aldq hx hb hK hP 1 0 rfl rfl (i := 1) (by unfold vp_in; decide) dX1_stripeCount_15 ?_
      refine W.eq (g2 := F0 m 16 ls [.ref f1, .int 0]) (by rfl) ?_
      have hPc := hP.sub (ws' := [(f1, .inr (1, [.int 1, .ref b1, .ref r1, .int 0, .int 0]))]) [3] rfl
      have hKc := hK.sub (tys' := []) [] rfl
      refine vp_callSi ((va_runVN (As := []) (rest := [.int 0]) ⟨hx, hb, hml, hown, hts⟩ (c_length l dC dI f1 1 b1 r1) ⟨va_cnB 0 hts gX1_stripeCount_X0_length_n66 rfl rfl rfl hN.n66 (hts (.initialized RX0) (by decide +kernel)) (by decide +kernel) ⟨Nat.le_of_ble_eq_true rfl, Nat.le_of_ble_eq_true rfl⟩, hts (.instanceMethod yX0_length) (by decide +kernel), hts (.selects RX0 yX0_length yX0_length) (by decide +kernel)⟩ ⟨fun a U g mk q => by obtain ⟨q0, qP, qK⟩ := q; exact ⟨q0, qP, va_K.moved (u := U) (U := U.calling g mk a) (Vm.Alike.refl U.vm) qK⟩, va_recv hKc hPc (ci := 1) (q0 := 0) rfl rfl, fun U hU hW => ⟨rfl, by rw [hU]; exact hPc, va_K.moved hW.alike hKc⟩⟩ rfl rfl hl.1 rfl (lv_room (Nat.le_of_ble_eq_true rfl)) dX1_stripeCount_16 ⟨Nat.le_of_ble_eq_true rfl, Nat.le_of_ble_eq_true rfl⟩)).run (fun r_4 hq_4 => ?_)
      obtain rfl : r_4 = 0 := hq_4
      refine lv_bipush (v := 24) hx hb dX1_stripeCount_19 (by decide) ?_
      refine lv_idiv hx hb dX1_stripeCount_21 (by decide) ?_
      refine W.eq (g2 := F0 m 22 ls [.int 0, .int 0]) (by rfl) ?_
      refine va_mmax hx hb (hml.trans hl.1.symm) hown (hts (.methodLink RX1 125 Lib.Math.max.name) (by decide +kernel)) (hts (.static Lib.Math.max.name) (by decide +kernel)) (hts (.initialized "java/lang/Math") (by decide +kernel)) (hts (.code Lib.Math.max.name Lib.Math.max.code 2 (some .int)) (by decide +kernel)) (Nat.le_of_ble_eq_true rfl) (Nat.le_of_ble_eq_true rfl) (Nat.zero_le _) (Nat.zero_le _) dX1_stripeCount_22 ?_
      refine W.eq (g2 := F0 m 25 ls [.int 0]) (by rfl) ?_
      refine lv_istore_n (lv' := [(1, .int 0), (2, .int 1), (0, .ref x)]) hx hb dX1_stripeCount_25 rfl hl (by decide) rfl (fun ls hl => ?_)
      refine lv_iinc (v := 2) (lv' := [(2, .int 2), (1, .int 0), (0, .ref x)]) hx hb dX1_stripeCount_26 hl (k := 1) rfl (by decide) (by decide) rfl (fun ls hl => ?_)
      refine lv_goto (tgt := 4) hx hb dX1_stripeCount_29 (by decide) ?_
      refine lv_iload_n hx hb dX1_stripeCount_4 rfl (lv_at hl 0 rfl) ?_
      refine lv_iconst (v := 3) hx hb dX1_stripeCount_5 (by decide) ?_
      refine lv_icmp_ge (tgt := 32) hx hb dX1_stripeCount_6 (by decide) (fun c6_5 => ?_) (fun c6_5 => ?_)
      · exact absurd c6_5 (by decide)
      ·
        refine lv_iload_n hx hb dX1_stripeCount_9 rfl (lv_at hl 1 rfl) ?_
        refine lv_aload_n hx hb dX1_stripeCount_10 rfl (lv_at hl 2 rfl) ?_
        refine va_get (D := (dC, dI)) (ci := 2) (v := .ref a) (C := RX1) (T := TX1) (N := 8) hx hb hts (by decide +kernel) hown hK hP 0 rfl rfl 1 (by decide) (hts (.fieldLink RX1 15 "ThreeFiles" "files" "[LThreeFiles$StoredFile;") (by decide +kernel)) (fun _ h9 => h9) rfl dX1_stripeCount_11 ?_
        refine lv_iload_n hx hb dX1_stripeCount_14 rfl (lv_at hl 0 rfl) ?_
        refine va_aldq hx hb hK hP 1 0 rfl rfl (i := 2) (by unfold vp_in; decide) dX1_stripeCount_15 ?_
        refine W.eq (g2 := F0 m 16 ls [.ref f2, .int 0]) (by rfl) ?_
        have hPc := hP.sub (ws' := [(f2, .inr (1, [.int 2, .ref b2, .ref r2, .int 0, .int 0]))]) [4] rfl
        have hKc := hK.sub (tys' := []) [] rfl
        refine vp_callSi ((va_runVN (As := []) (rest := [.int 0]) ⟨hx, hb, hml, hown, hts⟩ (c_length l dC dI f2 2 b2 r2) ⟨va_cnB 0 hts gX1_stripeCount_X0_length_n66 rfl rfl rfl hN.n66 (hts (.initialized RX0) (by decide +kernel)) (by decide +kernel) ⟨Nat.le_of_ble_eq_true rfl, Nat.le_of_ble_eq_true rfl⟩, hts (.instanceMethod yX0_length) (by decide +kernel), hts (.selects RX0 yX0_length yX0_length) (by decide +kernel)⟩ ⟨fun a U g mk q => by obtain ⟨q0, qP, qK⟩ := q; exact ⟨q0, qP, va_K.moved (u := U) (U := U.calling g mk a) (Vm.Alike.refl U.vm) qK⟩, va_recv hKc hPc (ci := 1) (q0 := 0) rfl rfl, fun U hU hW => ⟨rfl, by rw [hU]; exact hPc, va_K.moved hW.alike hKc⟩⟩ rfl rfl hl.1 rfl (lv_room (Nat.le_of_ble_eq_true rfl)) dX1_stripeCount_16 ⟨Nat.le_of_ble_eq_true rfl, Nat.le_of_ble_eq_true rfl⟩)).run (fun r_6 hq_6 => ?_)
        obtain rfl : r_6 = 0 := hq_6
        refine lv_bipush (v := 24) hx hb dX1_stripeCount_19 (by decide) ?_
        refine lv_idiv hx hb dX1_stripeCount_21 (by decide) ?_
        refine W.eq (g2 := F0 m 22 ls [.int 0, .int 0]) (by rfl) ?_
        refine va_mmax hx hb (hml.trans hl.1.symm) hown (hts (.methodLink RX1 125 Lib.Math.max.name) (by decide +kernel)) (hts (.static Lib.Math.max.name) (by decide +kernel)) (hts (.initialized "java/lang/Math") (by decide +kernel)) (hts (.code Lib.Math.max.name Lib.Math.max.code 2 (some .int)) (by decide +kernel)) (Nat.le_of_ble_eq_true rfl) (Nat.le_of_ble_eq_true rfl) (Nat.zero_le _) (Nat.zero_le _) dX1_stripeCount_22 ?_
        refine W.eq (g2 := F0 m 25 ls [.int 0]) (by rfl) ?_
        refine lv_istore_n (lv' := [(1, .int 0), (2, .int 2), (0, .ref x)]) hx hb dX1_stripeCount_25 rfl hl (by decide) rfl (fun ls hl => ?_)
        refine lv_iinc (v := 3) (lv' := [(2, .int 3), (1, .int 0), (0, .ref x)]) hx hb dX1_stripeCount_26 hl (k := 1) rfl (by decide) (by decide) rfl (fun ls hl => ?_)
        refine lv_goto (tgt := 4) hx hb dX1_stripeCount_29 (by decide) ?_
        refine lv_iload_n hx hb dX1_stripeCount_4 rfl (lv_at hl 0 rfl) ?_
        refine lv_iconst (v := 3) hx hb dX1_stripeCount_5 (by decide) ?_
        refine lv_icmp_ge (tgt := 32) hx hb dX1_stripeCount_6 (by decide) (fun c6_7 => ?_) (fun c6_7 => ?_)
        ·
          refine lv_iload_n hx hb dX1_stripeCount_32 rfl (lv_at hl 1 rfl) ?_
          exact W.iret (v := 0) hx hb hr (fun t ht hW => ⟨0, rfl, rfl, ht⟩) (fun _ h => absurd h List.not_mem_nil) dX1_stripeCount_33
        · exact absurd (by decide) c6_7

set_option maxHeartbeats 4000000 in
set_option maxRecDepth 100000 in
theorem c_readRowByte (l : Launch) (dC : Nat → ClassId) (dI : Nat → Nat → Nat) (x a f0 f1 f2 fe b0 r0 b1 r1 b2 r2 : Nat) (cR : ClassId) (pv : Int32) (p0 : Int32) (p1 : Int32) : Met l yX1_readRowByte wsX1_readRowByte ({ frames := 2, cells := 0, slots := 0, locals := 42 }) (va_Pc [.ref x, .int p0, .int p1] (fun U => nwP U ∧ va_P (dC, dI) vwCl [(x, .inr (2, [.int pv, .ref a, .ref fe, .int 0, .int 0, .int 0, .int 0, .int 0])), (a, .inl (cR, 3, .inr (.inr (.inr (.inr (gF f0 f1 f2)))))), (f0, .inr (1, [.int 0, .ref b0, .ref r0, .int 0, .int 0])), (f1, .inr (1, [.int 1, .ref b1, .ref r1, .int 0, .int 0])), (f2, .inr (1, [.int 2, .ref b2, .ref r2, .int 0, .int 0]))] U.heap ∧ va_K (dC, dI) vwCl [(cR, (.object "ThreeFiles$StoredFile"))] U)) (vp_Si (fun r => r = (-1))) 0 0 (fun _ => False) := by
  refine Met.ofW (cc := cX1_readRowByte) (maxL := 5) (ret := (some .int)) (by decide) rfl ?_
  intro p e s m args below meth c s₁ B hml hv
  obtain ⟨rfl, hN, hP, hK⟩ := hv
  have hx := B.exec
  have hb := B.bytes
  have hr := B.returns
  have hts := atoms_spec (ws := wsX1_readRowByte) B.pre
  have hown : s.vm.findClass RX1 = some m.cls := findClass_of_methodNamed B.named
  have hlocks := B.notSynchronized
  have hP : va_P (dC, dI) vwCl [(x, .inr (2, [.int pv, .ref a, .ref fe, .int 0, .int 0, .int 0, .int 0, .int 0])), (a, .inl (cR, 3, .inr (.inr (.inr (.inr (gF f0 f1 f2)))))), (f0, .inr (1, [.int 0, .ref b0, .ref r0, .int 0, .int 0])), (f1, .inr (1, [.int 1, .ref b1, .ref r1, .int 0, .int 0])), (f2, .inr (1, [.int 2, .ref b2, .ref r2, .int 0, .int 0]))] s.heap := hP
  have hl := lv_entry ([.ref x, .int p0, .int p1]) (n := 5) (Nat.le_of_ble_eq_true rfl)
  rw [lg_entry_eq]
  generalize (lg_sl ([.ref x, .int p0, .int p1]) ++ List.replicate (5 - (lg_sl ([.ref x, .int p0, .int p1])).length) Slot.unset).toArray = ls at hl ⊢
  have hl : lv_has ls 5 [(0, .ref x), (1, .int p0), (2, .int p1)] := hl
  refine lv_iload_n hx hb dX1_readRowByte_0 rfl (lv_at hl 1 rfl) ?_
  refine lv_iconst (v := 2) hx hb dX1_readRowByte_1 (by decide) ?_
  refine lv_idiv hx hb dX1_readRowByte_2 (by decide) ?_
  refine lv_topi (fun v2_1 ev2_1 => ?_)
  refine lv_istore_n (lv' := [(3, .int v2_1), (0, .ref x), (1, .int p0), (2, .int p1)]) hx hb dX1_readRowByte_3 rfl hl (by decide) rfl (fun ls hl => ?_)
  refine lv_iload_n hx hb dX1_readRowByte_4 rfl (lv_at hl 2 rfl) ?_
  refine lv_if_lt (tgt := 16) hx hb dX1_readRowByte_5 (by decide) (fun c5_2 => ?_) (fun c5_2 => ?_)
  ·
    refine lv_iconst (v := (-1)) hx hb dX1_readRowByte_16 (by decide) ?_
    exact W.iret (v := (-1)) hx hb hr (fun t ht hW => ⟨(-1), rfl, rfl, ht⟩) (fun _ h => absurd h List.not_mem_nil) dX1_readRowByte_17
  ·
    refine lv_iload_n hx hb dX1_readRowByte_8 rfl (lv_at hl 0 rfl) ?_
    refine lv_aload_n hx hb dX1_readRowByte_9 rfl (lv_at hl 1 rfl) ?_
    have hPc := hP.sub (ws' := [(x, .inr (2, [.int pv, .ref a, .ref fe, .int 0, .int 0, .int 0, .int 0, .int 0])), (a, .inl (cR, 3, .inr (.inr (.inr (.inr (gF f0 f1 f2)))))), (f0, .inr (1, [.int 0, .ref b0, .ref r0, .int 0, .int 0])), (f1, .inr (1, [.int 1, .ref b1, .ref r1, .int 0, .int 0])), (f2, .inr (1, [.int 2, .ref b2, .ref r2, .int 0, .int 0]))]) [0, 1, 2, 3, 4] rfl
    have hKc := hK.sub (tys' := [(cR, (.object "ThreeFiles$StoredFile"))]) [0] rfl
    refine vp_callSi ((va_runV (As := []) (rest := [.int v2_1]) ⟨hx, hb, hml, hown, hts⟩ (c_stripeCount l dC dI x a f0 f1 f2 fe b0 r0 b1 r1 b2 r2 cR pv) (cwV 0 hts gX1_readRowByte_X1_stripeCount rfl rfl rfl (by decide +kernel) ⟨Nat.le_of_ble_eq_true rfl, Nat.le_of_ble_eq_true rfl⟩) ⟨fun a U g mk q => by obtain ⟨q0, qN, qP, qK⟩ := q; exact ⟨q0, nwS qN, qP, va_K.moved (u := U) (U := U.calling g mk a) (Vm.Alike.refl U.vm) qK⟩, va_recv hKc hPc (ci := 2) (q0 := 0) rfl rfl, fun U hU hW => ⟨rfl, nwW hW hN, by rw [hU]; exact hPc, va_K.moved hW.alike hKc⟩⟩ rfl rfl hl.1 rfl (lv_room (Nat.le_of_ble_eq_true rfl)) dX1_readRowByte_10 ⟨Nat.le_of_ble_eq_true rfl, Nat.le_of_ble_eq_true rfl⟩)).run (fun r_3 hq_3 => ?_)
    obtain rfl : r_3 = 0 := hq_3
    refine lv_icmp_lt (tgt := 18) hx hb dX1_readRowByte_13 (by decide) (fun c13_4 => ?_) (fun c13_4 => ?_)
    · exact absurd (by rw [← ev2_1]; exact c13_4) (q_div2 c5_2)
    ·
      refine lv_iconst (v := (-1)) hx hb dX1_readRowByte_16 (by decide) ?_
      exact W.iret (v := (-1)) hx hb hr (fun t ht hW => ⟨(-1), rfl, rfl, ht⟩) (fun _ h => absurd h List.not_mem_nil) dX1_readRowByte_17

set_option maxHeartbeats 4000000 in
set_option maxRecDepth 100000 in
theorem c_readable (l : Launch) (dC : Nat → ClassId) (dI : Nat → Nat → Nat) (x a f0 f1 f2 fe b0 r0 b1 r1 b2 r2 : Nat) (cR : ClassId) (pv : Int32) : Met l yX1_readableRowsWithContents wsX1_readableRowsWithContents ({ frames := 2, cells := 0, slots := 0, locals := 42 }) (va_Pc [.ref x] (fun U => nwP U ∧ va_P (dC, dI) vwCl [(x, .inr (2, [.int pv, .ref a, .ref fe, .int 0, .int 0, .int 0, .int 0, .int 0])), (a, .inl (cR, 3, .inr (.inr (.inr (.inr (gF f0 f1 f2)))))), (f0, .inr (1, [.int 0, .ref b0, .ref r0, .int 0, .int 0])), (f1, .inr (1, [.int 1, .ref b1, .ref r1, .int 0, .int 0])), (f2, .inr (1, [.int 2, .ref b2, .ref r2, .int 0, .int 0]))] U.heap ∧ va_K (dC, dI) vwCl [(cR, (.object "ThreeFiles$StoredFile"))] U)) (vp_Si (fun r => r = 0)) 0 0 (fun _ => False) := by
  refine Met.ofW (cc := cX1_readableRowsWithContents) (maxL := 4) (ret := (some .int)) (by decide) rfl ?_
  intro p e s m args below meth c s₁ B hml hv
  obtain ⟨rfl, hN, hP, hK⟩ := hv
  have hx := B.exec
  have hb := B.bytes
  have hr := B.returns
  have hts := atoms_spec (ws := wsX1_readableRowsWithContents) B.pre
  have hown : s.vm.findClass RX1 = some m.cls := findClass_of_methodNamed B.named
  have hlocks := B.notSynchronized
  have hP : va_P (dC, dI) vwCl [(x, .inr (2, [.int pv, .ref a, .ref fe, .int 0, .int 0, .int 0, .int 0, .int 0])), (a, .inl (cR, 3, .inr (.inr (.inr (.inr (gF f0 f1 f2)))))), (f0, .inr (1, [.int 0, .ref b0, .ref r0, .int 0, .int 0])), (f1, .inr (1, [.int 1, .ref b1, .ref r1, .int 0, .int 0])), (f2, .inr (1, [.int 2, .ref b2, .ref r2, .int 0, .int 0]))] s.heap := hP
  have hl := lv_entry ([.ref x]) (n := 4) (Nat.le_of_ble_eq_true rfl)
  rw [lg_entry_eq]
  generalize (lg_sl ([.ref x]) ++ List.replicate (4 - (lg_sl ([.ref x])).length) Slot.unset).toArray = ls at hl ⊢
  have hl : lv_has ls 4 [(0, .ref x)] := hl
  refine lv_iconst (v := 0) hx hb dX1_readableRowsWithContents_0 (by decide) ?_
  refine lv_istore_n (lv' := [(1, .int 0), (0, .ref x)]) hx hb dX1_readableRowsWithContents_1 rfl hl (by decide) rfl (fun ls hl => ?_)
  refine lv_aload_n hx hb dX1_readableRowsWithContents_2 rfl (lv_at hl 1 rfl) ?_
  have hPc := hP.sub (ws' := [(x, .inr (2, [.int pv, .ref a, .ref fe, .int 0, .int 0, .int 0, .int 0, .int 0])), (a, .inl (cR, 3, .inr (.inr (.inr (.inr (gF f0 f1 f2)))))), (f0, .inr (1, [.int 0, .ref b0, .ref r0, .int 0, .int 0])), (f1, .inr (1, [.int 1, .ref b1, .ref r1, .int 0, .int 0])), (f2, .inr (1, [.int 2, .ref b2, .ref r2, .int 0, .int 0]))]) [0, 1, 2, 3, 4] rfl
  have hKc := hK.sub (tys' := [(cR, (.object "ThreeFiles$StoredFile"))]) [0] rfl
  refine vp_callSi ((va_runV (As := []) (rest := []) ⟨hx, hb, hml, hown, hts⟩ (c_stripeCount l dC dI x a f0 f1 f2 fe b0 r0 b1 r1 b2 r2 cR pv) (cwV 0 hts gX1_readableRowsWithContents_X1_stripeCount rfl rfl rfl (by decide +kernel) ⟨Nat.le_of_ble_eq_true rfl, Nat.le_of_ble_eq_true rfl⟩) ⟨fun a U g mk q => by obtain ⟨q0, qN, qP, qK⟩ := q; exact ⟨q0, nwS qN, qP, va_K.moved (u := U) (U := U.calling g mk a) (Vm.Alike.refl U.vm) qK⟩, va_recv hKc hPc (ci := 2) (q0 := 0) rfl rfl, fun U hU hW => ⟨rfl, nwW hW hN, by rw [hU]; exact hPc, va_K.moved hW.alike hKc⟩⟩ rfl rfl hl.1 rfl (lv_room (Nat.le_of_ble_eq_true rfl)) dX1_readableRowsWithContents_3 ⟨Nat.le_of_ble_eq_true rfl, Nat.le_of_ble_eq_true rfl⟩)).run (fun r_1 hq_1 => ?_)
  obtain rfl : r_1 = 0 := hq_1
  refine lv_iconst (v := 2) hx hb dX1_readableRowsWithContents_6 (by decide) ?_
  refine lv_imul hx hb dX1_readableRowsWithContents_7 ?_
  refine W.eq (g2 := F0 m 8 ls [.int 0]) (by rfl) ?_
  refine lv_istore_n (lv' := [(2, .int 0), (1, .int 0), (0, .ref x)]) hx hb dX1_readableRowsWithContents_8 rfl hl (by decide) rfl (fun ls hl => ?_)
  refine lv_iconst (v := 0) hx hb dX1_readableRowsWithContents_9 (by decide) ?_
  refine lv_istore_n (lv' := [(3, .int 0), (2, .int 0), (1, .int 0), (0, .ref x)]) hx hb dX1_readableRowsWithContents_10 rfl hl (by decide) rfl (fun ls hl => ?_)
  refine lv_iload_n hx hb dX1_readableRowsWithContents_11 rfl (lv_at hl 0 rfl) ?_
  refine lv_iload_n hx hb dX1_readableRowsWithContents_12 rfl (lv_at hl 1 rfl) ?_
  refine lv_icmp_ge (tgt := 34) hx hb dX1_readableRowsWithContents_13 (by decide) (fun c13_2 => ?_) (fun c13_2 => ?_)
  ·
    refine lv_iload_n hx hb dX1_readableRowsWithContents_34 rfl (lv_at hl 2 rfl) ?_
    exact W.iret (v := 0) hx hb hr (fun t ht hW => ⟨0, rfl, rfl, ht⟩) (fun _ h => absurd h List.not_mem_nil) dX1_readableRowsWithContents_35
  · exact absurd (by decide) c13_2

set_option maxHeartbeats 4000000 in
set_option maxRecDepth 100000 in
theorem c_allFilesReach (l : Launch) (dC : Nat → ClassId) (dI : Nat → Nat → Nat) (x a f0 f1 f2 fe b0 r0 b1 r1 b2 r2 : Nat) (cR : ClassId) (pv : Int32) : Met l yX1_allFilesReach wsX1_allFilesReach ({ frames := 1, cells := 0, slots := 0, locals := 20 }) (va_Pc [.ref x, .int 0] (fun U => nwP U ∧ va_P (dC, dI) vwCl [(x, .inr (2, [.int pv, .ref a, .ref fe, .int 0, .int 0, .int 0, .int 0, .int 0])), (a, .inl (cR, 3, .inr (.inr (.inr (.inr (gF f0 f1 f2)))))), (f0, .inr (1, [.int 0, .ref b0, .ref r0, .int 0, .int 0])), (f1, .inr (1, [.int 1, .ref b1, .ref r1, .int 0, .int 0])), (f2, .inr (1, [.int 2, .ref b2, .ref r2, .int 0, .int 0]))] U.heap ∧ va_K (dC, dI) vwCl [(cR, (.object "ThreeFiles$StoredFile"))] U)) (vp_Si (fun r => r = 1)) 0 0 (fun _ => False) := by
  refine Met.ofW (cc := cX1_allFilesReach) (maxL := 3) (ret := (some .boolean)) (by decide) rfl ?_
  intro p e s m args below meth c s₁ B hml hv
  obtain ⟨rfl, hN, hP, hK⟩ := hv
  have hx := B.exec
  have hb := B.bytes
  have hr := B.returns
  have hts := atoms_spec (ws := wsX1_allFilesReach) B.pre
  have hown : s.vm.findClass RX1 = some m.cls := findClass_of_methodNamed B.named
  have hlocks := B.notSynchronized
  have hP : va_P (dC, dI) vwCl [(x, .inr (2, [.int pv, .ref a, .ref fe, .int 0, .int 0, .int 0, .int 0, .int 0])), (a, .inl (cR, 3, .inr (.inr (.inr (.inr (gF f0 f1 f2)))))), (f0, .inr (1, [.int 0, .ref b0, .ref r0, .int 0, .int 0])), (f1, .inr (1, [.int 1, .ref b1, .ref r1, .int 0, .int 0])), (f2, .inr (1, [.int 2, .ref b2, .ref r2, .int 0, .int 0]))] s.heap := hP
  have hl := lv_entry ([.ref x, .int 0]) (n := 3) (Nat.le_of_ble_eq_true rfl)
  rw [lg_entry_eq]
  generalize (lg_sl ([.ref x, .int 0]) ++ List.replicate (3 - (lg_sl ([.ref x, .int 0])).length) Slot.unset).toArray = ls at hl ⊢
  have hl : lv_has ls 3 [(0, .ref x), (1, .int 0)] := hl
  refine lv_iconst (v := 0) hx hb dX1_allFilesReach_0 (by decide) ?_
  refine lv_istore_n (lv' := [(2, .int 0), (0, .ref x), (1, .int 0)]) hx hb dX1_allFilesReach_1 rfl hl (by decide) rfl (fun ls hl => ?_)
  refine lv_iload_n hx hb dX1_allFilesReach_2 rfl (lv_at hl 0 rfl) ?_
  refine lv_iconst (v := 3) hx hb dX1_allFilesReach_3 (by decide) ?_
  refine lv_icmp_ge (tgt := 28) hx hb dX1_allFilesReach_4 (by decide) (fun c4_1 => ?_) (fun c4_1 => ?_)
  · exact absurd c4_1 (by decide)
  ·
    refine lv_aload_n hx hb dX1_allFilesReach_7 rfl (lv_at hl 1 rfl) ?_
    refine va_get (D := (dC, dI)) (ci := 2) (v := .ref a) (C := RX1) (T := TX1) (N := 8) hx hb hts (by decide +kernel) hown hK hP 0 rfl rfl 1 (by decide) (hts (.fieldLink RX1 15 "ThreeFiles" "files" "[LThreeFiles$StoredFile;") (by decide +kernel)) (fun _ h9 => h9) rfl dX1_allFilesReach_8 ?_
    refine lv_iload_n hx hb dX1_allFilesReach_11 rfl (lv_at hl 0 rfl) ?_
    refine va_aldq hx hb hK hP 1 0 rfl rfl (i := 0) (by unfold vp_in; decide) dX1_allFilesReach_12 ?_
    refine W.eq (g2 := F0 m 13 ls [.ref f0]) (by rfl) ?_
    have hPc := hP.sub (ws' := [(f0, .inr (1, [.int 0, .ref b0, .ref r0, .int 0, .int 0]))]) [2] rfl
    have hKc := hK.sub (tys' := []) [] rfl
    refine vp_callSi ((va_runVN (As := []) (rest := []) ⟨hx, hb, hml, hown, hts⟩ (c_length l dC dI f0 0 b0 r0) ⟨va_cnB 0 hts gX1_allFilesReach_X0_length_n66 rfl rfl rfl hN.n66 (hts (.initialized RX0) (by decide +kernel)) (by decide +kernel) ⟨Nat.le_of_ble_eq_true rfl, Nat.le_of_ble_eq_true rfl⟩, hts (.instanceMethod yX0_length) (by decide +kernel), hts (.selects RX0 yX0_length yX0_length) (by decide +kernel)⟩ ⟨fun a U g mk q => by obtain ⟨q0, qP, qK⟩ := q; exact ⟨q0, qP, va_K.moved (u := U) (U := U.calling g mk a) (Vm.Alike.refl U.vm) qK⟩, va_recv hKc hPc (ci := 1) (q0 := 0) rfl rfl, fun U hU hW => ⟨rfl, by rw [hU]; exact hPc, va_K.moved hW.alike hKc⟩⟩ rfl rfl hl.1 rfl (lv_room (Nat.le_of_ble_eq_true rfl)) dX1_allFilesReach_13 ⟨Nat.le_of_ble_eq_true rfl, Nat.le_of_ble_eq_true rfl⟩)).run (fun r_2 hq_2 => ?_)
    obtain rfl : r_2 = 0 := hq_2
    refine lv_iload_n hx hb dX1_allFilesReach_16 rfl (lv_at hl 2 rfl) ?_
    refine lv_icmp_ge (tgt := 22) hx hb dX1_allFilesReach_17 (by decide) (fun c17_3 => ?_) (fun c17_3 => ?_)
    ·
      refine lv_iinc (v := 1) (lv' := [(2, .int 1), (0, .ref x), (1, .int 0)]) hx hb dX1_allFilesReach_22 hl (k := 0) rfl (by decide) (by decide) rfl (fun ls hl => ?_)
      refine lv_goto (tgt := 2) hx hb dX1_allFilesReach_25 (by decide) ?_
      refine lv_iload_n hx hb dX1_allFilesReach_2 rfl (lv_at hl 0 rfl) ?_
      refine lv_iconst (v := 3) hx hb dX1_allFilesReach_3 (by decide) ?_
      refine lv_icmp_ge (tgt := 28) hx hb dX1_allFilesReach_4 (by decide) (fun c4_4 => ?_) (fun c4_4 => ?_)
      · exact absurd c4_4 (by decide)
      ·
        refine lv_aload_n hx hb dX1_allFilesReach_7 rfl (lv_at hl 1 rfl) ?_
        refine va_get (D := (dC, dI)) (ci := 2) (v := .ref a) (C := RX1) (T := TX1) (N := 8) hx hb hts (by decide +kernel) hown hK hP 0 rfl rfl 1 (by decide) (hts (.fieldLink RX1 15 "ThreeFiles" "files" "[LThreeFiles$StoredFile;") (by decide +kernel)) (fun _ h9 => h9) rfl dX1_allFilesReach_8 ?_
        refine lv_iload_n hx hb dX1_allFilesReach_11 rfl (lv_at hl 0 rfl) ?_
        refine va_aldq hx hb hK hP 1 0 rfl rfl (i := 1) (by unfold vp_in; decide) dX1_allFilesReach_12 ?_
        refine W.eq (g2 := F0 m 13 ls [.ref f1]) (by rfl) ?_
        have hPc := hP.sub (ws' := [(f1, .inr (1, [.int 1, .ref b1, .ref r1, .int 0, .int 0]))]) [3] rfl
        have hKc := hK.sub (tys' := []) [] rfl
        refine vp_callSi ((va_runVN (As := []) (rest := []) ⟨hx, hb, hml, hown, hts⟩ (c_length l dC dI f1 1 b1 r1) ⟨va_cnB 0 hts gX1_allFilesReach_X0_length_n66 rfl rfl rfl hN.n66 (hts (.initialized RX0) (by decide +kernel)) (by decide +kernel) ⟨Nat.le_of_ble_eq_true rfl, Nat.le_of_ble_eq_true rfl⟩, hts (.instanceMethod yX0_length) (by decide +kernel), hts (.selects RX0 yX0_length yX0_length) (by decide +kernel)⟩ ⟨fun a U g mk q => by obtain ⟨q0, qP, qK⟩ := q; exact ⟨q0, qP, va_K.moved (u := U) (U := U.calling g mk a) (Vm.Alike.refl U.vm) qK⟩, va_recv hKc hPc (ci := 1) (q0 := 0) rfl rfl, fun U hU hW => ⟨rfl, by rw [hU]; exact hPc, va_K.moved hW.alike hKc⟩⟩ rfl rfl hl.1 rfl (lv_room (Nat.le_of_ble_eq_true rfl)) dX1_allFilesReach_13 ⟨Nat.le_of_ble_eq_true rfl, Nat.le_of_ble_eq_true rfl⟩)).run (fun r_5 hq_5 => ?_)
        obtain rfl : r_5 = 0 := hq_5
        refine lv_iload_n hx hb dX1_allFilesReach_16 rfl (lv_at hl 2 rfl) ?_
        refine lv_icmp_ge (tgt := 22) hx hb dX1_allFilesReach_17 (by decide) (fun c17_6 => ?_) (fun c17_6 => ?_)
        ·
          refine lv_iinc (v := 2) (lv' := [(2, .int 2), (0, .ref x), (1, .int 0)]) hx hb dX1_allFilesReach_22 hl (k := 0) rfl (by decide) (by decide) rfl (fun ls hl => ?_)
          refine lv_goto (tgt := 2) hx hb dX1_allFilesReach_25 (by decide) ?_
          refine lv_iload_n hx hb dX1_allFilesReach_2 rfl (lv_at hl 0 rfl) ?_
          refine lv_iconst (v := 3) hx hb dX1_allFilesReach_3 (by decide) ?_
          refine lv_icmp_ge (tgt := 28) hx hb dX1_allFilesReach_4 (by decide) (fun c4_7 => ?_) (fun c4_7 => ?_)
          · exact absurd c4_7 (by decide)
          ·
            refine lv_aload_n hx hb dX1_allFilesReach_7 rfl (lv_at hl 1 rfl) ?_
            refine va_get (D := (dC, dI)) (ci := 2) (v := .ref a) (C := RX1) (T := TX1) (N := 8) hx hb hts (by decide +kernel) hown hK hP 0 rfl rfl 1 (by decide) (hts (.fieldLink RX1 15 "ThreeFiles" "files" "[LThreeFiles$StoredFile;") (by decide +kernel)) (fun _ h9 => h9) rfl dX1_allFilesReach_8 ?_
            refine lv_iload_n hx hb dX1_allFilesReach_11 rfl (lv_at hl 0 rfl) ?_
            refine va_aldq hx hb hK hP 1 0 rfl rfl (i := 2) (by unfold vp_in; decide) dX1_allFilesReach_12 ?_
            refine W.eq (g2 := F0 m 13 ls [.ref f2]) (by rfl) ?_
            have hPc := hP.sub (ws' := [(f2, .inr (1, [.int 2, .ref b2, .ref r2, .int 0, .int 0]))]) [4] rfl
            have hKc := hK.sub (tys' := []) [] rfl
            refine vp_callSi ((va_runVN (As := []) (rest := []) ⟨hx, hb, hml, hown, hts⟩ (c_length l dC dI f2 2 b2 r2) ⟨va_cnB 0 hts gX1_allFilesReach_X0_length_n66 rfl rfl rfl hN.n66 (hts (.initialized RX0) (by decide +kernel)) (by decide +kernel) ⟨Nat.le_of_ble_eq_true rfl, Nat.le_of_ble_eq_true rfl⟩, hts (.instanceMethod yX0_length) (by decide +kernel), hts (.selects RX0 yX0_length yX0_length) (by decide +kernel)⟩ ⟨fun a U g mk q => by obtain ⟨q0, qP, qK⟩ := q; exact ⟨q0, qP, va_K.moved (u := U) (U := U.calling g mk a) (Vm.Alike.refl U.vm) qK⟩, va_recv hKc hPc (ci := 1) (q0 := 0) rfl rfl, fun U hU hW => ⟨rfl, by rw [hU]; exact hPc, va_K.moved hW.alike hKc⟩⟩ rfl rfl hl.1 rfl (lv_room (Nat.le_of_ble_eq_true rfl)) dX1_allFilesReach_13 ⟨Nat.le_of_ble_eq_true rfl, Nat.le_of_ble_eq_true rfl⟩)).run (fun r_8 hq_8 => ?_)
            obtain rfl : r_8 = 0 := hq_8
            refine lv_iload_n hx hb dX1_allFilesReach_16 rfl (lv_at hl 2 rfl) ?_
            refine lv_icmp_ge (tgt := 22) hx hb dX1_allFilesReach_17 (by decide) (fun c17_9 => ?_) (fun c17_9 => ?_)
            ·
              refine lv_iinc (v := 3) (lv' := [(2, .int 3), (0, .ref x), (1, .int 0)]) hx hb dX1_allFilesReach_22 hl (k := 0) rfl (by decide) (by decide) rfl (fun ls hl => ?_)
              refine lv_goto (tgt := 2) hx hb dX1_allFilesReach_25 (by decide) ?_
              refine lv_iload_n hx hb dX1_allFilesReach_2 rfl (lv_at hl 0 rfl) ?_
              refine lv_iconst (v := 3) hx hb dX1_allFilesReach_3 (by decide) ?_
              refine lv_icmp_ge (tgt := 28) hx hb dX1_allFilesReach_4 (by decide) (fun c4_10 => ?_) (fun c4_10 => ?_)
              ·
                refine lv_iconst (v := 1) hx hb dX1_allFilesReach_28 (by decide) ?_
                exact W.zret (ty := .boolean) (v := 1) hx hb hr rfl (fun t ht hW => ⟨1, rfl, rfl, ht⟩) (fun _ h => absurd h List.not_mem_nil) dX1_allFilesReach_29
              · exact absurd (by decide) c4_10
            · exact absurd (by decide) c17_9
        · exact absurd (by decide) c17_6
    · exact absurd (by decide) c17_3

set_option maxHeartbeats 4000000 in
set_option maxRecDepth 100000 in
theorem c_row (l : Launch) (dC : Nat → ClassId) (dI : Nat → Nat → Nat) (x a f0 f1 f2 fe b0 r0 b1 r1 b2 r2 : Nat) (cR : ClassId) (pv : Int32) (p0 : Int32) : Met l yX1_row wsX1_row ({ frames := 0, cells := 0, slots := 0, locals := 0 }) (va_Pc [.ref x, .int p0] (fun U => va_P (dC, dI) vwCl [(x, .inr (2, [.int pv, .ref a, .ref fe, .int 0, .int 0, .int 0, .int 0, .int 0])), (a, .inl (cR, 3, .inr (.inr (.inr (.inr (gF f0 f1 f2)))))), (f0, .inr (1, [.int 0, .ref b0, .ref r0, .int 0, .int 0])), (f1, .inr (1, [.int 1, .ref b1, .ref r1, .int 0, .int 0])), (f2, .inr (1, [.int 2, .ref b2, .ref r2, .int 0, .int 0]))] U.heap ∧ va_K (dC, dI) vwCl [(cR, (.object "ThreeFiles$StoredFile"))] U)) (vp_Si (fun r => r = (-1))) 0 0 (fun _ => False) := by
  refine Met.ofW (cc := cX1_row) (maxL := 4) (ret := (some .int)) (by decide) rfl ?_
  intro p e s m args below meth c s₁ B hml hv
  obtain ⟨rfl, hP, hK⟩ := hv
  have hx := B.exec
  have hb := B.bytes
  have hr := B.returns
  have hts := atoms_spec (ws := wsX1_row) B.pre
  have hown : s.vm.findClass RX1 = some m.cls := findClass_of_methodNamed B.named
  have hlocks := B.notSynchronized
  have hP : va_P (dC, dI) vwCl [(x, .inr (2, [.int pv, .ref a, .ref fe, .int 0, .int 0, .int 0, .int 0, .int 0])), (a, .inl (cR, 3, .inr (.inr (.inr (.inr (gF f0 f1 f2)))))), (f0, .inr (1, [.int 0, .ref b0, .ref r0, .int 0, .int 0])), (f1, .inr (1, [.int 1, .ref b1, .ref r1, .int 0, .int 0])), (f2, .inr (1, [.int 2, .ref b2, .ref r2, .int 0, .int 0]))] s.heap := hP
  have hl := lv_entry ([.ref x, .int p0]) (n := 4) (Nat.le_of_ble_eq_true rfl)
  rw [lg_entry_eq]
  generalize (lg_sl ([.ref x, .int p0]) ++ List.replicate (4 - (lg_sl ([.ref x, .int p0])).length) Slot.unset).toArray = ls at hl ⊢
  have hl : lv_has ls 4 [(0, .ref x), (1, .int p0)] := hl
  refine lv_aload_n hx hb dX1_row_0 rfl (lv_at hl 0 rfl) ?_
  refine va_get (D := (dC, dI)) (ci := 2) (v := .int 0) (C := RX1) (T := TX1) (N := 8) hx hb hts (by decide +kernel) hown hK hP 0 rfl rfl 4 (by decide) (hts (.fieldLink RX1 29 "ThreeFiles" "closed" "Z") (by decide +kernel)) (fun _ h9 => h9) rfl dX1_row_1 ?_
  refine lv_if_ne (tgt := 21) hx hb dX1_row_4 (by decide) (fun c4_1 => ?_) (fun c4_1 => ?_)
  · exact absurd (by decide) c4_1
  ·
    refine lv_aload_n hx hb dX1_row_7 rfl (lv_at hl 0 rfl) ?_
    refine va_get (D := (dC, dI)) (ci := 2) (v := .int 0) (C := RX1) (T := TX1) (N := 8) hx hb hts (by decide +kernel) hown hK hP 0 rfl rfl 3 (by decide) (hts (.fieldLink RX1 26 "ThreeFiles" "fedCount" "I") (by decide +kernel)) (fun _ h9 => h9) rfl dX1_row_8 ?_
    refine lv_if_eq (tgt := 21) hx hb dX1_row_11 (by decide) (fun c11_2 => ?_) (fun c11_2 => ?_)
    ·
      refine lv_iconst (v := (-1)) hx hb dX1_row_21 (by decide) ?_
      exact W.iret (v := (-1)) hx hb hr (fun t ht hW => ⟨(-1), rfl, rfl, ht⟩) (fun _ h => absurd h List.not_mem_nil) dX1_row_22
    · exact absurd (by decide) c11_2

set_option maxHeartbeats 4000000 in
set_option maxRecDepth 100000 in
theorem c_find (l : Launch) (dC : Nat → ClassId) (dI : Nat → Nat → Nat) (x a f0 f1 f2 fe b0 r0 b1 r1 b2 r2 : Nat) (cR : ClassId) (pv : Int32) (p0 : Int32) (p1 : Int32) : Met l yX1_find wsX1_find ({ frames := 3, cells := 0, slots := 0, locals := 66 }) (va_Pc [.ref x, .int p0, .int p1] (fun U => nwP U ∧ va_P (dC, dI) vwCl [(x, .inr (2, [.int pv, .ref a, .ref fe, .int 0, .int 0, .int 0, .int 0, .int 0])), (a, .inl (cR, 3, .inr (.inr (.inr (.inr (gF f0 f1 f2)))))), (f0, .inr (1, [.int 0, .ref b0, .ref r0, .int 0, .int 0])), (f1, .inr (1, [.int 1, .ref b1, .ref r1, .int 0, .int 0])), (f2, .inr (1, [.int 2, .ref b2, .ref r2, .int 0, .int 0]))] U.heap ∧ va_K (dC, dI) vwCl [(cR, (.object "ThreeFiles$StoredFile"))] U)) (vp_Si (fun r => r = (-1))) 0 0 (fun _ => False) := by
  refine Met.ofW (cc := cX1_find) (maxL := 3) (ret := (some .int)) (by decide) rfl ?_
  intro p e s m args below meth c s₁ B hml hv
  obtain ⟨rfl, hN, hP, hK⟩ := hv
  have hx := B.exec
  have hb := B.bytes
  have hr := B.returns
  have hts := atoms_spec (ws := wsX1_find) B.pre
  have hown : s.vm.findClass RX1 = some m.cls := findClass_of_methodNamed B.named
  have hlocks := B.notSynchronized
  have hP : va_P (dC, dI) vwCl [(x, .inr (2, [.int pv, .ref a, .ref fe, .int 0, .int 0, .int 0, .int 0, .int 0])), (a, .inl (cR, 3, .inr (.inr (.inr (.inr (gF f0 f1 f2)))))), (f0, .inr (1, [.int 0, .ref b0, .ref r0, .int 0, .int 0])), (f1, .inr (1, [.int 1, .ref b1, .ref r1, .int 0, .int 0])), (f2, .inr (1, [.int 2, .ref b2, .ref r2, .int 0, .int 0]))] s.heap := hP
  have hl := lv_entry ([.ref x, .int p0, .int p1]) (n := 3) (Nat.le_of_ble_eq_true rfl)
  rw [lg_entry_eq]
  generalize (lg_sl ([.ref x, .int p0, .int p1]) ++ List.replicate (3 - (lg_sl ([.ref x, .int p0, .int p1])).length) Slot.unset).toArray = ls at hl ⊢
  have hl : lv_has ls 3 [(0, .ref x), (1, .int p0), (2, .int p1)] := hl
  refine lv_iload_n hx hb dX1_find_0 rfl (lv_at hl 2 rfl) ?_
  refine lv_if_lt (tgt := 20) hx hb dX1_find_1 (by decide) (fun c1_1 => ?_) (fun c1_1 => ?_)
  ·
    refine lv_iconst (v := (-1)) hx hb dX1_find_20 (by decide) ?_
    exact W.iret (v := (-1)) hx hb hr (fun t ht hW => ⟨(-1), rfl, rfl, ht⟩) (fun _ h => absurd h List.not_mem_nil) dX1_find_21
  ·
    refine lv_iload_n hx hb dX1_find_4 rfl (lv_at hl 2 rfl) ?_
    refine lv_bipush (v := 16) hx hb dX1_find_5 (by decide) ?_
    refine lv_icmp_ge (tgt := 20) hx hb dX1_find_7 (by decide) (fun c7_2 => ?_) (fun c7_2 => ?_)
    ·
      refine lv_iconst (v := (-1)) hx hb dX1_find_20 (by decide) ?_
      exact W.iret (v := (-1)) hx hb hr (fun t ht hW => ⟨(-1), rfl, rfl, ht⟩) (fun _ h => absurd h List.not_mem_nil) dX1_find_21
    ·
      refine lv_iload_n hx hb dX1_find_10 rfl (lv_at hl 2 rfl) ?_
      refine lv_aload_n hx hb dX1_find_11 rfl (lv_at hl 0 rfl) ?_
      refine lv_iload_n hx hb dX1_find_12 rfl (lv_at hl 1 rfl) ?_
      refine lv_iconst (v := 3) hx hb dX1_find_13 (by decide) ?_
      have hPc := hP.sub (ws' := [(x, .inr (2, [.int pv, .ref a, .ref fe, .int 0, .int 0, .int 0, .int 0, .int 0])), (a, .inl (cR, 3, .inr (.inr (.inr (.inr (gF f0 f1 f2)))))), (f0, .inr (1, [.int 0, .ref b0, .ref r0, .int 0, .int 0])), (f1, .inr (1, [.int 1, .ref b1, .ref r1, .int 0, .int 0])), (f2, .inr (1, [.int 2, .ref b2, .ref r2, .int 0, .int 0]))]) [0, 1, 2, 3, 4] rfl
      have hKc := hK.sub (tys' := [(cR, (.object "ThreeFiles$StoredFile"))]) [0] rfl
      refine vp_callSi ((va_runV (As := [.int p0, .int 3]) (rest := [.int p1]) ⟨hx, hb, hml, hown, hts⟩ (c_readRowByte l dC dI x a f0 f1 f2 fe b0 r0 b1 r1 b2 r2 cR pv p0 3) (cwV 2 hts gX1_find_X1_readRowByte rfl rfl rfl (by decide +kernel) ⟨Nat.le_of_ble_eq_true rfl, Nat.le_of_ble_eq_true rfl⟩) ⟨fun a U g mk q => by obtain ⟨q0, qN, qP, qK⟩ := q; exact ⟨q0, nwS qN, qP, va_K.moved (u := U) (U := U.calling g mk a) (Vm.Alike.refl U.vm) qK⟩, va_recv hKc hPc (ci := 2) (q0 := 0) rfl rfl, fun U hU hW => ⟨rfl, nwW hW hN, by rw [hU]; exact hPc, va_K.moved hW.alike hKc⟩⟩ rfl rfl hl.1 rfl (lv_room (Nat.le_of_ble_eq_true rfl)) dX1_find_14 ⟨Nat.le_of_ble_eq_true rfl, Nat.le_of_ble_eq_true rfl⟩)).run (fun r_3 hq_3 => ?_)
      obtain rfl : r_3 = (-1) := hq_3
      refine lv_icmp_lt (tgt := 22) hx hb dX1_find_17 (by decide) (fun c17_4 => ?_) (fun c17_4 => ?_)
      · exact absurd c17_4 (q_ltm1 c1_1)
      ·
        refine lv_iconst (v := (-1)) hx hb dX1_find_20 (by decide) ?_
        exact W.iret (v := (-1)) hx hb hr (fun t ht hW => ⟨(-1), rfl, rfl, ht⟩) (fun _ h => absurd h List.not_mem_nil) dX1_find_21

set_option maxHeartbeats 4000000 in
set_option maxRecDepth 100000 in
theorem c_rows (l : Launch) (dC : Nat → ClassId) (dI : Nat → Nat → Nat) (x a f0 f1 f2 fe b0 r0 b1 r1 b2 r2 : Nat) (cR : ClassId) (pv : Int32) (p0 : Int32) : Met l yX1_rows wsX1_rows ({ frames := 2, cells := 0, slots := 0, locals := 42 }) (va_Pc [.ref x, .int p0] (fun U => nwP U ∧ va_P (dC, dI) vwCl [(x, .inr (2, [.int pv, .ref a, .ref fe, .int 0, .int 0, .int 0, .int 0, .int 0])), (a, .inl (cR, 3, .inr (.inr (.inr (.inr (gF f0 f1 f2)))))), (f0, .inr (1, [.int 0, .ref b0, .ref r0, .int 0, .int 0])), (f1, .inr (1, [.int 1, .ref b1, .ref r1, .int 0, .int 0])), (f2, .inr (1, [.int 2, .ref b2, .ref r2, .int 0, .int 0]))] U.heap ∧ va_K (dC, dI) vwCl [(cR, (.object "ThreeFiles$StoredFile"))] U)) (vp_Si (fun r => r = 0)) 0 0 (fun _ => False) := by
  refine Met.ofW (cc := cX1_rows) (maxL := 5) (ret := (some .int)) (by decide) rfl ?_
  intro p e s m args below meth c s₁ B hml hv
  obtain ⟨rfl, hN, hP, hK⟩ := hv
  have hx := B.exec
  have hb := B.bytes
  have hr := B.returns
  have hts := atoms_spec (ws := wsX1_rows) B.pre
  have hown : s.vm.findClass RX1 = some m.cls := findClass_of_methodNamed B.named
  have hlocks := B.notSynchronized
  have hP : va_P (dC, dI) vwCl [(x, .inr (2, [.int pv, .ref a, .ref fe, .int 0, .int 0, .int 0, .int 0, .int 0])), (a, .inl (cR, 3, .inr (.inr (.inr (.inr (gF f0 f1 f2)))))), (f0, .inr (1, [.int 0, .ref b0, .ref r0, .int 0, .int 0])), (f1, .inr (1, [.int 1, .ref b1, .ref r1, .int 0, .int 0])), (f2, .inr (1, [.int 2, .ref b2, .ref r2, .int 0, .int 0]))] s.heap := hP
  have hl := lv_entry ([.ref x, .int p0]) (n := 5) (Nat.le_of_ble_eq_true rfl)
  rw [lg_entry_eq]
  generalize (lg_sl ([.ref x, .int p0]) ++ List.replicate (5 - (lg_sl ([.ref x, .int p0])).length) Slot.unset).toArray = ls at hl ⊢
  have hl : lv_has ls 5 [(0, .ref x), (1, .int p0)] := hl
  refine lv_iload_n hx hb dX1_rows_0 rfl (lv_at hl 1 rfl) ?_
  have hPc := hP.sub (ws' := []) [] rfl
  have hKc := hK.sub (tys' := []) [] rfl
  refine vp_callSi ((va_runS (As := [.int p0]) (rest := []) ⟨hx, hb, hml, hown, hts⟩ (c_isYear l dC dI p0) (va_cwS 1 hts gX1_rows_X1_isYear rfl rfl rfl (by decide +kernel) ⟨Nat.le_of_ble_eq_true rfl, Nat.le_of_ble_eq_true rfl⟩) ⟨fun a U g mk q => by obtain ⟨q0, qP, qK⟩ := q; exact ⟨q0, qP, va_K.moved (u := U) (U := U.calling g mk a) (Vm.Alike.refl U.vm) qK⟩, fun U hU hW => ⟨rfl, by rw [hU]; exact hPc, va_K.moved hW.alike hKc⟩⟩ rfl rfl hl.1 rfl (lv_room (Nat.le_of_ble_eq_true rfl)) dX1_rows_1 ⟨Nat.le_of_ble_eq_true rfl, Nat.le_of_ble_eq_true rfl⟩)).run (fun r_1 hq_1 => ?_)
  rcases hq_1 with rfl | rfl
  ·
    refine lv_if_ne (tgt := 9) hx hb dX1_rows_4 (by decide) (fun c4_2 => ?_) (fun c4_2 => ?_)
    ·
      refine lv_iconst (v := 0) hx hb dX1_rows_9 (by decide) ?_
      refine lv_istore_n (lv' := [(2, .int 0), (0, .ref x), (1, .int p0)]) hx hb dX1_rows_10 rfl hl (by decide) rfl (fun ls hl => ?_)
      refine lv_aload_n hx hb dX1_rows_11 rfl (lv_at hl 1 rfl) ?_
      have hPc := hP.sub (ws' := [(x, .inr (2, [.int pv, .ref a, .ref fe, .int 0, .int 0, .int 0, .int 0, .int 0])), (a, .inl (cR, 3, .inr (.inr (.inr (.inr (gF f0 f1 f2)))))), (f0, .inr (1, [.int 0, .ref b0, .ref r0, .int 0, .int 0])), (f1, .inr (1, [.int 1, .ref b1, .ref r1, .int 0, .int 0])), (f2, .inr (1, [.int 2, .ref b2, .ref r2, .int 0, .int 0]))]) [0, 1, 2, 3, 4] rfl
      have hKc := hK.sub (tys' := [(cR, (.object "ThreeFiles$StoredFile"))]) [0] rfl
      refine vp_callSi ((va_runV (As := []) (rest := []) ⟨hx, hb, hml, hown, hts⟩ (c_stripeCount l dC dI x a f0 f1 f2 fe b0 r0 b1 r1 b2 r2 cR pv) (cwV 0 hts gX1_rows_X1_stripeCount rfl rfl rfl (by decide +kernel) ⟨Nat.le_of_ble_eq_true rfl, Nat.le_of_ble_eq_true rfl⟩) ⟨fun a U g mk q => by obtain ⟨q0, qN, qP, qK⟩ := q; exact ⟨q0, nwS qN, qP, va_K.moved (u := U) (U := U.calling g mk a) (Vm.Alike.refl U.vm) qK⟩, va_recv hKc hPc (ci := 2) (q0 := 0) rfl rfl, fun U hU hW => ⟨rfl, nwW hW hN, by rw [hU]; exact hPc, va_K.moved hW.alike hKc⟩⟩ rfl rfl hl.1 rfl (lv_room (Nat.le_of_ble_eq_true rfl)) dX1_rows_12 ⟨Nat.le_of_ble_eq_true rfl, Nat.le_of_ble_eq_true rfl⟩)).run (fun r_3 hq_3 => ?_)
      obtain rfl : r_3 = 0 := hq_3
      refine lv_iconst (v := 2) hx hb dX1_rows_15 (by decide) ?_
      refine lv_imul hx hb dX1_rows_16 ?_
      refine W.eq (g2 := F0 m 17 ls [.int 0]) (by rfl) ?_
      refine lv_istore_n (lv' := [(3, .int 0), (2, .int 0), (0, .ref x), (1, .int p0)]) hx hb dX1_rows_17 rfl hl (by decide) rfl (fun ls hl => ?_)
      refine lv_iconst (v := 0) hx hb dX1_rows_18 (by decide) ?_
      refine lv_istore (lv' := [(4, .int 0), (3, .int 0), (2, .int 0), (0, .ref x), (1, .int p0)]) hx hb dX1_rows_19 hl (by decide) rfl (fun ls hl => ?_)
      refine lv_iload hx hb dX1_rows_21 (lv_at hl 0 rfl) ?_
      refine lv_iload_n hx hb dX1_rows_23 rfl (lv_at hl 1 rfl) ?_
      refine lv_icmp_ge (tgt := 47) hx hb dX1_rows_24 (by decide) (fun c24_4 => ?_) (fun c24_4 => ?_)
      ·
        refine lv_iload_n hx hb dX1_rows_47 rfl (lv_at hl 2 rfl) ?_
        exact W.iret (v := 0) hx hb hr (fun t ht hW => ⟨0, rfl, rfl, ht⟩) (fun _ h => absurd h List.not_mem_nil) dX1_rows_48
      · exact absurd (by decide) c24_4
    · exact absurd c4_2 (by decide)
  ·
    refine lv_if_ne (tgt := 9) hx hb dX1_rows_4 (by decide) (fun c4_5 => ?_) (fun c4_5 => ?_)
    · exact absurd (by decide) c4_5
    ·
      refine lv_iconst (v := 0) hx hb dX1_rows_7 (by decide) ?_
      exact W.iret (v := 0) hx hb hr (fun t ht hW => ⟨0, rfl, rfl, ht⟩) (fun _ h => absurd h List.not_mem_nil) dX1_rows_8

set_option maxHeartbeats 4000000 in
set_option maxRecDepth 100000 in
theorem c_drop (l : Launch) (dC : Nat → ClassId) (dI : Nat → Nat → Nat) (x a f0 f1 f2 fe b0 r0 b1 r1 b2 r2 : Nat) (cR : ClassId) (pv : Int32) (p0 : Int32) : Met l yX1_drop wsX1_drop ({ frames := 2, cells := 0, slots := 0, locals := 42 }) (va_Pc [.ref x, .int p0] (fun U => nwP U ∧ va_P (dC, dI) vwCl [(x, .inr (2, [.int pv, .ref a, .ref fe, .int 0, .int 0, .int 0, .int 0, .int 0])), (a, .inl (cR, 3, .inr (.inr (.inr (.inr (gF f0 f1 f2)))))), (f0, .inr (1, [.int 0, .ref b0, .ref r0, .int 0, .int 0])), (f1, .inr (1, [.int 1, .ref b1, .ref r1, .int 0, .int 0])), (f2, .inr (1, [.int 2, .ref b2, .ref r2, .int 0, .int 0]))] U.heap ∧ va_K (dC, dI) vwCl [(cR, (.object "ThreeFiles$StoredFile"))] U)) (vp_Si (fun r => r = 0)) 0 0 (fun _ => False) := by
  refine Met.ofW (cc := cX1_drop) (maxL := 5) (ret := (some .boolean)) (by decide) rfl ?_
  intro p e s m args below meth c s₁ B hml hv
  obtain ⟨rfl, hN, hP, hK⟩ := hv
  have hx := B.exec
  have hb := B.bytes
  have hr := B.returns
  have hts := atoms_spec (ws := wsX1_drop) B.pre
  have hown : s.vm.findClass RX1 = some m.cls := findClass_of_methodNamed B.named
  have hlocks := B.notSynchronized
  have hP : va_P (dC, dI) vwCl [(x, .inr (2, [.int pv, .ref a, .ref fe, .int 0, .int 0, .int 0, .int 0, .int 0])), (a, .inl (cR, 3, .inr (.inr (.inr (.inr (gF f0 f1 f2)))))), (f0, .inr (1, [.int 0, .ref b0, .ref r0, .int 0, .int 0])), (f1, .inr (1, [.int 1, .ref b1, .ref r1, .int 0, .int 0])), (f2, .inr (1, [.int 2, .ref b2, .ref r2, .int 0, .int 0]))] s.heap := hP
  have hl := lv_entry ([.ref x, .int p0]) (n := 5) (Nat.le_of_ble_eq_true rfl)
  rw [lg_entry_eq]
  generalize (lg_sl ([.ref x, .int p0]) ++ List.replicate (5 - (lg_sl ([.ref x, .int p0])).length) Slot.unset).toArray = ls at hl ⊢
  have hl : lv_has ls 5 [(0, .ref x), (1, .int p0)] := hl
  refine lv_aload_n hx hb dX1_drop_0 rfl (lv_at hl 0 rfl) ?_
  refine va_get (D := (dC, dI)) (ci := 2) (v := .int 0) (C := RX1) (T := TX1) (N := 8) hx hb hts (by decide +kernel) hown hK hP 0 rfl rfl 4 (by decide) (hts (.fieldLink RX1 29 "ThreeFiles" "closed" "Z") (by decide +kernel)) (fun _ h9 => h9) rfl dX1_drop_1 ?_
  refine lv_if_ne (tgt := 14) hx hb dX1_drop_4 (by decide) (fun c4_1 => ?_) (fun c4_1 => ?_)
  · exact absurd (by decide) c4_1
  ·
    refine lv_iload_n hx hb dX1_drop_7 rfl (lv_at hl 1 rfl) ?_
    have hPc := hP.sub (ws' := []) [] rfl
    have hKc := hK.sub (tys' := []) [] rfl
    refine vp_callSi ((va_runS (As := [.int p0]) (rest := []) ⟨hx, hb, hml, hown, hts⟩ (c_isYear l dC dI p0) (va_cwS 1 hts gX1_drop_X1_isYear rfl rfl rfl (by decide +kernel) ⟨Nat.le_of_ble_eq_true rfl, Nat.le_of_ble_eq_true rfl⟩) ⟨fun a U g mk q => by obtain ⟨q0, qP, qK⟩ := q; exact ⟨q0, qP, va_K.moved (u := U) (U := U.calling g mk a) (Vm.Alike.refl U.vm) qK⟩, fun U hU hW => ⟨rfl, by rw [hU]; exact hPc, va_K.moved hW.alike hKc⟩⟩ rfl rfl hl.1 rfl (lv_room (Nat.le_of_ble_eq_true rfl)) dX1_drop_8 ⟨Nat.le_of_ble_eq_true rfl, Nat.le_of_ble_eq_true rfl⟩)).run (fun r_2 hq_2 => ?_)
    rcases hq_2 with rfl | rfl
    ·
      refine lv_if_ne (tgt := 16) hx hb dX1_drop_11 (by decide) (fun c11_3 => ?_) (fun c11_3 => ?_)
      ·
        refine lv_iconst (v := 0) hx hb dX1_drop_16 (by decide) ?_
        refine lv_istore_n (lv' := [(2, .int 0), (0, .ref x), (1, .int p0)]) hx hb dX1_drop_17 rfl hl (by decide) rfl (fun ls hl => ?_)
        refine lv_aload_n hx hb dX1_drop_18 rfl (lv_at hl 1 rfl) ?_
        have hPc := hP.sub (ws' := [(x, .inr (2, [.int pv, .ref a, .ref fe, .int 0, .int 0, .int 0, .int 0, .int 0])), (a, .inl (cR, 3, .inr (.inr (.inr (.inr (gF f0 f1 f2)))))), (f0, .inr (1, [.int 0, .ref b0, .ref r0, .int 0, .int 0])), (f1, .inr (1, [.int 1, .ref b1, .ref r1, .int 0, .int 0])), (f2, .inr (1, [.int 2, .ref b2, .ref r2, .int 0, .int 0]))]) [0, 1, 2, 3, 4] rfl
        have hKc := hK.sub (tys' := [(cR, (.object "ThreeFiles$StoredFile"))]) [0] rfl
        refine vp_callSi ((va_runV (As := []) (rest := []) ⟨hx, hb, hml, hown, hts⟩ (c_stripeCount l dC dI x a f0 f1 f2 fe b0 r0 b1 r1 b2 r2 cR pv) (cwV 0 hts gX1_drop_X1_stripeCount rfl rfl rfl (by decide +kernel) ⟨Nat.le_of_ble_eq_true rfl, Nat.le_of_ble_eq_true rfl⟩) ⟨fun a U g mk q => by obtain ⟨q0, qN, qP, qK⟩ := q; exact ⟨q0, nwS qN, qP, va_K.moved (u := U) (U := U.calling g mk a) (Vm.Alike.refl U.vm) qK⟩, va_recv hKc hPc (ci := 2) (q0 := 0) rfl rfl, fun U hU hW => ⟨rfl, nwW hW hN, by rw [hU]; exact hPc, va_K.moved hW.alike hKc⟩⟩ rfl rfl hl.1 rfl (lv_room (Nat.le_of_ble_eq_true rfl)) dX1_drop_19 ⟨Nat.le_of_ble_eq_true rfl, Nat.le_of_ble_eq_true rfl⟩)).run (fun r_4 hq_4 => ?_)
        obtain rfl : r_4 = 0 := hq_4
        refine lv_istore_n (lv' := [(3, .int 0), (2, .int 0), (0, .ref x), (1, .int p0)]) hx hb dX1_drop_22 rfl hl (by decide) rfl (fun ls hl => ?_)
        refine lv_iconst (v := 0) hx hb dX1_drop_23 (by decide) ?_
        refine lv_istore (lv' := [(4, .int 0), (3, .int 0), (2, .int 0), (0, .ref x), (1, .int p0)]) hx hb dX1_drop_24 hl (by decide) rfl (fun ls hl => ?_)
        refine lv_iload hx hb dX1_drop_26 (lv_at hl 0 rfl) ?_
        refine lv_iload_n hx hb dX1_drop_28 rfl (lv_at hl 1 rfl) ?_
        refine lv_icmp_ge (tgt := 50) hx hb dX1_drop_29 (by decide) (fun c29_5 => ?_) (fun c29_5 => ?_)
        ·
          refine lv_iload_n hx hb dX1_drop_50 rfl (lv_at hl 2 rfl) ?_
          exact W.zret (ty := .boolean) (v := 0) hx hb hr rfl (fun t ht hW => ⟨0, rfl, rfl, ht⟩) (fun _ h => absurd h List.not_mem_nil) dX1_drop_51
        · exact absurd (by decide) c29_5
      · exact absurd c11_3 (by decide)
    ·
      refine lv_if_ne (tgt := 16) hx hb dX1_drop_11 (by decide) (fun c11_6 => ?_) (fun c11_6 => ?_)
      · exact absurd (by decide) c11_6
      ·
        refine lv_iconst (v := 0) hx hb dX1_drop_14 (by decide) ?_
        exact W.zret (ty := .boolean) (v := 0) hx hb hr rfl (fun t ht hW => ⟨0, rfl, rfl, ht⟩) (fun _ h => absurd h List.not_mem_nil) dX1_drop_15

set_option maxHeartbeats 4000000 in
set_option maxRecDepth 100000 in
theorem c_crash (l : Launch) (dC : Nat → ClassId) (dI : Nat → Nat → Nat) (x a f0 f1 f2 fe b0 r0 b1 r1 b2 r2 : Nat) (cR : ClassId) (pv : Int32) (p0 : Int32) (p1 : Int32) : Met l yX1_crash wsX1_crash ({ frames := 1, cells := 0, slots := 0, locals := 20 }) (va_Pc [.ref x, .int p0, .int p1] (fun U => nwP U ∧ va_P (dC, dI) vwCl [(x, .inr (2, [.int pv, .ref a, .ref fe, .int 0, .int 0, .int 0, .int 0, .int 0])), (a, .inl (cR, 3, .inr (.inr (.inr (.inr (gF f0 f1 f2)))))), (f0, .inr (1, [.int 0, .ref b0, .ref r0, .int 0, .int 0])), (f1, .inr (1, [.int 1, .ref b1, .ref r1, .int 0, .int 0])), (f2, .inr (1, [.int 2, .ref b2, .ref r2, .int 0, .int 0]))] U.heap ∧ va_K (dC, dI) vwCl [(cR, (.object "ThreeFiles$StoredFile"))] U)) (vp_Si (fun r => r = 0)) 0 0 (fun _ => False) := by
  refine Met.ofW (cc := cX1_crash) (maxL := 3) (ret := (some .boolean)) (by decide) rfl ?_
  intro p e s m args below meth c s₁ B hml hv
  obtain ⟨rfl, hN, hP, hK⟩ := hv
  have hx := B.exec
  have hb := B.bytes
  have hr := B.returns
  have hts := atoms_spec (ws := wsX1_crash) B.pre
  have hown : s.vm.findClass RX1 = some m.cls := findClass_of_methodNamed B.named
  have hlocks := B.notSynchronized
  have hP : va_P (dC, dI) vwCl [(x, .inr (2, [.int pv, .ref a, .ref fe, .int 0, .int 0, .int 0, .int 0, .int 0])), (a, .inl (cR, 3, .inr (.inr (.inr (.inr (gF f0 f1 f2)))))), (f0, .inr (1, [.int 0, .ref b0, .ref r0, .int 0, .int 0])), (f1, .inr (1, [.int 1, .ref b1, .ref r1, .int 0, .int 0])), (f2, .inr (1, [.int 2, .ref b2, .ref r2, .int 0, .int 0]))] s.heap := hP
  have hl := lv_entry ([.ref x, .int p0, .int p1]) (n := 3) (Nat.le_of_ble_eq_true rfl)
  rw [lg_entry_eq]
  generalize (lg_sl ([.ref x, .int p0, .int p1]) ++ List.replicate (3 - (lg_sl ([.ref x, .int p0, .int p1])).length) Slot.unset).toArray = ls at hl ⊢
  have hl : lv_has ls 3 [(0, .ref x), (1, .int p0), (2, .int p1)] := hl
  refine lv_iload_n hx hb dX1_crash_0 rfl (lv_at hl 1 rfl) ?_
  have hPc := hP.sub (ws' := []) [] rfl
  have hKc := hK.sub (tys' := []) [] rfl
  refine vp_callSi ((va_runS (As := [.int p0]) (rest := []) ⟨hx, hb, hml, hown, hts⟩ (c_isFile l dC dI p0) (va_cwS 1 hts gX1_crash_X1_isFile rfl rfl rfl (by decide +kernel) ⟨Nat.le_of_ble_eq_true rfl, Nat.le_of_ble_eq_true rfl⟩) ⟨fun a U g mk q => by obtain ⟨q0, qP, qK⟩ := q; exact ⟨q0, qP, va_K.moved (u := U) (U := U.calling g mk a) (Vm.Alike.refl U.vm) qK⟩, fun U hU hW => ⟨rfl, by rw [hU]; exact hPc, va_K.moved hW.alike hKc⟩⟩ rfl rfl hl.1 rfl (lv_room (Nat.le_of_ble_eq_true rfl)) dX1_crash_1 ⟨Nat.le_of_ble_eq_true rfl, Nat.le_of_ble_eq_true rfl⟩)).run (fun r_1 hq_1 => ?_)
  rcases hq_1 with ⟨rfl, hf_1⟩ | ⟨rfl, hf_1⟩
  ·
    rcases hf_1 with rfl | rfl | rfl
    ·
      refine lv_if_eq (tgt := 24) hx hb dX1_crash_4 (by decide) (fun c4_2 => ?_) (fun c4_2 => ?_)
      · exact absurd c4_2 (by decide)
      ·
        refine lv_iload_n hx hb dX1_crash_7 rfl (lv_at hl 2 rfl) ?_
        refine lv_if_lt (tgt := 24) hx hb dX1_crash_8 (by decide) (fun c8_3 => ?_) (fun c8_3 => ?_)
        ·
          refine lv_iconst (v := 0) hx hb dX1_crash_24 (by decide) ?_
          exact W.zret (ty := .boolean) (v := 0) hx hb hr rfl (fun t ht hW => ⟨0, rfl, rfl, ht⟩) (fun _ h => absurd h List.not_mem_nil) dX1_crash_25
        ·
          refine lv_iload_n hx hb dX1_crash_11 rfl (lv_at hl 2 rfl) ?_
          refine lv_aload_n hx hb dX1_crash_12 rfl (lv_at hl 0 rfl) ?_
          refine va_get (D := (dC, dI)) (ci := 2) (v := .ref a) (C := RX1) (T := TX1) (N := 8) hx hb hts (by decide +kernel) hown hK hP 0 rfl rfl 1 (by decide) (hts (.fieldLink RX1 15 "ThreeFiles" "files" "[LThreeFiles$StoredFile;") (by decide +kernel)) (fun _ h9 => h9) rfl dX1_crash_13 ?_
          refine lv_iload_n hx hb dX1_crash_16 rfl (lv_at hl 1 rfl) ?_
          refine va_aldq hx hb hK hP 1 0 rfl rfl (i := 0) (by unfold vp_in; decide) dX1_crash_17 ?_
          refine W.eq (g2 := F0 m 18 ls [.ref f0, .int p1]) (by rfl) ?_
          have hPc := hP.sub (ws' := [(f0, .inr (1, [.int 0, .ref b0, .ref r0, .int 0, .int 0]))]) [2] rfl
          have hKc := hK.sub (tys' := []) [] rfl
          refine vp_callSi ((va_runVN (As := []) (rest := [.int p1]) ⟨hx, hb, hml, hown, hts⟩ (c_length l dC dI f0 0 b0 r0) ⟨va_cnB 0 hts gX1_crash_X0_length_n66 rfl rfl rfl hN.n66 (hts (.initialized RX0) (by decide +kernel)) (by decide +kernel) ⟨Nat.le_of_ble_eq_true rfl, Nat.le_of_ble_eq_true rfl⟩, hts (.instanceMethod yX0_length) (by decide +kernel), hts (.selects RX0 yX0_length yX0_length) (by decide +kernel)⟩ ⟨fun a U g mk q => by obtain ⟨q0, qP, qK⟩ := q; exact ⟨q0, qP, va_K.moved (u := U) (U := U.calling g mk a) (Vm.Alike.refl U.vm) qK⟩, va_recv hKc hPc (ci := 1) (q0 := 0) rfl rfl, fun U hU hW => ⟨rfl, by rw [hU]; exact hPc, va_K.moved hW.alike hKc⟩⟩ rfl rfl hl.1 rfl (lv_room (Nat.le_of_ble_eq_true rfl)) dX1_crash_18 ⟨Nat.le_of_ble_eq_true rfl, Nat.le_of_ble_eq_true rfl⟩)).run (fun r_4 hq_4 => ?_)
          obtain rfl : r_4 = 0 := hq_4
          refine lv_icmp_lt (tgt := 26) hx hb dX1_crash_21 (by decide) (fun c21_5 => ?_) (fun c21_5 => ?_)
          · exact absurd c21_5 c8_3
          ·
            refine lv_iconst (v := 0) hx hb dX1_crash_24 (by decide) ?_
            exact W.zret (ty := .boolean) (v := 0) hx hb hr rfl (fun t ht hW => ⟨0, rfl, rfl, ht⟩) (fun _ h => absurd h List.not_mem_nil) dX1_crash_25
    ·
      refine lv_if_eq (tgt := 24) hx hb dX1_crash_4 (by decide) (fun c4_6 => ?_) (fun c4_6 => ?_)
      · exact absurd c4_6 (by decide)
      ·
        refine lv_iload_n hx hb dX1_crash_7 rfl (lv_at hl 2 rfl) ?_
        refine lv_if_lt (tgt := 24) hx hb dX1_crash_8 (by decide) (fun c8_7 => ?_) (fun c8_7 => ?_)
        ·
          refine lv_iconst (v := 0) hx hb dX1_crash_24 (by decide) ?_
          exact W.zret (ty := .boolean) (v := 0) hx hb hr rfl (fun t ht hW => ⟨0, rfl, rfl, ht⟩) (fun _ h => absurd h List.not_mem_nil) dX1_crash_25
        ·
          refine lv_iload_n hx hb dX1_crash_11 rfl (lv_at hl 2 rfl) ?_
          refine lv_aload_n hx hb dX1_crash_12 rfl (lv_at hl 0 rfl) ?_
          refine va_get (D := (dC, dI)) (ci := 2) (v := .ref a) (C := RX1) (T := TX1) (N := 8) hx hb hts (by decide +kernel) hown hK hP 0 rfl rfl 1 (by decide) (hts (.fieldLink RX1 15 "ThreeFiles" "files" "[LThreeFiles$StoredFile;") (by decide +kernel)) (fun _ h9 => h9) rfl dX1_crash_13 ?_
          refine lv_iload_n hx hb dX1_crash_16 rfl (lv_at hl 1 rfl) ?_
          refine va_aldq hx hb hK hP 1 0 rfl rfl (i := 1) (by unfold vp_in; decide) dX1_crash_17 ?_
          refine W.eq (g2 := F0 m 18 ls [.ref f1, .int p1]) (by rfl) ?_
          have hPc := hP.sub (ws' := [(f1, .inr (1, [.int 1, .ref b1, .ref r1, .int 0, .int 0]))]) [3] rfl
          have hKc := hK.sub (tys' := []) [] rfl
          refine vp_callSi ((va_runVN (As := []) (rest := [.int p1]) ⟨hx, hb, hml, hown, hts⟩ (c_length l dC dI f1 1 b1 r1) ⟨va_cnB 0 hts gX1_crash_X0_length_n66 rfl rfl rfl hN.n66 (hts (.initialized RX0) (by decide +kernel)) (by decide +kernel) ⟨Nat.le_of_ble_eq_true rfl, Nat.le_of_ble_eq_true rfl⟩, hts (.instanceMethod yX0_length) (by decide +kernel), hts (.selects RX0 yX0_length yX0_length) (by decide +kernel)⟩ ⟨fun a U g mk q => by obtain ⟨q0, qP, qK⟩ := q; exact ⟨q0, qP, va_K.moved (u := U) (U := U.calling g mk a) (Vm.Alike.refl U.vm) qK⟩, va_recv hKc hPc (ci := 1) (q0 := 0) rfl rfl, fun U hU hW => ⟨rfl, by rw [hU]; exact hPc, va_K.moved hW.alike hKc⟩⟩ rfl rfl hl.1 rfl (lv_room (Nat.le_of_ble_eq_true rfl)) dX1_crash_18 ⟨Nat.le_of_ble_eq_true rfl, Nat.le_of_ble_eq_true rfl⟩)).run (fun r_8 hq_8 => ?_)
          obtain rfl : r_8 = 0 := hq_8
          refine lv_icmp_lt (tgt := 26) hx hb dX1_crash_21 (by decide) (fun c21_9 => ?_) (fun c21_9 => ?_)
          · exact absurd c21_9 c8_7
          ·
            refine lv_iconst (v := 0) hx hb dX1_crash_24 (by decide) ?_
            exact W.zret (ty := .boolean) (v := 0) hx hb hr rfl (fun t ht hW => ⟨0, rfl, rfl, ht⟩) (fun _ h => absurd h List.not_mem_nil) dX1_crash_25
    ·
      refine lv_if_eq (tgt := 24) hx hb dX1_crash_4 (by decide) (fun c4_10 => ?_) (fun c4_10 => ?_)
      · exact absurd c4_10 (by decide)
      ·
        refine lv_iload_n hx hb dX1_crash_7 rfl (lv_at hl 2 rfl) ?_
        refine lv_if_lt (tgt := 24) hx hb dX1_crash_8 (by decide) (fun c8_11 => ?_) (fun c8_11 => ?_)
        ·
          refine lv_iconst (v := 0) hx hb dX1_crash_24 (by decide) ?_
          exact W.zret (ty := .boolean) (v := 0) hx hb hr rfl (fun t ht hW => ⟨0, rfl, rfl, ht⟩) (fun _ h => absurd h List.not_mem_nil) dX1_crash_25
        ·
          refine lv_iload_n hx hb dX1_crash_11 rfl (lv_at hl 2 rfl) ?_
          refine lv_aload_n hx hb dX1_crash_12 rfl (lv_at hl 0 rfl) ?_
          refine va_get (D := (dC, dI)) (ci := 2) (v := .ref a) (C := RX1) (T := TX1) (N := 8) hx hb hts (by decide +kernel) hown hK hP 0 rfl rfl 1 (by decide) (hts (.fieldLink RX1 15 "ThreeFiles" "files" "[LThreeFiles$StoredFile;") (by decide +kernel)) (fun _ h9 => h9) rfl dX1_crash_13 ?_
          refine lv_iload_n hx hb dX1_crash_16 rfl (lv_at hl 1 rfl) ?_
          refine va_aldq hx hb hK hP 1 0 rfl rfl (i := 2) (by unfold vp_in; decide) dX1_crash_17 ?_
          refine W.eq (g2 := F0 m 18 ls [.ref f2, .int p1]) (by rfl) ?_
          have hPc := hP.sub (ws' := [(f2, .inr (1, [.int 2, .ref b2, .ref r2, .int 0, .int 0]))]) [4] rfl
          have hKc := hK.sub (tys' := []) [] rfl
          refine vp_callSi ((va_runVN (As := []) (rest := [.int p1]) ⟨hx, hb, hml, hown, hts⟩ (c_length l dC dI f2 2 b2 r2) ⟨va_cnB 0 hts gX1_crash_X0_length_n66 rfl rfl rfl hN.n66 (hts (.initialized RX0) (by decide +kernel)) (by decide +kernel) ⟨Nat.le_of_ble_eq_true rfl, Nat.le_of_ble_eq_true rfl⟩, hts (.instanceMethod yX0_length) (by decide +kernel), hts (.selects RX0 yX0_length yX0_length) (by decide +kernel)⟩ ⟨fun a U g mk q => by obtain ⟨q0, qP, qK⟩ := q; exact ⟨q0, qP, va_K.moved (u := U) (U := U.calling g mk a) (Vm.Alike.refl U.vm) qK⟩, va_recv hKc hPc (ci := 1) (q0 := 0) rfl rfl, fun U hU hW => ⟨rfl, by rw [hU]; exact hPc, va_K.moved hW.alike hKc⟩⟩ rfl rfl hl.1 rfl (lv_room (Nat.le_of_ble_eq_true rfl)) dX1_crash_18 ⟨Nat.le_of_ble_eq_true rfl, Nat.le_of_ble_eq_true rfl⟩)).run (fun r_12 hq_12 => ?_)
          obtain rfl : r_12 = 0 := hq_12
          refine lv_icmp_lt (tgt := 26) hx hb dX1_crash_21 (by decide) (fun c21_13 => ?_) (fun c21_13 => ?_)
          · exact absurd c21_13 c8_11
          ·
            refine lv_iconst (v := 0) hx hb dX1_crash_24 (by decide) ?_
            exact W.zret (ty := .boolean) (v := 0) hx hb hr rfl (fun t ht hW => ⟨0, rfl, rfl, ht⟩) (fun _ h => absurd h List.not_mem_nil) dX1_crash_25
  ·
    refine lv_if_eq (tgt := 24) hx hb dX1_crash_4 (by decide) (fun c4_14 => ?_) (fun c4_14 => ?_)
    ·
      refine lv_iconst (v := 0) hx hb dX1_crash_24 (by decide) ?_
      exact W.zret (ty := .boolean) (v := 0) hx hb hr rfl (fun t ht hW => ⟨0, rfl, rfl, ht⟩) (fun _ h => absurd h List.not_mem_nil) dX1_crash_25
    · exact absurd (by decide) c4_14

set_option maxHeartbeats 4000000 in
set_option maxRecDepth 100000 in
theorem c_lose (l : Launch) (dC : Nat → ClassId) (dI : Nat → Nat → Nat) (x a f0 f1 f2 fe b0 r0 b1 r1 b2 r2 : Nat) (cR : ClassId) (pv : Int32) (p0 : Int32) : Met l yX1_lose wsX1_lose ({ frames := 2, cells := 0, slots := 0, locals := 42 }) (va_Pc [.ref x, .int p0] (fun U => nwP U ∧ va_P (dC, dI) vwCl [(x, .inr (2, [.int pv, .ref a, .ref fe, .int 0, .int 0, .int 0, .int 0, .int 0])), (a, .inl (cR, 3, .inr (.inr (.inr (.inr (gF f0 f1 f2)))))), (f0, .inr (1, [.int 0, .ref b0, .ref r0, .int 0, .int 0])), (f1, .inr (1, [.int 1, .ref b1, .ref r1, .int 0, .int 0])), (f2, .inr (1, [.int 2, .ref b2, .ref r2, .int 0, .int 0]))] U.heap ∧ va_K (dC, dI) vwCl [(cR, (.object "ThreeFiles$StoredFile"))] U)) (vp_Si (fun r => r = 0)) 0 0 (fun _ => False) := by
  refine Met.ofW (cc := cX1_lose) (maxL := 2) (ret := (some .boolean)) (by decide) rfl ?_
  intro p e s m args below meth c s₁ B hml hv
  obtain ⟨rfl, hN, hP, hK⟩ := hv
  have hx := B.exec
  have hb := B.bytes
  have hr := B.returns
  have hts := atoms_spec (ws := wsX1_lose) B.pre
  have hown : s.vm.findClass RX1 = some m.cls := findClass_of_methodNamed B.named
  have hlocks := B.notSynchronized
  have hP : va_P (dC, dI) vwCl [(x, .inr (2, [.int pv, .ref a, .ref fe, .int 0, .int 0, .int 0, .int 0, .int 0])), (a, .inl (cR, 3, .inr (.inr (.inr (.inr (gF f0 f1 f2)))))), (f0, .inr (1, [.int 0, .ref b0, .ref r0, .int 0, .int 0])), (f1, .inr (1, [.int 1, .ref b1, .ref r1, .int 0, .int 0])), (f2, .inr (1, [.int 2, .ref b2, .ref r2, .int 0, .int 0]))] s.heap := hP
  have hl := lv_entry ([.ref x, .int p0]) (n := 2) (Nat.le_of_ble_eq_true rfl)
  rw [lg_entry_eq]
  generalize (lg_sl ([.ref x, .int p0]) ++ List.replicate (2 - (lg_sl ([.ref x, .int p0])).length) Slot.unset).toArray = ls at hl ⊢
  have hl : lv_has ls 2 [(0, .ref x), (1, .int p0)] := hl
  refine lv_aload_n hx hb dX1_lose_0 rfl (lv_at hl 0 rfl) ?_
  refine lv_iload_n hx hb dX1_lose_1 rfl (lv_at hl 1 rfl) ?_
  refine lv_iconst (v := 0) hx hb dX1_lose_2 (by decide) ?_
  have hPc := hP.sub (ws' := [(x, .inr (2, [.int pv, .ref a, .ref fe, .int 0, .int 0, .int 0, .int 0, .int 0])), (a, .inl (cR, 3, .inr (.inr (.inr (.inr (gF f0 f1 f2)))))), (f0, .inr (1, [.int 0, .ref b0, .ref r0, .int 0, .int 0])), (f1, .inr (1, [.int 1, .ref b1, .ref r1, .int 0, .int 0])), (f2, .inr (1, [.int 2, .ref b2, .ref r2, .int 0, .int 0]))]) [0, 1, 2, 3, 4] rfl
  have hKc := hK.sub (tys' := [(cR, (.object "ThreeFiles$StoredFile"))]) [0] rfl
  refine vp_callSi ((va_runV (As := [.int p0, .int 0]) (rest := []) ⟨hx, hb, hml, hown, hts⟩ (c_crash l dC dI x a f0 f1 f2 fe b0 r0 b1 r1 b2 r2 cR pv p0 0) (cwV 2 hts gX1_lose_X1_crash rfl rfl rfl (by decide +kernel) ⟨Nat.le_of_ble_eq_true rfl, Nat.le_of_ble_eq_true rfl⟩) ⟨fun a U g mk q => by obtain ⟨q0, qN, qP, qK⟩ := q; exact ⟨q0, nwS qN, qP, va_K.moved (u := U) (U := U.calling g mk a) (Vm.Alike.refl U.vm) qK⟩, va_recv hKc hPc (ci := 2) (q0 := 0) rfl rfl, fun U hU hW => ⟨rfl, nwW hW hN, by rw [hU]; exact hPc, va_K.moved hW.alike hKc⟩⟩ rfl rfl hl.1 rfl (lv_room (Nat.le_of_ble_eq_true rfl)) dX1_lose_3 ⟨Nat.le_of_ble_eq_true rfl, Nat.le_of_ble_eq_true rfl⟩)).run (fun r_1 hq_1 => ?_)
  obtain rfl : r_1 = 0 := hq_1
  exact W.zret (ty := .boolean) (v := 0) hx hb hr rfl (fun t ht hW => ⟨0, rfl, rfl, ht⟩) (fun _ h => absurd h List.not_mem_nil) dX1_lose_6

set_option maxHeartbeats 4000000 in
set_option maxRecDepth 100000 in
theorem c_poke (l : Launch) (dC : Nat → ClassId) (dI : Nat → Nat → Nat) (x a f0 f1 f2 fe b0 r0 b1 r1 b2 r2 : Nat) (cR : ClassId) (pv : Int32) (p0 : Int32) (p1 : Int32) (p2 : Int32) : Met l yX1_poke wsX1_poke ({ frames := 1, cells := 0, slots := 0, locals := 21 }) (va_Pc [.ref x, .int p0, .int p1, .int p2] (fun U => nwP U ∧ va_P (dC, dI) vwCl [(x, .inr (2, [.int pv, .ref a, .ref fe, .int 0, .int 0, .int 0, .int 0, .int 0])), (a, .inl (cR, 3, .inr (.inr (.inr (.inr (gF f0 f1 f2)))))), (f0, .inr (1, [.int 0, .ref b0, .ref r0, .int 0, .int 0])), (f1, .inr (1, [.int 1, .ref b1, .ref r1, .int 0, .int 0])), (f2, .inr (1, [.int 2, .ref b2, .ref r2, .int 0, .int 0]))] U.heap ∧ va_K (dC, dI) vwCl [(cR, (.object "ThreeFiles$StoredFile"))] U)) (vp_Si (fun r => r = 0)) 0 0 (fun _ => False) := by
  refine Met.ofW (cc := cX1_poke) (maxL := 4) (ret := (some .boolean)) (by decide) rfl ?_
  intro p e s m args below meth c s₁ B hml hv
  obtain ⟨rfl, hN, hP, hK⟩ := hv
  have hx := B.exec
  have hb := B.bytes
  have hr := B.returns
  have hts := atoms_spec (ws := wsX1_poke) B.pre
  have hown : s.vm.findClass RX1 = some m.cls := findClass_of_methodNamed B.named
  have hlocks := B.notSynchronized
  have hP : va_P (dC, dI) vwCl [(x, .inr (2, [.int pv, .ref a, .ref fe, .int 0, .int 0, .int 0, .int 0, .int 0])), (a, .inl (cR, 3, .inr (.inr (.inr (.inr (gF f0 f1 f2)))))), (f0, .inr (1, [.int 0, .ref b0, .ref r0, .int 0, .int 0])), (f1, .inr (1, [.int 1, .ref b1, .ref r1, .int 0, .int 0])), (f2, .inr (1, [.int 2, .ref b2, .ref r2, .int 0, .int 0]))] s.heap := hP
  have hl := lv_entry ([.ref x, .int p0, .int p1, .int p2]) (n := 4) (Nat.le_of_ble_eq_true rfl)
  rw [lg_entry_eq]
  generalize (lg_sl ([.ref x, .int p0, .int p1, .int p2]) ++ List.replicate (4 - (lg_sl ([.ref x, .int p0, .int p1, .int p2])).length) Slot.unset).toArray = ls at hl ⊢
  have hl : lv_has ls 4 [(0, .ref x), (1, .int p0), (2, .int p1), (3, .int p2)] := hl
  refine lv_iload_n hx hb dX1_poke_0 rfl (lv_at hl 1 rfl) ?_
  have hPc := hP.sub (ws' := []) [] rfl
  have hKc := hK.sub (tys' := []) [] rfl
  refine vp_callSi ((va_runS (As := [.int p0]) (rest := []) ⟨hx, hb, hml, hown, hts⟩ (c_isFile l dC dI p0) (va_cwS 1 hts gX1_poke_X1_isFile rfl rfl rfl (by decide +kernel) ⟨Nat.le_of_ble_eq_true rfl, Nat.le_of_ble_eq_true rfl⟩) ⟨fun a U g mk q => by obtain ⟨q0, qP, qK⟩ := q; exact ⟨q0, qP, va_K.moved (u := U) (U := U.calling g mk a) (Vm.Alike.refl U.vm) qK⟩, fun U hU hW => ⟨rfl, by rw [hU]; exact hPc, va_K.moved hW.alike hKc⟩⟩ rfl rfl hl.1 rfl (lv_room (Nat.le_of_ble_eq_true rfl)) dX1_poke_1 ⟨Nat.le_of_ble_eq_true rfl, Nat.le_of_ble_eq_true rfl⟩)).run (fun r_1 hq_1 => ?_)
  rcases hq_1 with ⟨rfl, hf_1⟩ | ⟨rfl, hf_1⟩
  ·
    rcases hf_1 with rfl | rfl | rfl
    ·
      refine lv_if_eq (tgt := 32) hx hb dX1_poke_4 (by decide) (fun c4_2 => ?_) (fun c4_2 => ?_)
      · exact absurd c4_2 (by decide)
      ·
        refine lv_aload_n hx hb dX1_poke_7 rfl (lv_at hl 0 rfl) ?_
        refine va_get (D := (dC, dI)) (ci := 2) (v := .ref a) (C := RX1) (T := TX1) (N := 8) hx hb hts (by decide +kernel) hown hK hP 0 rfl rfl 1 (by decide) (hts (.fieldLink RX1 15 "ThreeFiles" "files" "[LThreeFiles$StoredFile;") (by decide +kernel)) (fun _ h9 => h9) rfl dX1_poke_8 ?_
        refine lv_iload_n hx hb dX1_poke_11 rfl (lv_at hl 1 rfl) ?_
        refine va_aldq hx hb hK hP 1 0 rfl rfl (i := 0) (by unfold vp_in; decide) dX1_poke_12 ?_
        refine W.eq (g2 := F0 m 13 ls [.ref f0]) (by rfl) ?_
        refine lv_iload_n hx hb dX1_poke_13 rfl (lv_at hl 2 rfl) ?_
        have hPc := hP.sub (ws' := [(f0, .inr (1, [.int 0, .ref b0, .ref r0, .int 0, .int 0]))]) [2] rfl
        have hKc := hK.sub (tys' := []) [] rfl
        refine vp_callSi ((va_runVN (As := [.int p1]) (rest := []) ⟨hx, hb, hml, hown, hts⟩ (c_has l dC dI f0 0 b0 r0 p1) ⟨va_cnB 1 hts gX1_poke_X0_has_n79 rfl rfl rfl hN.n79 (hts (.initialized RX0) (by decide +kernel)) (by decide +kernel) ⟨Nat.le_of_ble_eq_true rfl, Nat.le_of_ble_eq_true rfl⟩, hts (.instanceMethod yX0_has) (by decide +kernel), hts (.selects RX0 yX0_has yX0_has) (by decide +kernel)⟩ ⟨fun a U g mk q => by obtain ⟨q0, qP, qK⟩ := q; exact ⟨q0, qP, va_K.moved (u := U) (U := U.calling g mk a) (Vm.Alike.refl U.vm) qK⟩, va_recv hKc hPc (ci := 1) (q0 := 0) rfl rfl, fun U hU hW => ⟨rfl, by rw [hU]; exact hPc, va_K.moved hW.alike hKc⟩⟩ rfl rfl hl.1 rfl (lv_room (Nat.le_of_ble_eq_true rfl)) dX1_poke_14 ⟨Nat.le_of_ble_eq_true rfl, Nat.le_of_ble_eq_true rfl⟩)).run (fun r_3 hq_3 => ?_)
        obtain rfl : r_3 = 0 := hq_3
        refine lv_if_eq (tgt := 32) hx hb dX1_poke_17 (by decide) (fun c17_4 => ?_) (fun c17_4 => ?_)
        ·
          refine lv_iconst (v := 0) hx hb dX1_poke_32 (by decide) ?_
          exact W.zret (ty := .boolean) (v := 0) hx hb hr rfl (fun t ht hW => ⟨0, rfl, rfl, ht⟩) (fun _ h => absurd h List.not_mem_nil) dX1_poke_33
        · exact absurd (by decide) c17_4
    ·
      refine lv_if_eq (tgt := 32) hx hb dX1_poke_4 (by decide) (fun c4_5 => ?_) (fun c4_5 => ?_)
      · exact absurd c4_5 (by decide)
      ·
        refine lv_aload_n hx hb dX1_poke_7 rfl (lv_at hl 0 rfl) ?_
        refine va_get (D := (dC, dI)) (ci := 2) (v := .ref a) (C := RX1) (T := TX1) (N := 8) hx hb hts (by decide +kernel) hown hK hP 0 rfl rfl 1 (by decide) (hts (.fieldLink RX1 15 "ThreeFiles" "files" "[LThreeFiles$StoredFile;") (by decide +kernel)) (fun _ h9 => h9) rfl dX1_poke_8 ?_
        refine lv_iload_n hx hb dX1_poke_11 rfl (lv_at hl 1 rfl) ?_
        refine va_aldq hx hb hK hP 1 0 rfl rfl (i := 1) (by unfold vp_in; decide) dX1_poke_12 ?_
        refine W.eq (g2 := F0 m 13 ls [.ref f1]) (by rfl) ?_
        refine lv_iload_n hx hb dX1_poke_13 rfl (lv_at hl 2 rfl) ?_
        have hPc := hP.sub (ws' := [(f1, .inr (1, [.int 1, .ref b1, .ref r1, .int 0, .int 0]))]) [3] rfl
        have hKc := hK.sub (tys' := []) [] rfl
        refine vp_callSi ((va_runVN (As := [.int p1]) (rest := []) ⟨hx, hb, hml, hown, hts⟩ (c_has l dC dI f1 1 b1 r1 p1) ⟨va_cnB 1 hts gX1_poke_X0_has_n79 rfl rfl rfl hN.n79 (hts (.initialized RX0) (by decide +kernel)) (by decide +kernel) ⟨Nat.le_of_ble_eq_true rfl, Nat.le_of_ble_eq_true rfl⟩, hts (.instanceMethod yX0_has) (by decide +kernel), hts (.selects RX0 yX0_has yX0_has) (by decide +kernel)⟩ ⟨fun a U g mk q => by obtain ⟨q0, qP, qK⟩ := q; exact ⟨q0, qP, va_K.moved (u := U) (U := U.calling g mk a) (Vm.Alike.refl U.vm) qK⟩, va_recv hKc hPc (ci := 1) (q0 := 0) rfl rfl, fun U hU hW => ⟨rfl, by rw [hU]; exact hPc, va_K.moved hW.alike hKc⟩⟩ rfl rfl hl.1 rfl (lv_room (Nat.le_of_ble_eq_true rfl)) dX1_poke_14 ⟨Nat.le_of_ble_eq_true rfl, Nat.le_of_ble_eq_true rfl⟩)).run (fun r_6 hq_6 => ?_)
        obtain rfl : r_6 = 0 := hq_6
        refine lv_if_eq (tgt := 32) hx hb dX1_poke_17 (by decide) (fun c17_7 => ?_) (fun c17_7 => ?_)
        ·
          refine lv_iconst (v := 0) hx hb dX1_poke_32 (by decide) ?_
          exact W.zret (ty := .boolean) (v := 0) hx hb hr rfl (fun t ht hW => ⟨0, rfl, rfl, ht⟩) (fun _ h => absurd h List.not_mem_nil) dX1_poke_33
        · exact absurd (by decide) c17_7
    ·
      refine lv_if_eq (tgt := 32) hx hb dX1_poke_4 (by decide) (fun c4_8 => ?_) (fun c4_8 => ?_)
      · exact absurd c4_8 (by decide)
      ·
        refine lv_aload_n hx hb dX1_poke_7 rfl (lv_at hl 0 rfl) ?_
        refine va_get (D := (dC, dI)) (ci := 2) (v := .ref a) (C := RX1) (T := TX1) (N := 8) hx hb hts (by decide +kernel) hown hK hP 0 rfl rfl 1 (by decide) (hts (.fieldLink RX1 15 "ThreeFiles" "files" "[LThreeFiles$StoredFile;") (by decide +kernel)) (fun _ h9 => h9) rfl dX1_poke_8 ?_
        refine lv_iload_n hx hb dX1_poke_11 rfl (lv_at hl 1 rfl) ?_
        refine va_aldq hx hb hK hP 1 0 rfl rfl (i := 2) (by unfold vp_in; decide) dX1_poke_12 ?_
        refine W.eq (g2 := F0 m 13 ls [.ref f2]) (by rfl) ?_
        refine lv_iload_n hx hb dX1_poke_13 rfl (lv_at hl 2 rfl) ?_
        have hPc := hP.sub (ws' := [(f2, .inr (1, [.int 2, .ref b2, .ref r2, .int 0, .int 0]))]) [4] rfl
        have hKc := hK.sub (tys' := []) [] rfl
        refine vp_callSi ((va_runVN (As := [.int p1]) (rest := []) ⟨hx, hb, hml, hown, hts⟩ (c_has l dC dI f2 2 b2 r2 p1) ⟨va_cnB 1 hts gX1_poke_X0_has_n79 rfl rfl rfl hN.n79 (hts (.initialized RX0) (by decide +kernel)) (by decide +kernel) ⟨Nat.le_of_ble_eq_true rfl, Nat.le_of_ble_eq_true rfl⟩, hts (.instanceMethod yX0_has) (by decide +kernel), hts (.selects RX0 yX0_has yX0_has) (by decide +kernel)⟩ ⟨fun a U g mk q => by obtain ⟨q0, qP, qK⟩ := q; exact ⟨q0, qP, va_K.moved (u := U) (U := U.calling g mk a) (Vm.Alike.refl U.vm) qK⟩, va_recv hKc hPc (ci := 1) (q0 := 0) rfl rfl, fun U hU hW => ⟨rfl, by rw [hU]; exact hPc, va_K.moved hW.alike hKc⟩⟩ rfl rfl hl.1 rfl (lv_room (Nat.le_of_ble_eq_true rfl)) dX1_poke_14 ⟨Nat.le_of_ble_eq_true rfl, Nat.le_of_ble_eq_true rfl⟩)).run (fun r_9 hq_9 => ?_)
        obtain rfl : r_9 = 0 := hq_9
        refine lv_if_eq (tgt := 32) hx hb dX1_poke_17 (by decide) (fun c17_10 => ?_) (fun c17_10 => ?_)
        ·
          refine lv_iconst (v := 0) hx hb dX1_poke_32 (by decide) ?_
          exact W.zret (ty := .boolean) (v := 0) hx hb hr rfl (fun t ht hW => ⟨0, rfl, rfl, ht⟩) (fun _ h => absurd h List.not_mem_nil) dX1_poke_33
        · exact absurd (by decide) c17_10
  ·
    refine lv_if_eq (tgt := 32) hx hb dX1_poke_4 (by decide) (fun c4_11 => ?_) (fun c4_11 => ?_)
    ·
      refine lv_iconst (v := 0) hx hb dX1_poke_32 (by decide) ?_
      exact W.zret (ty := .boolean) (v := 0) hx hb hr rfl (fun t ht hW => ⟨0, rfl, rfl, ht⟩) (fun _ h => absurd h List.not_mem_nil) dX1_poke_33
    · exact absurd (by decide) c4_11

set_option maxHeartbeats 4000000 in
set_option maxRecDepth 100000 in
theorem c_scrub (l : Launch) (dC : Nat → ClassId) (dI : Nat → Nat → Nat) (x a f0 f1 f2 fe b0 r0 b1 r1 b2 r2 : Nat) (cR : ClassId) (pv : Int32) (p0 : Int32) : Met l yX1_scrub wsX1_scrub ({ frames := 2, cells := 0, slots := 0, locals := 42 }) (va_Pc [.ref x, .int p0] (fun U => nwP U ∧ va_P (dC, dI) vwCl [(x, .inr (2, [.int pv, .ref a, .ref fe, .int 0, .int 0, .int 0, .int 0, .int 0])), (a, .inl (cR, 3, .inr (.inr (.inr (.inr (gF f0 f1 f2)))))), (f0, .inr (1, [.int 0, .ref b0, .ref r0, .int 0, .int 0])), (f1, .inr (1, [.int 1, .ref b1, .ref r1, .int 0, .int 0])), (f2, .inr (1, [.int 2, .ref b2, .ref r2, .int 0, .int 0]))] U.heap ∧ va_K (dC, dI) vwCl [(cR, (.object "ThreeFiles$StoredFile"))] U)) (vp_Si (fun r => r = (if p0 < 1 then (-1) else 0))) 0 0 (fun _ => False) := by
  refine Met.ofW (cc := cX1_scrub) (maxL := 8) (ret := (some .int)) (by decide) rfl ?_
  intro p e s m args below meth c s₁ B hml hv
  obtain ⟨rfl, hN, hP, hK⟩ := hv
  have hx := B.exec
  have hb := B.bytes
  have hr := B.returns
  have hts := atoms_spec (ws := wsX1_scrub) B.pre
  have hown : s.vm.findClass RX1 = some m.cls := findClass_of_methodNamed B.named
  have hlocks := B.notSynchronized
  have hP : va_P (dC, dI) vwCl [(x, .inr (2, [.int pv, .ref a, .ref fe, .int 0, .int 0, .int 0, .int 0, .int 0])), (a, .inl (cR, 3, .inr (.inr (.inr (.inr (gF f0 f1 f2)))))), (f0, .inr (1, [.int 0, .ref b0, .ref r0, .int 0, .int 0])), (f1, .inr (1, [.int 1, .ref b1, .ref r1, .int 0, .int 0])), (f2, .inr (1, [.int 2, .ref b2, .ref r2, .int 0, .int 0]))] s.heap := hP
  have hl := lv_entry ([.ref x, .int p0]) (n := 8) (Nat.le_of_ble_eq_true rfl)
  rw [lg_entry_eq]
  generalize (lg_sl ([.ref x, .int p0]) ++ List.replicate (8 - (lg_sl ([.ref x, .int p0])).length) Slot.unset).toArray = ls at hl ⊢
  have hl : lv_has ls 8 [(0, .ref x), (1, .int p0)] := hl
  refine lv_aload_n hx hb dX1_scrub_0 rfl (lv_at hl 0 rfl) ?_
  have hPc := hP.sub (ws' := [(x, .inr (2, [.int pv, .ref a, .ref fe, .int 0, .int 0, .int 0, .int 0, .int 0])), (a, .inl (cR, 3, .inr (.inr (.inr (.inr (gF f0 f1 f2)))))), (f0, .inr (1, [.int 0, .ref b0, .ref r0, .int 0, .int 0])), (f1, .inr (1, [.int 1, .ref b1, .ref r1, .int 0, .int 0])), (f2, .inr (1, [.int 2, .ref b2, .ref r2, .int 0, .int 0]))]) [0, 1, 2, 3, 4] rfl
  have hKc := hK.sub (tys' := [(cR, (.object "ThreeFiles$StoredFile"))]) [0] rfl
  refine vp_callSi ((va_runV (As := []) (rest := []) ⟨hx, hb, hml, hown, hts⟩ (c_stripeCount l dC dI x a f0 f1 f2 fe b0 r0 b1 r1 b2 r2 cR pv) (cwV 0 hts gX1_scrub_X1_stripeCount rfl rfl rfl (by decide +kernel) ⟨Nat.le_of_ble_eq_true rfl, Nat.le_of_ble_eq_true rfl⟩) ⟨fun a U g mk q => by obtain ⟨q0, qN, qP, qK⟩ := q; exact ⟨q0, nwS qN, qP, va_K.moved (u := U) (U := U.calling g mk a) (Vm.Alike.refl U.vm) qK⟩, va_recv hKc hPc (ci := 2) (q0 := 0) rfl rfl, fun U hU hW => ⟨rfl, nwW hW hN, by rw [hU]; exact hPc, va_K.moved hW.alike hKc⟩⟩ rfl rfl hl.1 rfl (lv_room (Nat.le_of_ble_eq_true rfl)) dX1_scrub_1 ⟨Nat.le_of_ble_eq_true rfl, Nat.le_of_ble_eq_true rfl⟩)).run (fun r_1 hq_1 => ?_)
  obtain rfl : r_1 = 0 := hq_1
  refine lv_istore_n (lv' := [(2, .int 0), (0, .ref x), (1, .int p0)]) hx hb dX1_scrub_4 rfl hl (by decide) rfl (fun ls hl => ?_)
  refine lv_iload_n hx hb dX1_scrub_5 rfl (lv_at hl 2 rfl) ?_
  refine lv_iconst (v := 1) hx hb dX1_scrub_6 (by decide) ?_
  refine lv_icmp_lt (tgt := 21) hx hb dX1_scrub_7 (by decide) (fun c7_2 => ?_) (fun c7_2 => ?_)
  ·
    refine lv_iconst (v := (-1)) hx hb dX1_scrub_21 (by decide) ?_
    exact W.iret (v := (-1)) hx hb hr (fun t ht hW => ⟨(-1), rfl, (if_pos c7_2).symm, ht⟩) (fun _ h => absurd h List.not_mem_nil) dX1_scrub_22
  ·
    refine lv_aload_n hx hb dX1_scrub_10 rfl (lv_at hl 1 rfl) ?_
    refine lv_iload_n hx hb dX1_scrub_11 rfl (lv_at hl 0 rfl) ?_
    refine lv_bipush (v := 24) hx hb dX1_scrub_12 (by decide) ?_
    refine lv_imul hx hb dX1_scrub_14 ?_
    refine W.eq (g2 := F0 m 15 ls [.int 0, .ref x]) (by rfl) ?_
    have hPc := hP.sub (ws' := [(x, .inr (2, [.int pv, .ref a, .ref fe, .int 0, .int 0, .int 0, .int 0, .int 0])), (a, .inl (cR, 3, .inr (.inr (.inr (.inr (gF f0 f1 f2)))))), (f0, .inr (1, [.int 0, .ref b0, .ref r0, .int 0, .int 0])), (f1, .inr (1, [.int 1, .ref b1, .ref r1, .int 0, .int 0])), (f2, .inr (1, [.int 2, .ref b2, .ref r2, .int 0, .int 0]))]) [0, 1, 2, 3, 4] rfl
    have hKc := hK.sub (tys' := [(cR, (.object "ThreeFiles$StoredFile"))]) [0] rfl
    refine vp_callSi ((va_runV (As := [.int 0]) (rest := []) ⟨hx, hb, hml, hown, hts⟩ (c_allFilesReach l dC dI x a f0 f1 f2 fe b0 r0 b1 r1 b2 r2 cR pv) (cwV 1 hts gX1_scrub_X1_allFilesReach rfl rfl rfl (by decide +kernel) ⟨Nat.le_of_ble_eq_true rfl, Nat.le_of_ble_eq_true rfl⟩) ⟨fun a U g mk q => by obtain ⟨q0, qN, qP, qK⟩ := q; exact ⟨q0, nwS qN, qP, va_K.moved (u := U) (U := U.calling g mk a) (Vm.Alike.refl U.vm) qK⟩, va_recv hKc hPc (ci := 2) (q0 := 0) rfl rfl, fun U hU hW => ⟨rfl, nwW hW hN, by rw [hU]; exact hPc, va_K.moved hW.alike hKc⟩⟩ rfl rfl hl.1 rfl (lv_room (Nat.le_of_ble_eq_true rfl)) dX1_scrub_15 ⟨Nat.le_of_ble_eq_true rfl, Nat.le_of_ble_eq_true rfl⟩)).run (fun r_3 hq_3 => ?_)
    obtain rfl : r_3 = 1 := hq_3
    refine lv_if_ne (tgt := 23) hx hb dX1_scrub_18 (by decide) (fun c18_4 => ?_) (fun c18_4 => ?_)
    ·
      refine lv_iload_n hx hb dX1_scrub_23 rfl (lv_at hl 0 rfl) ?_
      refine lv_if_ne (tgt := 29) hx hb dX1_scrub_24 (by decide) (fun c24_5 => ?_) (fun c24_5 => ?_)
      · exact absurd (by decide) c24_5
      ·
        refine lv_iconst (v := 0) hx hb dX1_scrub_27 (by decide) ?_
        exact W.iret (v := 0) hx hb hr (fun t ht hW => ⟨0, rfl, (if_neg c7_2).symm, ht⟩) (fun _ h => absurd h List.not_mem_nil) dX1_scrub_28
    · exact absurd c18_4 (by decide)

set_option maxHeartbeats 4000000 in
set_option maxRecDepth 100000 in
theorem c_mended (l : Launch) (dC : Nat → ClassId) (dI : Nat → Nat → Nat) (x a f0 f1 f2 fe b0 r0 b1 r1 b2 r2 : Nat) (cR : ClassId) (pv : Int32) : Met l yX1_mended wsX1_mended ({ frames := 0, cells := 0, slots := 0, locals := 0 }) (va_Pc [.ref x] (fun U => va_P (dC, dI) vwCl [(x, .inr (2, [.int pv, .ref a, .ref fe, .int 0, .int 0, .int 0, .int 0, .int 0])), (a, .inl (cR, 3, .inr (.inr (.inr (.inr (gF f0 f1 f2)))))), (f0, .inr (1, [.int 0, .ref b0, .ref r0, .int 0, .int 0])), (f1, .inr (1, [.int 1, .ref b1, .ref r1, .int 0, .int 0])), (f2, .inr (1, [.int 2, .ref b2, .ref r2, .int 0, .int 0]))] U.heap ∧ va_K (dC, dI) vwCl [(cR, (.object "ThreeFiles$StoredFile"))] U)) (vp_Si (fun r => r = 0)) 0 0 (fun _ => False) := by
  refine Met.ofW (cc := cX1_mended) (maxL := 1) (ret := (some .int)) (by decide) rfl ?_
  intro p e s m args below meth c s₁ B hml hv
  obtain ⟨rfl, hP, hK⟩ := hv
  have hx := B.exec
  have hb := B.bytes
  have hr := B.returns
  have hts := atoms_spec (ws := wsX1_mended) B.pre
  have hown : s.vm.findClass RX1 = some m.cls := findClass_of_methodNamed B.named
  have hlocks := B.notSynchronized
  have hP : va_P (dC, dI) vwCl [(x, .inr (2, [.int pv, .ref a, .ref fe, .int 0, .int 0, .int 0, .int 0, .int 0])), (a, .inl (cR, 3, .inr (.inr (.inr (.inr (gF f0 f1 f2)))))), (f0, .inr (1, [.int 0, .ref b0, .ref r0, .int 0, .int 0])), (f1, .inr (1, [.int 1, .ref b1, .ref r1, .int 0, .int 0])), (f2, .inr (1, [.int 2, .ref b2, .ref r2, .int 0, .int 0]))] s.heap := hP
  have hl := lv_entry ([.ref x]) (n := 1) (Nat.le_of_ble_eq_true rfl)
  rw [lg_entry_eq]
  generalize (lg_sl ([.ref x]) ++ List.replicate (1 - (lg_sl ([.ref x])).length) Slot.unset).toArray = ls at hl ⊢
  have hl : lv_has ls 1 [(0, .ref x)] := hl
  refine lv_aload_n hx hb dX1_mended_0 rfl (lv_at hl 0 rfl) ?_
  refine va_get (D := (dC, dI)) (ci := 2) (v := .int 0) (C := RX1) (T := TX1) (N := 8) hx hb hts (by decide +kernel) hown hK hP 0 rfl rfl 7 (by decide) (hts (.fieldLink RX1 105 "ThreeFiles" "mendedCount" "I") (by decide +kernel)) (fun _ h9 => h9) rfl dX1_mended_1 ?_
  exact W.iret (v := 0) hx hb hr (fun t ht hW => ⟨0, rfl, rfl, ht⟩) (fun _ h => absurd h List.not_mem_nil) dX1_mended_4

set_option maxHeartbeats 4000000 in
set_option maxRecDepth 100000 in
theorem c_badAt (l : Launch) (dC : Nat → ClassId) (dI : Nat → Nat → Nat) (x a f0 f1 f2 fe b0 r0 b1 r1 b2 r2 : Nat) (cR : ClassId) (pv : Int32) : Met l yX1_badAt wsX1_badAt ({ frames := 2, cells := 0, slots := 0, locals := 42 }) (va_Pc [.ref x] (fun U => nwP U ∧ va_P (dC, dI) vwCl [(x, .inr (2, [.int pv, .ref a, .ref fe, .int 0, .int 0, .int 0, .int 0, .int 0])), (a, .inl (cR, 3, .inr (.inr (.inr (.inr (gF f0 f1 f2)))))), (f0, .inr (1, [.int 0, .ref b0, .ref r0, .int 0, .int 0])), (f1, .inr (1, [.int 1, .ref b1, .ref r1, .int 0, .int 0])), (f2, .inr (1, [.int 2, .ref b2, .ref r2, .int 0, .int 0]))] U.heap ∧ va_K (dC, dI) vwCl [(cR, (.object "ThreeFiles$StoredFile"))] U)) (vp_Si (fun r => r = 0)) 0 0 (fun _ => False) := by
  refine Met.ofW (cc := cX1_badAt) (maxL := 3) (ret := (some .int)) (by decide) rfl ?_
  intro p e s m args below meth c s₁ B hml hv
  obtain ⟨rfl, hN, hP, hK⟩ := hv
  have hx := B.exec
  have hb := B.bytes
  have hr := B.returns
  have hts := atoms_spec (ws := wsX1_badAt) B.pre
  have hown : s.vm.findClass RX1 = some m.cls := findClass_of_methodNamed B.named
  have hlocks := B.notSynchronized
  have hP : va_P (dC, dI) vwCl [(x, .inr (2, [.int pv, .ref a, .ref fe, .int 0, .int 0, .int 0, .int 0, .int 0])), (a, .inl (cR, 3, .inr (.inr (.inr (.inr (gF f0 f1 f2)))))), (f0, .inr (1, [.int 0, .ref b0, .ref r0, .int 0, .int 0])), (f1, .inr (1, [.int 1, .ref b1, .ref r1, .int 0, .int 0])), (f2, .inr (1, [.int 2, .ref b2, .ref r2, .int 0, .int 0]))] s.heap := hP
  have hl := lv_entry ([.ref x]) (n := 3) (Nat.le_of_ble_eq_true rfl)
  rw [lg_entry_eq]
  generalize (lg_sl ([.ref x]) ++ List.replicate (3 - (lg_sl ([.ref x])).length) Slot.unset).toArray = ls at hl ⊢
  have hl : lv_has ls 3 [(0, .ref x)] := hl
  refine lv_aload_n hx hb dX1_badAt_0 rfl (lv_at hl 0 rfl) ?_
  have hPc := hP.sub (ws' := [(x, .inr (2, [.int pv, .ref a, .ref fe, .int 0, .int 0, .int 0, .int 0, .int 0])), (a, .inl (cR, 3, .inr (.inr (.inr (.inr (gF f0 f1 f2)))))), (f0, .inr (1, [.int 0, .ref b0, .ref r0, .int 0, .int 0])), (f1, .inr (1, [.int 1, .ref b1, .ref r1, .int 0, .int 0])), (f2, .inr (1, [.int 2, .ref b2, .ref r2, .int 0, .int 0]))]) [0, 1, 2, 3, 4] rfl
  have hKc := hK.sub (tys' := [(cR, (.object "ThreeFiles$StoredFile"))]) [0] rfl
  refine vp_callSi ((va_runV (As := []) (rest := []) ⟨hx, hb, hml, hown, hts⟩ (c_stripeCount l dC dI x a f0 f1 f2 fe b0 r0 b1 r1 b2 r2 cR pv) (cwV 0 hts gX1_badAt_X1_stripeCount rfl rfl rfl (by decide +kernel) ⟨Nat.le_of_ble_eq_true rfl, Nat.le_of_ble_eq_true rfl⟩) ⟨fun a U g mk q => by obtain ⟨q0, qN, qP, qK⟩ := q; exact ⟨q0, nwS qN, qP, va_K.moved (u := U) (U := U.calling g mk a) (Vm.Alike.refl U.vm) qK⟩, va_recv hKc hPc (ci := 2) (q0 := 0) rfl rfl, fun U hU hW => ⟨rfl, nwW hW hN, by rw [hU]; exact hPc, va_K.moved hW.alike hKc⟩⟩ rfl rfl hl.1 rfl (lv_room (Nat.le_of_ble_eq_true rfl)) dX1_badAt_1 ⟨Nat.le_of_ble_eq_true rfl, Nat.le_of_ble_eq_true rfl⟩)).run (fun r_1 hq_1 => ?_)
  obtain rfl : r_1 = 0 := hq_1
  refine lv_istore_n (lv' := [(1, .int 0), (0, .ref x)]) hx hb dX1_badAt_4 rfl hl (by decide) rfl (fun ls hl => ?_)
  refine lv_iconst (v := 0) hx hb dX1_badAt_5 (by decide) ?_
  refine lv_istore_n (lv' := [(2, .int 0), (1, .int 0), (0, .ref x)]) hx hb dX1_badAt_6 rfl hl (by decide) rfl (fun ls hl => ?_)
  refine lv_iload_n hx hb dX1_badAt_7 rfl (lv_at hl 0 rfl) ?_
  refine lv_iload_n hx hb dX1_badAt_8 rfl (lv_at hl 1 rfl) ?_
  refine lv_icmp_ge (tgt := 31) hx hb dX1_badAt_9 (by decide) (fun c9_2 => ?_) (fun c9_2 => ?_)
  ·
    refine lv_iconst (v := 0) hx hb dX1_badAt_31 (by decide) ?_
    exact W.iret (v := 0) hx hb hr (fun t ht hW => ⟨0, rfl, rfl, ht⟩) (fun _ h => absurd h List.not_mem_nil) dX1_badAt_32
  · exact absurd (by decide) c9_2

set_option maxHeartbeats 4000000 in
set_option maxRecDepth 100000 in
theorem c_same (l : Launch) (dC : Nat → ClassId) (dI : Nat → Nat → Nat) (x a f0 f1 f2 fe b0 r0 b1 r1 b2 r2 : Nat) (cR : ClassId) (pv : Int32) (p0 : Int32) : Met l yX1_same wsX1_same ({ frames := 1, cells := 0, slots := 0, locals := 20 }) (va_Pc [.ref x, .int p0] (fun U => va_P (dC, dI) vwCl [(x, .inr (2, [.int pv, .ref a, .ref fe, .int 0, .int 0, .int 0, .int 0, .int 0])), (a, .inl (cR, 3, .inr (.inr (.inr (.inr (gF f0 f1 f2)))))), (f0, .inr (1, [.int 0, .ref b0, .ref r0, .int 0, .int 0])), (f1, .inr (1, [.int 1, .ref b1, .ref r1, .int 0, .int 0])), (f2, .inr (1, [.int 2, .ref b2, .ref r2, .int 0, .int 0]))] U.heap ∧ va_K (dC, dI) vwCl [(cR, (.object "ThreeFiles$StoredFile"))] U)) (vp_Si (fun r => r = (if 0 ≤ p0 ∧ p0 < 3 then 1 else 0))) 0 0 (fun _ => False) := by
  refine Met.ofW (cc := cX1_same) (maxL := 2) (ret := (some .boolean)) (by decide) rfl ?_
  intro p e s m args below meth c s₁ B hml hv
  obtain ⟨rfl, hP, hK⟩ := hv
  have hx := B.exec
  have hb := B.bytes
  have hr := B.returns
  have hts := atoms_spec (ws := wsX1_same) B.pre
  have hown : s.vm.findClass RX1 = some m.cls := findClass_of_methodNamed B.named
  have hlocks := B.notSynchronized
  have hP : va_P (dC, dI) vwCl [(x, .inr (2, [.int pv, .ref a, .ref fe, .int 0, .int 0, .int 0, .int 0, .int 0])), (a, .inl (cR, 3, .inr (.inr (.inr (.inr (gF f0 f1 f2)))))), (f0, .inr (1, [.int 0, .ref b0, .ref r0, .int 0, .int 0])), (f1, .inr (1, [.int 1, .ref b1, .ref r1, .int 0, .int 0])), (f2, .inr (1, [.int 2, .ref b2, .ref r2, .int 0, .int 0]))] s.heap := hP
  have hl := lv_entry ([.ref x, .int p0]) (n := 2) (Nat.le_of_ble_eq_true rfl)
  rw [lg_entry_eq]
  generalize (lg_sl ([.ref x, .int p0]) ++ List.replicate (2 - (lg_sl ([.ref x, .int p0])).length) Slot.unset).toArray = ls at hl ⊢
  have hl : lv_has ls 2 [(0, .ref x), (1, .int p0)] := hl
  refine lv_iload_n hx hb dX1_same_0 rfl (lv_at hl 1 rfl) ?_
  have hPc := hP.sub (ws' := []) [] rfl
  have hKc := hK.sub (tys' := []) [] rfl
  refine vp_callSi ((va_runS (As := [.int p0]) (rest := []) ⟨hx, hb, hml, hown, hts⟩ (c_isFile l dC dI p0) (va_cwS 1 hts gX1_same_X1_isFile rfl rfl rfl (by decide +kernel) ⟨Nat.le_of_ble_eq_true rfl, Nat.le_of_ble_eq_true rfl⟩) ⟨fun a U g mk q => by obtain ⟨q0, qP, qK⟩ := q; exact ⟨q0, qP, va_K.moved (u := U) (U := U.calling g mk a) (Vm.Alike.refl U.vm) qK⟩, fun U hU hW => ⟨rfl, by rw [hU]; exact hPc, va_K.moved hW.alike hKc⟩⟩ rfl rfl hl.1 rfl (lv_room (Nat.le_of_ble_eq_true rfl)) dX1_same_1 ⟨Nat.le_of_ble_eq_true rfl, Nat.le_of_ble_eq_true rfl⟩)).run (fun r_1 hq_1 => ?_)
  rcases hq_1 with ⟨rfl, hf_1⟩ | ⟨rfl, hf_1⟩
  ·
    rcases hf_1 with rfl | rfl | rfl
    ·
      refine lv_if_eq (tgt := 30) hx hb dX1_same_4 (by decide) (fun c4_2 => ?_) (fun c4_2 => ?_)
      · exact absurd c4_2 (by decide)
      ·
        refine lv_aload_n hx hb dX1_same_7 rfl (lv_at hl 0 rfl) ?_
        refine va_get (D := (dC, dI)) (ci := 2) (v := .int 0) (C := RX1) (T := TX1) (N := 8) hx hb hts (by decide +kernel) hown hK hP 0 rfl rfl 5 (by decide) (hts (.fieldLink RX1 118 "ThreeFiles" "everClosed" "Z") (by decide +kernel)) (fun _ h9 => h9) rfl dX1_same_8 ?_
        refine lv_if_eq (tgt := 26) hx hb dX1_same_11 (by decide) (fun c11_3 => ?_) (fun c11_3 => ?_)
        ·
          refine lv_iconst (v := 1) hx hb dX1_same_26 (by decide) ?_
          refine lv_goto (tgt := 31) hx hb dX1_same_27 (by decide) ?_
          exact W.zret (ty := .boolean) (v := 1) hx hb hr rfl (fun t ht hW => ⟨1, rfl, (by decide), ht⟩) (fun _ h => absurd h List.not_mem_nil) dX1_same_31
        · exact absurd (by decide) c11_3
    ·
      refine lv_if_eq (tgt := 30) hx hb dX1_same_4 (by decide) (fun c4_4 => ?_) (fun c4_4 => ?_)
      · exact absurd c4_4 (by decide)
      ·
        refine lv_aload_n hx hb dX1_same_7 rfl (lv_at hl 0 rfl) ?_
        refine va_get (D := (dC, dI)) (ci := 2) (v := .int 0) (C := RX1) (T := TX1) (N := 8) hx hb hts (by decide +kernel) hown hK hP 0 rfl rfl 5 (by decide) (hts (.fieldLink RX1 118 "ThreeFiles" "everClosed" "Z") (by decide +kernel)) (fun _ h9 => h9) rfl dX1_same_8 ?_
        refine lv_if_eq (tgt := 26) hx hb dX1_same_11 (by decide) (fun c11_5 => ?_) (fun c11_5 => ?_)
        ·
          refine lv_iconst (v := 1) hx hb dX1_same_26 (by decide) ?_
          refine lv_goto (tgt := 31) hx hb dX1_same_27 (by decide) ?_
          exact W.zret (ty := .boolean) (v := 1) hx hb hr rfl (fun t ht hW => ⟨1, rfl, (by decide), ht⟩) (fun _ h => absurd h List.not_mem_nil) dX1_same_31
        · exact absurd (by decide) c11_5
    ·
      refine lv_if_eq (tgt := 30) hx hb dX1_same_4 (by decide) (fun c4_6 => ?_) (fun c4_6 => ?_)
      · exact absurd c4_6 (by decide)
      ·
        refine lv_aload_n hx hb dX1_same_7 rfl (lv_at hl 0 rfl) ?_
        refine va_get (D := (dC, dI)) (ci := 2) (v := .int 0) (C := RX1) (T := TX1) (N := 8) hx hb hts (by decide +kernel) hown hK hP 0 rfl rfl 5 (by decide) (hts (.fieldLink RX1 118 "ThreeFiles" "everClosed" "Z") (by decide +kernel)) (fun _ h9 => h9) rfl dX1_same_8 ?_
        refine lv_if_eq (tgt := 26) hx hb dX1_same_11 (by decide) (fun c11_7 => ?_) (fun c11_7 => ?_)
        ·
          refine lv_iconst (v := 1) hx hb dX1_same_26 (by decide) ?_
          refine lv_goto (tgt := 31) hx hb dX1_same_27 (by decide) ?_
          exact W.zret (ty := .boolean) (v := 1) hx hb hr rfl (fun t ht hW => ⟨1, rfl, (by decide), ht⟩) (fun _ h => absurd h List.not_mem_nil) dX1_same_31
        · exact absurd (by decide) c11_7
  ·
    refine lv_if_eq (tgt := 30) hx hb dX1_same_4 (by decide) (fun c4_8 => ?_) (fun c4_8 => ?_)
    ·
      refine lv_iconst (v := 0) hx hb dX1_same_30 (by decide) ?_
      exact W.zret (ty := .boolean) (v := 0) hx hb hr rfl (fun t ht hW => ⟨0, rfl, (if_neg (q_nofile hf_1)).symm, ht⟩) (fun _ h => absurd h List.not_mem_nil) dX1_same_31
    · exact absurd (by decide) c4_8

set_option maxHeartbeats 4000000 in
set_option maxRecDepth 100000 in
theorem c_odd (l : Launch) (dC : Nat → ClassId) (dI : Nat → Nat → Nat) (x a f0 f1 f2 fe b0 r0 b1 r1 b2 r2 : Nat) (cR : ClassId) (pv : Int32) (p0 : Int32) : Met l yX1_odd wsX1_odd ({ frames := 2, cells := 0, slots := 0, locals := 42 }) (va_Pc [.ref x, .int p0] (fun U => nwP U ∧ va_P (dC, dI) vwCl [(x, .inr (2, [.int pv, .ref a, .ref fe, .int 0, .int 0, .int 0, .int 0, .int 0])), (a, .inl (cR, 3, .inr (.inr (.inr (.inr (gF f0 f1 f2)))))), (f0, .inr (1, [.int 0, .ref b0, .ref r0, .int 0, .int 0])), (f1, .inr (1, [.int 1, .ref b1, .ref r1, .int 0, .int 0])), (f2, .inr (1, [.int 2, .ref b2, .ref r2, .int 0, .int 0]))] U.heap ∧ va_K (dC, dI) vwCl [(cR, (.object "ThreeFiles$StoredFile"))] U)) (vp_Si (fun r => r = (-1))) 0 0 (fun _ => False) := by
  refine Met.ofW (cc := cX1_odd) (maxL := 2) (ret := (some .int)) (by decide) rfl ?_
  intro p e s m args below meth c s₁ B hml hv
  obtain ⟨rfl, hN, hP, hK⟩ := hv
  have hx := B.exec
  have hb := B.bytes
  have hr := B.returns
  have hts := atoms_spec (ws := wsX1_odd) B.pre
  have hown : s.vm.findClass RX1 = some m.cls := findClass_of_methodNamed B.named
  have hlocks := B.notSynchronized
  have hP : va_P (dC, dI) vwCl [(x, .inr (2, [.int pv, .ref a, .ref fe, .int 0, .int 0, .int 0, .int 0, .int 0])), (a, .inl (cR, 3, .inr (.inr (.inr (.inr (gF f0 f1 f2)))))), (f0, .inr (1, [.int 0, .ref b0, .ref r0, .int 0, .int 0])), (f1, .inr (1, [.int 1, .ref b1, .ref r1, .int 0, .int 0])), (f2, .inr (1, [.int 2, .ref b2, .ref r2, .int 0, .int 0]))] s.heap := hP
  have hl := lv_entry ([.ref x, .int p0]) (n := 2) (Nat.le_of_ble_eq_true rfl)
  rw [lg_entry_eq]
  generalize (lg_sl ([.ref x, .int p0]) ++ List.replicate (2 - (lg_sl ([.ref x, .int p0])).length) Slot.unset).toArray = ls at hl ⊢
  have hl : lv_has ls 2 [(0, .ref x), (1, .int p0)] := hl
  refine lv_iload_n hx hb dX1_odd_0 rfl (lv_at hl 1 rfl) ?_
  refine lv_if_lt (tgt := 19) hx hb dX1_odd_1 (by decide) (fun c1_1 => ?_) (fun c1_1 => ?_)
  ·
    refine lv_iconst (v := (-1)) hx hb dX1_odd_19 (by decide) ?_
    exact W.iret (v := (-1)) hx hb hr (fun t ht hW => ⟨(-1), rfl, rfl, ht⟩) (fun _ h => absurd h List.not_mem_nil) dX1_odd_20
  ·
    refine lv_iload_n hx hb dX1_odd_4 rfl (lv_at hl 1 rfl) ?_
    refine lv_aload_n hx hb dX1_odd_5 rfl (lv_at hl 0 rfl) ?_
    have hPc := hP.sub (ws' := [(x, .inr (2, [.int pv, .ref a, .ref fe, .int 0, .int 0, .int 0, .int 0, .int 0])), (a, .inl (cR, 3, .inr (.inr (.inr (.inr (gF f0 f1 f2)))))), (f0, .inr (1, [.int 0, .ref b0, .ref r0, .int 0, .int 0])), (f1, .inr (1, [.int 1, .ref b1, .ref r1, .int 0, .int 0])), (f2, .inr (1, [.int 2, .ref b2, .ref r2, .int 0, .int 0]))]) [0, 1, 2, 3, 4] rfl
    have hKc := hK.sub (tys' := [(cR, (.object "ThreeFiles$StoredFile"))]) [0] rfl
    refine vp_callSi ((va_runV (As := []) (rest := [.int p0]) ⟨hx, hb, hml, hown, hts⟩ (c_stripeCount l dC dI x a f0 f1 f2 fe b0 r0 b1 r1 b2 r2 cR pv) (cwV 0 hts gX1_odd_X1_stripeCount rfl rfl rfl (by decide +kernel) ⟨Nat.le_of_ble_eq_true rfl, Nat.le_of_ble_eq_true rfl⟩) ⟨fun a U g mk q => by obtain ⟨q0, qN, qP, qK⟩ := q; exact ⟨q0, nwS qN, qP, va_K.moved (u := U) (U := U.calling g mk a) (Vm.Alike.refl U.vm) qK⟩, va_recv hKc hPc (ci := 2) (q0 := 0) rfl rfl, fun U hU hW => ⟨rfl, nwW hW hN, by rw [hU]; exact hPc, va_K.moved hW.alike hKc⟩⟩ rfl rfl hl.1 rfl (lv_room (Nat.le_of_ble_eq_true rfl)) dX1_odd_6 ⟨Nat.le_of_ble_eq_true rfl, Nat.le_of_ble_eq_true rfl⟩)).run (fun r_2 hq_2 => ?_)
    obtain rfl : r_2 = 0 := hq_2
    refine lv_icmp_ge (tgt := 19) hx hb dX1_odd_9 (by decide) (fun c9_3 => ?_) (fun c9_3 => ?_)
    ·
      refine lv_iconst (v := (-1)) hx hb dX1_odd_19 (by decide) ?_
      exact W.iret (v := (-1)) hx hb hr (fun t ht hW => ⟨(-1), rfl, rfl, ht⟩) (fun _ h => absurd h List.not_mem_nil) dX1_odd_20
    · exact absurd (q_ge c1_1) c9_3

set_option maxHeartbeats 4000000 in
set_option maxRecDepth 100000 in
theorem c_size (l : Launch) (dC : Nat → ClassId) (dI : Nat → Nat → Nat) (x a f0 f1 f2 fe b0 r0 b1 r1 b2 r2 : Nat) (cR : ClassId) (pv : Int32) (p0 : Int32) : Met l yX1_size wsX1_size ({ frames := 1, cells := 0, slots := 0, locals := 20 }) (va_Pc [.ref x, .int p0] (fun U => nwP U ∧ va_P (dC, dI) vwCl [(x, .inr (2, [.int pv, .ref a, .ref fe, .int 0, .int 0, .int 0, .int 0, .int 0])), (a, .inl (cR, 3, .inr (.inr (.inr (.inr (gF f0 f1 f2)))))), (f0, .inr (1, [.int 0, .ref b0, .ref r0, .int 0, .int 0])), (f1, .inr (1, [.int 1, .ref b1, .ref r1, .int 0, .int 0])), (f2, .inr (1, [.int 2, .ref b2, .ref r2, .int 0, .int 0]))] U.heap ∧ va_K (dC, dI) vwCl [(cR, (.object "ThreeFiles$StoredFile"))] U)) (vp_Si (fun r => r = (if 0 ≤ p0 ∧ p0 < 3 then 0 else (-1)))) 0 0 (fun _ => False) := by
  refine Met.ofW (cc := cX1_size) (maxL := 2) (ret := (some .int)) (by decide) rfl ?_
  intro p e s m args below meth c s₁ B hml hv
  obtain ⟨rfl, hN, hP, hK⟩ := hv
  have hx := B.exec
  have hb := B.bytes
  have hr := B.returns
  have hts := atoms_spec (ws := wsX1_size) B.pre
  have hown : s.vm.findClass RX1 = some m.cls := findClass_of_methodNamed B.named
  have hlocks := B.notSynchronized
  have hP : va_P (dC, dI) vwCl [(x, .inr (2, [.int pv, .ref a, .ref fe, .int 0, .int 0, .int 0, .int 0, .int 0])), (a, .inl (cR, 3, .inr (.inr (.inr (.inr (gF f0 f1 f2)))))), (f0, .inr (1, [.int 0, .ref b0, .ref r0, .int 0, .int 0])), (f1, .inr (1, [.int 1, .ref b1, .ref r1, .int 0, .int 0])), (f2, .inr (1, [.int 2, .ref b2, .ref r2, .int 0, .int 0]))] s.heap := hP
  have hl := lv_entry ([.ref x, .int p0]) (n := 2) (Nat.le_of_ble_eq_true rfl)
  rw [lg_entry_eq]
  generalize (lg_sl ([.ref x, .int p0]) ++ List.replicate (2 - (lg_sl ([.ref x, .int p0])).length) Slot.unset).toArray = ls at hl ⊢
  have hl : lv_has ls 2 [(0, .ref x), (1, .int p0)] := hl
  refine lv_iload_n hx hb dX1_size_0 rfl (lv_at hl 1 rfl) ?_
  have hPc := hP.sub (ws' := []) [] rfl
  have hKc := hK.sub (tys' := []) [] rfl
  refine vp_callSi ((va_runS (As := [.int p0]) (rest := []) ⟨hx, hb, hml, hown, hts⟩ (c_isFile l dC dI p0) (va_cwS 1 hts gX1_size_X1_isFile rfl rfl rfl (by decide +kernel) ⟨Nat.le_of_ble_eq_true rfl, Nat.le_of_ble_eq_true rfl⟩) ⟨fun a U g mk q => by obtain ⟨q0, qP, qK⟩ := q; exact ⟨q0, qP, va_K.moved (u := U) (U := U.calling g mk a) (Vm.Alike.refl U.vm) qK⟩, fun U hU hW => ⟨rfl, by rw [hU]; exact hPc, va_K.moved hW.alike hKc⟩⟩ rfl rfl hl.1 rfl (lv_room (Nat.le_of_ble_eq_true rfl)) dX1_size_1 ⟨Nat.le_of_ble_eq_true rfl, Nat.le_of_ble_eq_true rfl⟩)).run (fun r_1 hq_1 => ?_)
  rcases hq_1 with ⟨rfl, hf_1⟩ | ⟨rfl, hf_1⟩
  ·
    rcases hf_1 with rfl | rfl | rfl
    ·
      refine lv_if_eq (tgt := 19) hx hb dX1_size_4 (by decide) (fun c4_2 => ?_) (fun c4_2 => ?_)
      · exact absurd c4_2 (by decide)
      ·
        refine lv_aload_n hx hb dX1_size_7 rfl (lv_at hl 0 rfl) ?_
        refine va_get (D := (dC, dI)) (ci := 2) (v := .ref a) (C := RX1) (T := TX1) (N := 8) hx hb hts (by decide +kernel) hown hK hP 0 rfl rfl 1 (by decide) (hts (.fieldLink RX1 15 "ThreeFiles" "files" "[LThreeFiles$StoredFile;") (by decide +kernel)) (fun _ h9 => h9) rfl dX1_size_8 ?_
        refine lv_iload_n hx hb dX1_size_11 rfl (lv_at hl 1 rfl) ?_
        refine va_aldq hx hb hK hP 1 0 rfl rfl (i := 0) (by unfold vp_in; decide) dX1_size_12 ?_
        refine W.eq (g2 := F0 m 13 ls [.ref f0]) (by rfl) ?_
        have hPc := hP.sub (ws' := [(f0, .inr (1, [.int 0, .ref b0, .ref r0, .int 0, .int 0]))]) [2] rfl
        have hKc := hK.sub (tys' := []) [] rfl
        refine vp_callSi ((va_runVN (As := []) (rest := []) ⟨hx, hb, hml, hown, hts⟩ (c_length l dC dI f0 0 b0 r0) ⟨va_cnB 0 hts gX1_size_X0_length_n66 rfl rfl rfl hN.n66 (hts (.initialized RX0) (by decide +kernel)) (by decide +kernel) ⟨Nat.le_of_ble_eq_true rfl, Nat.le_of_ble_eq_true rfl⟩, hts (.instanceMethod yX0_length) (by decide +kernel), hts (.selects RX0 yX0_length yX0_length) (by decide +kernel)⟩ ⟨fun a U g mk q => by obtain ⟨q0, qP, qK⟩ := q; exact ⟨q0, qP, va_K.moved (u := U) (U := U.calling g mk a) (Vm.Alike.refl U.vm) qK⟩, va_recv hKc hPc (ci := 1) (q0 := 0) rfl rfl, fun U hU hW => ⟨rfl, by rw [hU]; exact hPc, va_K.moved hW.alike hKc⟩⟩ rfl rfl hl.1 rfl (lv_room (Nat.le_of_ble_eq_true rfl)) dX1_size_13 ⟨Nat.le_of_ble_eq_true rfl, Nat.le_of_ble_eq_true rfl⟩)).run (fun r_3 hq_3 => ?_)
        obtain rfl : r_3 = 0 := hq_3
        refine lv_goto (tgt := 20) hx hb dX1_size_16 (by decide) ?_
        exact W.iret (v := 0) hx hb hr (fun t ht hW => ⟨0, rfl, (by decide), ht⟩) (fun _ h => absurd h List.not_mem_nil) dX1_size_20
    ·
      refine lv_if_eq (tgt := 19) hx hb dX1_size_4 (by decide) (fun c4_4 => ?_) (fun c4_4 => ?_)
      · exact absurd c4_4 (by decide)
      ·
        refine lv_aload_n hx hb dX1_size_7 rfl (lv_at hl 0 rfl) ?_
        refine va_get (D := (dC, dI)) (ci := 2) (v := .ref a) (C := RX1) (T := TX1) (N := 8) hx hb hts (by decide +kernel) hown hK hP 0 rfl rfl 1 (by decide) (hts (.fieldLink RX1 15 "ThreeFiles" "files" "[LThreeFiles$StoredFile;") (by decide +kernel)) (fun _ h9 => h9) rfl dX1_size_8 ?_
        refine lv_iload_n hx hb dX1_size_11 rfl (lv_at hl 1 rfl) ?_
        refine va_aldq hx hb hK hP 1 0 rfl rfl (i := 1) (by unfold vp_in; decide) dX1_size_12 ?_
        refine W.eq (g2 := F0 m 13 ls [.ref f1]) (by rfl) ?_
        have hPc := hP.sub (ws' := [(f1, .inr (1, [.int 1, .ref b1, .ref r1, .int 0, .int 0]))]) [3] rfl
        have hKc := hK.sub (tys' := []) [] rfl
        refine vp_callSi ((va_runVN (As := []) (rest := []) ⟨hx, hb, hml, hown, hts⟩ (c_length l dC dI f1 1 b1 r1) ⟨va_cnB 0 hts gX1_size_X0_length_n66 rfl rfl rfl hN.n66 (hts (.initialized RX0) (by decide +kernel)) (by decide +kernel) ⟨Nat.le_of_ble_eq_true rfl, Nat.le_of_ble_eq_true rfl⟩, hts (.instanceMethod yX0_length) (by decide +kernel), hts (.selects RX0 yX0_length yX0_length) (by decide +kernel)⟩ ⟨fun a U g mk q => by obtain ⟨q0, qP, qK⟩ := q; exact ⟨q0, qP, va_K.moved (u := U) (U := U.calling g mk a) (Vm.Alike.refl U.vm) qK⟩, va_recv hKc hPc (ci := 1) (q0 := 0) rfl rfl, fun U hU hW => ⟨rfl, by rw [hU]; exact hPc, va_K.moved hW.alike hKc⟩⟩ rfl rfl hl.1 rfl (lv_room (Nat.le_of_ble_eq_true rfl)) dX1_size_13 ⟨Nat.le_of_ble_eq_true rfl, Nat.le_of_ble_eq_true rfl⟩)).run (fun r_5 hq_5 => ?_)
        obtain rfl : r_5 = 0 := hq_5
        refine lv_goto (tgt := 20) hx hb dX1_size_16 (by decide) ?_
        exact W.iret (v := 0) hx hb hr (fun t ht hW => ⟨0, rfl, (by decide), ht⟩) (fun _ h => absurd h List.not_mem_nil) dX1_size_20
    ·
      refine lv_if_eq (tgt := 19) hx hb dX1_size_4 (by decide) (fun c4_6 => ?_) (fun c4_6 => ?_)
      · exact absurd c4_6 (by decide)
      ·
        refine lv_aload_n hx hb dX1_size_7 rfl (lv_at hl 0 rfl) ?_
        refine va_get (D := (dC, dI)) (ci := 2) (v := .ref a) (C := RX1) (T := TX1) (N := 8) hx hb hts (by decide +kernel) hown hK hP 0 rfl rfl 1 (by decide) (hts (.fieldLink RX1 15 "ThreeFiles" "files" "[LThreeFiles$StoredFile;") (by decide +kernel)) (fun _ h9 => h9) rfl dX1_size_8 ?_
        refine lv_iload_n hx hb dX1_size_11 rfl (lv_at hl 1 rfl) ?_
        refine va_aldq hx hb hK hP 1 0 rfl rfl (i := 2) (by unfold vp_in; decide) dX1_size_12 ?_
        refine W.eq (g2 := F0 m 13 ls [.ref f2]) (by rfl) ?_
        have hPc := hP.sub (ws' := [(f2, .inr (1, [.int 2, .ref b2, .ref r2, .int 0, .int 0]))]) [4] rfl
        have hKc := hK.sub (tys' := []) [] rfl
        refine vp_callSi ((va_runVN (As := []) (rest := []) ⟨hx, hb, hml, hown, hts⟩ (c_length l dC dI f2 2 b2 r2) ⟨va_cnB 0 hts gX1_size_X0_length_n66 rfl rfl rfl hN.n66 (hts (.initialized RX0) (by decide +kernel)) (by decide +kernel) ⟨Nat.le_of_ble_eq_true rfl, Nat.le_of_ble_eq_true rfl⟩, hts (.instanceMethod yX0_length) (by decide +kernel), hts (.selects RX0 yX0_length yX0_length) (by decide +kernel)⟩ ⟨fun a U g mk q => by obtain ⟨q0, qP, qK⟩ := q; exact ⟨q0, qP, va_K.moved (u := U) (U := U.calling g mk a) (Vm.Alike.refl U.vm) qK⟩, va_recv hKc hPc (ci := 1) (q0 := 0) rfl rfl, fun U hU hW => ⟨rfl, by rw [hU]; exact hPc, va_K.moved hW.alike hKc⟩⟩ rfl rfl hl.1 rfl (lv_room (Nat.le_of_ble_eq_true rfl)) dX1_size_13 ⟨Nat.le_of_ble_eq_true rfl, Nat.le_of_ble_eq_true rfl⟩)).run (fun r_7 hq_7 => ?_)
        obtain rfl : r_7 = 0 := hq_7
        refine lv_goto (tgt := 20) hx hb dX1_size_16 (by decide) ?_
        exact W.iret (v := 0) hx hb hr (fun t ht hW => ⟨0, rfl, (by decide), ht⟩) (fun _ h => absurd h List.not_mem_nil) dX1_size_20
  ·
    refine lv_if_eq (tgt := 19) hx hb dX1_size_4 (by decide) (fun c4_8 => ?_) (fun c4_8 => ?_)
    ·
      refine lv_iconst (v := (-1)) hx hb dX1_size_19 (by decide) ?_
      exact W.iret (v := (-1)) hx hb hr (fun t ht hW => ⟨(-1), rfl, (if_neg (q_nofile hf_1)).symm, ht⟩) (fun _ h => absurd h List.not_mem_nil) dX1_size_20
    · exact absurd (by decide) c4_8

set_option maxHeartbeats 4000000 in
set_option maxRecDepth 100000 in
theorem c_byteAt (l : Launch) (dC : Nat → ClassId) (dI : Nat → Nat → Nat) (x a f0 f1 f2 fe b0 r0 b1 r1 b2 r2 : Nat) (cR : ClassId) (pv : Int32) (p0 : Int32) (p1 : Int32) (p2 : Int32) (hk0 : p0 = 0 ∨ p0 = 1 ∨ p0 = 2) (hk1 : ¬ p1 < 0) (hk2 : p1 < pv) (hk3 : ¬ p2 < 0) (hk4 : p2 < 24) : Met l yX1_byteAt wsX1_byteAt ({ frames := 1, cells := 0, slots := 0, locals := 21 }) (va_Pc [.ref x, .int p0, .int p1, .int p2] (fun U => nwP U ∧ va_P (dC, dI) vwCl [(x, .inr (2, [.int pv, .ref a, .ref fe, .int 0, .int 0, .int 0, .int 0, .int 0])), (a, .inl (cR, 3, .inr (.inr (.inr (.inr (gF f0 f1 f2)))))), (f0, .inr (1, [.int 0, .ref b0, .ref r0, .int 0, .int 0])), (f1, .inr (1, [.int 1, .ref b1, .ref r1, .int 0, .int 0])), (f2, .inr (1, [.int 2, .ref b2, .ref r2, .int 0, .int 0]))] U.heap ∧ va_K (dC, dI) vwCl [(cR, (.object "ThreeFiles$StoredFile"))] U)) (vp_Si (fun r => r = 0)) 0 0 (fun _ => False) := by
  refine Met.ofW (cc := cX1_byteAt) (maxL := 4) (ret := (some .int)) (by decide) rfl ?_
  intro p e s m args below meth c s₁ B hml hv
  obtain ⟨rfl, hN, hP, hK⟩ := hv
  have hx := B.exec
  have hb := B.bytes
  have hr := B.returns
  have hts := atoms_spec (ws := wsX1_byteAt) B.pre
  have hown : s.vm.findClass RX1 = some m.cls := findClass_of_methodNamed B.named
  have hlocks := B.notSynchronized
  have hP : va_P (dC, dI) vwCl [(x, .inr (2, [.int pv, .ref a, .ref fe, .int 0, .int 0, .int 0, .int 0, .int 0])), (a, .inl (cR, 3, .inr (.inr (.inr (.inr (gF f0 f1 f2)))))), (f0, .inr (1, [.int 0, .ref b0, .ref r0, .int 0, .int 0])), (f1, .inr (1, [.int 1, .ref b1, .ref r1, .int 0, .int 0])), (f2, .inr (1, [.int 2, .ref b2, .ref r2, .int 0, .int 0]))] s.heap := hP
  have hl := lv_entry ([.ref x, .int p0, .int p1, .int p2]) (n := 4) (Nat.le_of_ble_eq_true rfl)
  rw [lg_entry_eq]
  generalize (lg_sl ([.ref x, .int p0, .int p1, .int p2]) ++ List.replicate (4 - (lg_sl ([.ref x, .int p0, .int p1, .int p2])).length) Slot.unset).toArray = ls at hl ⊢
  have hl : lv_has ls 4 [(0, .ref x), (1, .int p0), (2, .int p1), (3, .int p2)] := hl
  refine lv_iload_n hx hb dX1_byteAt_0 rfl (lv_at hl 1 rfl) ?_
  have hPc := hP.sub (ws' := []) [] rfl
  have hKc := hK.sub (tys' := []) [] rfl
  refine vp_callSi ((va_runS (As := [.int p0]) (rest := []) ⟨hx, hb, hml, hown, hts⟩ (c_isFile l dC dI p0) (va_cwS 1 hts gX1_byteAt_X1_isFile rfl rfl rfl (by decide +kernel) ⟨Nat.le_of_ble_eq_true rfl, Nat.le_of_ble_eq_true rfl⟩) ⟨fun a U g mk q => by obtain ⟨q0, qP, qK⟩ := q; exact ⟨q0, qP, va_K.moved (u := U) (U := U.calling g mk a) (Vm.Alike.refl U.vm) qK⟩, fun U hU hW => ⟨rfl, by rw [hU]; exact hPc, va_K.moved hW.alike hKc⟩⟩ rfl rfl hl.1 rfl (lv_room (Nat.le_of_ble_eq_true rfl)) dX1_byteAt_1 ⟨Nat.le_of_ble_eq_true rfl, Nat.le_of_ble_eq_true rfl⟩)).run (fun r_1 hq_1 => ?_)
  rcases hq_1 with ⟨rfl, hf_1⟩ | ⟨rfl, hf_1⟩
  ·
    rcases hf_1 with rfl | rfl | rfl
    ·
      refine lv_if_eq (tgt := 29) hx hb dX1_byteAt_4 (by decide) (fun c4_2 => ?_) (fun c4_2 => ?_)
      · exact absurd c4_2 (by decide)
      ·
        refine lv_iload_n hx hb dX1_byteAt_7 rfl (lv_at hl 2 rfl) ?_
        refine lv_if_lt (tgt := 29) hx hb dX1_byteAt_8 (by decide) (fun c8_3 => ?_) (fun c8_3 => ?_)
        · exact absurd c8_3 hk1
        ·
          refine lv_iload_n hx hb dX1_byteAt_11 rfl (lv_at hl 2 rfl) ?_
          refine lv_aload_n hx hb dX1_byteAt_12 rfl (lv_at hl 0 rfl) ?_
          refine va_get (D := (dC, dI)) (ci := 2) (v := .int pv) (C := RX1) (T := TX1) (N := 8) hx hb hts (by decide +kernel) hown hK hP 0 rfl rfl 0 (by decide) (hts (.fieldLink RX1 9 "ThreeFiles" "pieces" "I") (by decide +kernel)) (fun _ h9 => h9) rfl dX1_byteAt_13 ?_
          refine lv_icmp_ge (tgt := 29) hx hb dX1_byteAt_16 (by decide) (fun c16_4 => ?_) (fun c16_4 => ?_)
          · exact absurd hk2 (q_nlt c16_4)
          ·
            refine lv_iload_n hx hb dX1_byteAt_19 rfl (lv_at hl 3 rfl) ?_
            refine lv_if_lt (tgt := 29) hx hb dX1_byteAt_20 (by decide) (fun c20_5 => ?_) (fun c20_5 => ?_)
            · exact absurd c20_5 hk3
            ·
              refine lv_iload_n hx hb dX1_byteAt_23 rfl (lv_at hl 3 rfl) ?_
              refine lv_bipush (v := 24) hx hb dX1_byteAt_24 (by decide) ?_
              refine lv_icmp_lt (tgt := 39) hx hb dX1_byteAt_26 (by decide) (fun c26_6 => ?_) (fun c26_6 => ?_)
              ·
                refine lv_aload_n hx hb dX1_byteAt_39 rfl (lv_at hl 0 rfl) ?_
                refine va_get (D := (dC, dI)) (ci := 2) (v := .ref a) (C := RX1) (T := TX1) (N := 8) hx hb hts (by decide +kernel) hown hK hP 0 rfl rfl 1 (by decide) (hts (.fieldLink RX1 15 "ThreeFiles" "files" "[LThreeFiles$StoredFile;") (by decide +kernel)) (fun _ h9 => h9) rfl dX1_byteAt_40 ?_
                refine lv_iload_n hx hb dX1_byteAt_43 rfl (lv_at hl 1 rfl) ?_
                refine va_aldq hx hb hK hP 1 0 rfl rfl (i := 0) (by unfold vp_in; decide) dX1_byteAt_44 ?_
                refine W.eq (g2 := F0 m 45 ls [.ref f0]) (by rfl) ?_
                refine lv_iload_n hx hb dX1_byteAt_45 rfl (lv_at hl 2 rfl) ?_
                refine lv_bipush (v := 24) hx hb dX1_byteAt_46 (by decide) ?_
                refine lv_imul hx hb dX1_byteAt_48 ?_
                refine lv_topi (fun v48_7 ev48_7 => ?_)
                refine lv_iload_n hx hb dX1_byteAt_49 rfl (lv_at hl 3 rfl) ?_
                refine lv_iadd hx hb dX1_byteAt_50 ?_
                refine lv_topi (fun v50_8 ev50_8 => ?_)
                have hPc := hP.sub (ws' := [(f0, .inr (1, [.int 0, .ref b0, .ref r0, .int 0, .int 0]))]) [2] rfl
                have hKc := hK.sub (tys' := []) [] rfl
                refine vp_callSi ((va_runVN (As := [.int v50_8]) (rest := []) ⟨hx, hb, hml, hown, hts⟩ (c_get l dC dI f0 0 b0 r0 v50_8) ⟨va_cnB 1 hts gX1_byteAt_X0_get_n82 rfl rfl rfl hN.n82 (hts (.initialized RX0) (by decide +kernel)) (by decide +kernel) ⟨Nat.le_of_ble_eq_true rfl, Nat.le_of_ble_eq_true rfl⟩, hts (.instanceMethod yX0_get) (by decide +kernel), hts (.selects RX0 yX0_get yX0_get) (by decide +kernel)⟩ ⟨fun a U g mk q => by obtain ⟨q0, qP, qK⟩ := q; exact ⟨q0, qP, va_K.moved (u := U) (U := U.calling g mk a) (Vm.Alike.refl U.vm) qK⟩, va_recv hKc hPc (ci := 1) (q0 := 0) rfl rfl, fun U hU hW => ⟨rfl, by rw [hU]; exact hPc, va_K.moved hW.alike hKc⟩⟩ rfl rfl hl.1 rfl (lv_room (Nat.le_of_ble_eq_true rfl)) dX1_byteAt_51 ⟨Nat.le_of_ble_eq_true rfl, Nat.le_of_ble_eq_true rfl⟩)).run (fun r_9 hq_9 => ?_)
                obtain rfl : r_9 = 0 := hq_9
                exact W.iret (v := 0) hx hb hr (fun t ht hW => ⟨0, rfl, rfl, ht⟩) (fun _ h => absurd h List.not_mem_nil) dX1_byteAt_54
              · exact absurd hk4 c26_6
    ·
      refine lv_if_eq (tgt := 29) hx hb dX1_byteAt_4 (by decide) (fun c4_10 => ?_) (fun c4_10 => ?_)
      · exact absurd c4_10 (by decide)
      ·
        refine lv_iload_n hx hb dX1_byteAt_7 rfl (lv_at hl 2 rfl) ?_
        refine lv_if_lt (tgt := 29) hx hb dX1_byteAt_8 (by decide) (fun c8_11 => ?_) (fun c8_11 => ?_)
        · exact absurd c8_11 hk1
        ·
          refine lv_iload_n hx hb dX1_byteAt_11 rfl (lv_at hl 2 rfl) ?_
          refine lv_aload_n hx hb dX1_byteAt_12 rfl (lv_at hl 0 rfl) ?_
          refine va_get (D := (dC, dI)) (ci := 2) (v := .int pv) (C := RX1) (T := TX1) (N := 8) hx hb hts (by decide +kernel) hown hK hP 0 rfl rfl 0 (by decide) (hts (.fieldLink RX1 9 "ThreeFiles" "pieces" "I") (by decide +kernel)) (fun _ h9 => h9) rfl dX1_byteAt_13 ?_
          refine lv_icmp_ge (tgt := 29) hx hb dX1_byteAt_16 (by decide) (fun c16_12 => ?_) (fun c16_12 => ?_)
          · exact absurd hk2 (q_nlt c16_12)
          ·
            refine lv_iload_n hx hb dX1_byteAt_19 rfl (lv_at hl 3 rfl) ?_
            refine lv_if_lt (tgt := 29) hx hb dX1_byteAt_20 (by decide) (fun c20_13 => ?_) (fun c20_13 => ?_)
            · exact absurd c20_13 hk3
            ·
              refine lv_iload_n hx hb dX1_byteAt_23 rfl (lv_at hl 3 rfl) ?_
              refine lv_bipush (v := 24) hx hb dX1_byteAt_24 (by decide) ?_
              refine lv_icmp_lt (tgt := 39) hx hb dX1_byteAt_26 (by decide) (fun c26_14 => ?_) (fun c26_14 => ?_)
              ·
                refine lv_aload_n hx hb dX1_byteAt_39 rfl (lv_at hl 0 rfl) ?_
                refine va_get (D := (dC, dI)) (ci := 2) (v := .ref a) (C := RX1) (T := TX1) (N := 8) hx hb hts (by decide +kernel) hown hK hP 0 rfl rfl 1 (by decide) (hts (.fieldLink RX1 15 "ThreeFiles" "files" "[LThreeFiles$StoredFile;") (by decide +kernel)) (fun _ h9 => h9) rfl dX1_byteAt_40 ?_
                refine lv_iload_n hx hb dX1_byteAt_43 rfl (lv_at hl 1 rfl) ?_
                refine va_aldq hx hb hK hP 1 0 rfl rfl (i := 1) (by unfold vp_in; decide) dX1_byteAt_44 ?_
                refine W.eq (g2 := F0 m 45 ls [.ref f1]) (by rfl) ?_
                refine lv_iload_n hx hb dX1_byteAt_45 rfl (lv_at hl 2 rfl) ?_
                refine lv_bipush (v := 24) hx hb dX1_byteAt_46 (by decide) ?_
                refine lv_imul hx hb dX1_byteAt_48 ?_
                refine lv_topi (fun v48_15 ev48_15 => ?_)
                refine lv_iload_n hx hb dX1_byteAt_49 rfl (lv_at hl 3 rfl) ?_
                refine lv_iadd hx hb dX1_byteAt_50 ?_
                refine lv_topi (fun v50_16 ev50_16 => ?_)
                have hPc := hP.sub (ws' := [(f1, .inr (1, [.int 1, .ref b1, .ref r1, .int 0, .int 0]))]) [3] rfl
                have hKc := hK.sub (tys' := []) [] rfl
                refine vp_callSi ((va_runVN (As := [.int v50_16]) (rest := []) ⟨hx, hb, hml, hown, hts⟩ (c_get l dC dI f1 1 b1 r1 v50_16) ⟨va_cnB 1 hts gX1_byteAt_X0_get_n82 rfl rfl rfl hN.n82 (hts (.initialized RX0) (by decide +kernel)) (by decide +kernel) ⟨Nat.le_of_ble_eq_true rfl, Nat.le_of_ble_eq_true rfl⟩, hts (.instanceMethod yX0_get) (by decide +kernel), hts (.selects RX0 yX0_get yX0_get) (by decide +kernel)⟩ ⟨fun a U g mk q => by obtain ⟨q0, qP, qK⟩ := q; exact ⟨q0, qP, va_K.moved (u := U) (U := U.calling g mk a) (Vm.Alike.refl U.vm) qK⟩, va_recv hKc hPc (ci := 1) (q0 := 0) rfl rfl, fun U hU hW => ⟨rfl, by rw [hU]; exact hPc, va_K.moved hW.alike hKc⟩⟩ rfl rfl hl.1 rfl (lv_room (Nat.le_of_ble_eq_true rfl)) dX1_byteAt_51 ⟨Nat.le_of_ble_eq_true rfl, Nat.le_of_ble_eq_true rfl⟩)).run (fun r_17 hq_17 => ?_)
                obtain rfl : r_17 = 0 := hq_17
                exact W.iret (v := 0) hx hb hr (fun t ht hW => ⟨0, rfl, rfl, ht⟩) (fun _ h => absurd h List.not_mem_nil) dX1_byteAt_54
              · exact absurd hk4 c26_14
    ·
      refine lv_if_eq (tgt := 29) hx hb dX1_byteAt_4 (by decide) (fun c4_18 => ?_) (fun c4_18 => ?_)
      · exact absurd c4_18 (by decide)
      ·
        refine lv_iload_n hx hb dX1_byteAt_7 rfl (lv_at hl 2 rfl) ?_
        refine lv_if_lt (tgt := 29) hx hb dX1_byteAt_8 (by decide) (fun c8_19 => ?_) (fun c8_19 => ?_)
        · exact absurd c8_19 hk1
        ·
          refine lv_iload_n hx hb dX1_byteAt_11 rfl (lv_at hl 2 rfl) ?_
          refine lv_aload_n hx hb dX1_byteAt_12 rfl (lv_at hl 0 rfl) ?_
          refine va_get (D := (dC, dI)) (ci := 2) (v := .int pv) (C := RX1) (T := TX1) (N := 8) hx hb hts (by decide +kernel) hown hK hP 0 rfl rfl 0 (by decide) (hts (.fieldLink RX1 9 "ThreeFiles" "pieces" "I") (by decide +kernel)) (fun _ h9 => h9) rfl dX1_byteAt_13 ?_
          refine lv_icmp_ge (tgt := 29) hx hb dX1_byteAt_16 (by decide) (fun c16_20 => ?_) (fun c16_20 => ?_)
          · exact absurd hk2 (q_nlt c16_20)
          ·
            refine lv_iload_n hx hb dX1_byteAt_19 rfl (lv_at hl 3 rfl) ?_
            refine lv_if_lt (tgt := 29) hx hb dX1_byteAt_20 (by decide) (fun c20_21 => ?_) (fun c20_21 => ?_)
            · exact absurd c20_21 hk3
            ·
              refine lv_iload_n hx hb dX1_byteAt_23 rfl (lv_at hl 3 rfl) ?_
              refine lv_bipush (v := 24) hx hb dX1_byteAt_24 (by decide) ?_
              refine lv_icmp_lt (tgt := 39) hx hb dX1_byteAt_26 (by decide) (fun c26_22 => ?_) (fun c26_22 => ?_)
              ·
                refine lv_aload_n hx hb dX1_byteAt_39 rfl (lv_at hl 0 rfl) ?_
                refine va_get (D := (dC, dI)) (ci := 2) (v := .ref a) (C := RX1) (T := TX1) (N := 8) hx hb hts (by decide +kernel) hown hK hP 0 rfl rfl 1 (by decide) (hts (.fieldLink RX1 15 "ThreeFiles" "files" "[LThreeFiles$StoredFile;") (by decide +kernel)) (fun _ h9 => h9) rfl dX1_byteAt_40 ?_
                refine lv_iload_n hx hb dX1_byteAt_43 rfl (lv_at hl 1 rfl) ?_
                refine va_aldq hx hb hK hP 1 0 rfl rfl (i := 2) (by unfold vp_in; decide) dX1_byteAt_44 ?_
                refine W.eq (g2 := F0 m 45 ls [.ref f2]) (by rfl) ?_
                refine lv_iload_n hx hb dX1_byteAt_45 rfl (lv_at hl 2 rfl) ?_
                refine lv_bipush (v := 24) hx hb dX1_byteAt_46 (by decide) ?_
                refine lv_imul hx hb dX1_byteAt_48 ?_
                refine lv_topi (fun v48_23 ev48_23 => ?_)
                refine lv_iload_n hx hb dX1_byteAt_49 rfl (lv_at hl 3 rfl) ?_
                refine lv_iadd hx hb dX1_byteAt_50 ?_
                refine lv_topi (fun v50_24 ev50_24 => ?_)
                have hPc := hP.sub (ws' := [(f2, .inr (1, [.int 2, .ref b2, .ref r2, .int 0, .int 0]))]) [4] rfl
                have hKc := hK.sub (tys' := []) [] rfl
                refine vp_callSi ((va_runVN (As := [.int v50_24]) (rest := []) ⟨hx, hb, hml, hown, hts⟩ (c_get l dC dI f2 2 b2 r2 v50_24) ⟨va_cnB 1 hts gX1_byteAt_X0_get_n82 rfl rfl rfl hN.n82 (hts (.initialized RX0) (by decide +kernel)) (by decide +kernel) ⟨Nat.le_of_ble_eq_true rfl, Nat.le_of_ble_eq_true rfl⟩, hts (.instanceMethod yX0_get) (by decide +kernel), hts (.selects RX0 yX0_get yX0_get) (by decide +kernel)⟩ ⟨fun a U g mk q => by obtain ⟨q0, qP, qK⟩ := q; exact ⟨q0, qP, va_K.moved (u := U) (U := U.calling g mk a) (Vm.Alike.refl U.vm) qK⟩, va_recv hKc hPc (ci := 1) (q0 := 0) rfl rfl, fun U hU hW => ⟨rfl, by rw [hU]; exact hPc, va_K.moved hW.alike hKc⟩⟩ rfl rfl hl.1 rfl (lv_room (Nat.le_of_ble_eq_true rfl)) dX1_byteAt_51 ⟨Nat.le_of_ble_eq_true rfl, Nat.le_of_ble_eq_true rfl⟩)).run (fun r_25 hq_25 => ?_)
                obtain rfl : r_25 = 0 := hq_25
                exact W.iret (v := 0) hx hb hr (fun t ht hW => ⟨0, rfl, rfl, ht⟩) (fun _ h => absurd h List.not_mem_nil) dX1_byteAt_54
              · exact absurd hk4 c26_22
  · exact absurd hf_1 (q_isfile hk0)
