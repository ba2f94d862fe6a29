set_option maxHeartbeats 4000000 in
set_option maxRecDepth 100000 in
theorem c_X1_init (l : Launch) (dC : Nat → ClassId) (dI : Nat → Nat → Nat) (sz : Nat) (x : Nat) (p0 : Int32) : Met l yX1_init wsX1_init ({ frames := 2, cells := 11, slots := 9250, locals := 34 }) (va_Pc [.ref x, .int p0] (fun U => nwP U ∧ U.heap.size = sz ∧ va_P (dC, dI) vwCl [(x, .inr (2, [.int 0, .null, .null, .int 0, .int 0, .int 0, .int 0, .int 0]))] U.heap ∧ va_K (dC, dI) vwCl [] U ∧ va_D (fun _ => True) [(x, .inr (2, [.int 0, .null, .null, .int 0, .int 0, .int 0, .int 0, .int 0]))])) (va_Qv (fun pv : Int32 => pv = spPc p0) (fun pv t => ∃ (N : Nat) (a f0 f1 f2 fe b0 r0 b1 r1 b2 r2 : Nat) (cR cF c0 d0 c1 d1 c2 d2 : ClassId), N ≤ 1536 ∧ va_P (dC, dI) vwCl [(x, .inr (2, [.int pv, .ref a, .ref fe, .int 0, .int 0, .int 0, .int 0, .int 0])), (a, .inl (cR, 3, .inr (.inr (.inr (.inr (gF f0 f1 f2)))))), (f0, .inr (1, [.int 0, .ref b0, .ref r0, .int 0, .int 0])), (f1, .inr (1, [.int 1, .ref b1, .ref r1, .int 0, .int 0])), (f2, .inr (1, [.int 2, .ref b2, .ref r2, .int 0, .int 0])), (fe, .inl (cF, 16, .inl (fun _ => 0))), (b0, .inl (c0, N, .inl (fun _ => 0))), (r0, .inl (d0, N, .inl (fun _ => 0))), (b1, .inl (c1, N, .inl (fun _ => 0))), (r1, .inl (d1, N, .inl (fun _ => 0))), (b2, .inl (c2, N, .inl (fun _ => 0))), (r2, .inl (d2, N, .inl (fun _ => 0)))] t.heap ∧ va_K (dC, dI) vwCl [(cR, (.object "ThreeFiles$StoredFile")), (cF, .int), (c0, .int), (d0, .int), (c1, .int), (d1, .int), (c2, .int), (d2, .int)] t ∧ va_D (va_A [(x, .inr (2, [.int 0, .null, .null, .int 0, .int 0, .int 0, .int 0, .int 0]))] sz) [(x, .inr (2, [.int pv, .ref a, .ref fe, .int 0, .int 0, .int 0, .int 0, .int 0])), (a, .inl (cR, 3, .inr (.inr (.inr (.inr (gF f0 f1 f2)))))), (f0, .inr (1, [.int 0, .ref b0, .ref r0, .int 0, .int 0])), (f1, .inr (1, [.int 1, .ref b1, .ref r1, .int 0, .int 0])), (f2, .inr (1, [.int 2, .ref b2, .ref r2, .int 0, .int 0])), (fe, .inl (cF, 16, .inl (fun _ => 0))), (b0, .inl (c0, N, .inl (fun _ => 0))), (r0, .inl (d0, N, .inl (fun _ => 0))), (b1, .inl (c1, N, .inl (fun _ => 0))), (r1, .inl (d1, N, .inl (fun _ => 0))), (b2, .inl (c2, N, .inl (fun _ => 0))), (r2, .inl (d2, N, .inl (fun _ => 0)))]) (va_A [(x, .inr (2, [.int 0, .null, .null, .int 0, .int 0, .int 0, .int 0, .int 0]))] sz)) 11 9250 (va_A [(x, .inr (2, [.int 0, .null, .null, .int 0, .int 0, .int 0, .int 0, .int 0]))] sz) := by
  refine Met.ofW (cc := cX1_init) (maxL := 3) (ret := none) (by decide) rfl ?_
  intro p e s m args below meth c s₁ B hml hv
  obtain ⟨rfl, hN, hsz, hP, hK, hD0⟩ := hv
  have hx := B.exec
  have hb := B.bytes
  have hr := B.returns
  have hts := atoms_spec (ws := wsX1_init) B.pre
  have hown : s.vm.findClass RX1 = some m.cls := findClass_of_methodNamed B.named
  have hlocks := B.notSynchronized
  have hin : meth.name = "<init>" := (name_of_methodNamed B.named B.method).1
  subst hsz
  have hD := hD0.self (sz := s.heap.size)
  generalize hAe : va_A [(x, .inr (2, [.int 0, .null, .null, .int 0, .int 0, .int 0, .int 0, .int 0]))] s.heap.size = A at hD ⊢
  have hA : ∀ q : Nat, s.heap.size ≤ q → A q := fun q h => by rw [← hAe]; exact Or.inr h
  have hS : va_S A s.heap s.heap [] := va_S.rf
  have hP : va_P (dC, dI) vwCl [(x, .inr (2, [.int 0, .null, .null, .int 0, .int 0, .int 0, .int 0, .int 0]))] s.heap := hP
  have hl := lv_entry ([.ref x, .int p0]) (n := 3) (Nat.le_of_ble_eq_true rfl)
  rw [lg_entry_eq]
  generalize (lg_sl ([.ref x, .int p0]) ++ List.replicate (3 - (lg_sl ([.ref x, .int p0])).length) Slot.unset).toArray = ls at hl ⊢
  have hl : lv_has ls 3 [(0, .ref x), (1, .int p0)] := hl
  have hH0 : s.heap.size ≤ s.heap.size := Nat.le_refl _
  rcases pc_cases p0 with hpc | hpc | ⟨k, hkp1, hkp2, hpc⟩
  ·
    refine lv_aload_n hx hb dX1_init_0 rfl (lv_at hl 0 rfl) ?_
    refine W.objInit hx hb hown (hts (.methodLink RX1 1 objectInit) (by decide +kernel)) (hts (.instanceMethod objectInit) (by decide +kernel)) (hts (.code objectInit ⟨#[0xb1]⟩ 1 none) (by decide +kernel)) rfl (by rw [hml]; exact hl.1) rfl dX1_init_1 (Nat.le_of_ble_eq_true rfl) (Nat.le_of_ble_eq_true rfl) ?_
    refine W.eq (g2 := F0 m 4 ls []) rfl ?_
    refine lv_aload_n hx hb dX1_init_4 rfl (lv_at hl 0 rfl) ?_
    refine lv_iload_n hx hb dX1_init_5 rfl (lv_at hl 1 rfl) ?_
    refine lv_iconst (v := 1) hx hb dX1_init_6 (by decide) ?_
    refine lv_icmp_lt (tgt := 20) hx hb dX1_init_7 (by decide) (fun c7_1 => ?_) (fun c7_1 => ?_)
    ·
      refine lv_iconst (v := 1) hx hb dX1_init_20 (by decide) ?_
      refine va_putF (D := (dC, dI)) (ci := 2) (v := .int 1) (ty := .int) (C := RX1) (T := TX1) (N := 8) hx hb hts (by decide +kernel) tyX1 tyX1_ok nmX1 hown hK hP hD hS 0 rfl rfl 0 (by decide) (hts (.fieldLink RX1 9 "ThreeFiles" "pieces" "I") (by decide +kernel)) (fun _ h9 => h9) rfl hin rfl (by decide +kernel) rfl rfl (Nat.le_of_ble_eq_true rfl) dX1_init_21 (fun H locs hP hD hS => ?_)
      have hP : va_P (dC, dI) vwCl [(x, .inr (2, [.int 1, .null, .null, .int 0, .int 0, .int 0, .int 0, .int 0]))] H := hP
      have hD : va_D A [(x, .inr (2, [.int 1, .null, .null, .int 0, .int 0, .int 0, .int 0, .int 0]))] := hD
      refine lv_aload_n hx hb dX1_init_24 rfl (lv_at hl 0 rfl) ?_
      refine lv_iconst (v := 3) hx hb dX1_init_25 (by decide) ?_
      refine va_newq (C := RX0) (N' := 3) hx hb hown (hts (.classLink RX1 13 RX0) (by decide +kernel)) hN.ao hK hP hD hS hA (by decide) (by rfl) (by decide) (show 1 ≤ 11 by decide) (show 0 + 3 ≤ 9250 by decide) dX1_init_26 (fun q26_2 kq26_2 H hK hP hD hS => ?_)
      have hK : va_K (dC, dI) vwCl [(kq26_2, .object RX0)] s := hK
      have hP : va_P (dC, dI) vwCl [(x, .inr (2, [.int 1, .null, .null, .int 0, .int 0, .int 0, .int 0, .int 0])), (q26_2, .inl (kq26_2, 3, .inr (.inr (.inr (.inr (fun _ => none))))))] H := hP
      have hD : va_D A [(x, .inr (2, [.int 1, .null, .null, .int 0, .int 0, .int 0, .int 0, .int 0])), (q26_2, .inl (kq26_2, 3, .inr (.inr (.inr (.inr (fun _ => none))))))] := hD
      refine W.widen (k := 1) (n := 3) (by omega) (by omega) ?_
      refine va_putF (D := (dC, dI)) (ci := 2) (v := .ref q26_2) (ty := (.array (.object "ThreeFiles$StoredFile"))) (C := RX1) (T := TX1) (N := 8) hx hb hts (by decide +kernel) tyX1 tyX1_ok nmX1 hown hK hP hD hS 0 rfl rfl 1 (by decide) (hts (.fieldLink RX1 15 "ThreeFiles" "files" "[LThreeFiles$StoredFile;") (by decide +kernel)) (fun _ h9 => h9) rfl hin rfl (by decide +kernel) rfl rfl (Nat.le_of_ble_eq_true rfl) dX1_init_29 (fun H locs hP hD hS => ?_)
      have hP : va_P (dC, dI) vwCl [(x, .inr (2, [.int 1, .ref q26_2, .null, .int 0, .int 0, .int 0, .int 0, .int 0])), (q26_2, .inl (kq26_2, 3, .inr (.inr (.inr (.inr (fun _ => none))))))] H := hP
      have hD : va_D A [(x, .inr (2, [.int 1, .ref q26_2, .null, .int 0, .int 0, .int 0, .int 0, .int 0])), (q26_2, .inl (kq26_2, 3, .inr (.inr (.inr (.inr (fun _ => none))))))] := hD
      refine lv_iconst (v := 0) hx hb dX1_init_32 (by decide) ?_
      refine lv_istore_n (lv' := [(2, .int 0), (0, .ref x), (1, .int p0)]) hx hb dX1_init_33 rfl hl (by decide) rfl (fun ls hl => ?_)
      refine lv_iload_n hx hb dX1_init_34 rfl (lv_at hl 0 rfl) ?_
      refine lv_iconst (v := 3) hx hb dX1_init_35 (by decide) ?_
      refine lv_icmp_ge (tgt := 66) hx hb dX1_init_36 (by decide) (fun c36_3 => ?_) (fun c36_3 => ?_)
      · exact absurd c36_3 (by decide)
      ·
        refine lv_aload_n hx hb dX1_init_39 rfl (lv_at hl 1 rfl) ?_
        refine va_get (D := (dC, dI)) (ci := 2) (v := .ref q26_2) (C := RX1) (T := TX1) (N := 8) hx hb hts (by decide +kernel) hown hK hP 0 rfl rfl 1 (by decide) (hts (.fieldLink RX1 15 "ThreeFiles" "files" "[LThreeFiles$StoredFile;") (by decide +kernel)) (fun _ h9 => h9) rfl dX1_init_40 ?_
        refine lv_iload_n hx hb dX1_init_43 rfl (lv_at hl 0 rfl) ?_
        refine va_new (ci := 1) (fs := [.int 0, .null, .null, .int 0, .int 0]) (C := RX0) (T := TX0) (N := 5) hx hb hts (by decide +kernel) tyX0 tyX0_ok hown (hts (.classLink RX1 13 RX0) (by decide +kernel)) (hts (.instantiable RX0 5) (by decide +kernel)) (hts (.initialized RX0) (by decide +kernel)) hK hP hD hS hA rfl (fun j hj => by rcases (show j = 0 ∨ j = 1 ∨ j = 2 ∨ j = 3 ∨ j = 4 by omega) with rfl | rfl | rfl | rfl | rfl <;> rfl) (show 2 ≤ 11 by decide) (show 3 + 5 ≤ 9250 by decide) dX1_init_44 (fun q44_4 H hP hD hS => ?_)
        have hP : va_P (dC, dI) vwCl [(x, .inr (2, [.int 1, .ref q26_2, .null, .int 0, .int 0, .int 0, .int 0, .int 0])), (q26_2, .inl (kq26_2, 3, .inr (.inr (.inr (.inr (fun _ => none)))))), (q44_4, .inr (1, [.int 0, .null, .null, .int 0, .int 0]))] H := hP
        have hD : va_D A [(x, .inr (2, [.int 1, .ref q26_2, .null, .int 0, .int 0, .int 0, .int 0, .int 0])), (q26_2, .inl (kq26_2, 3, .inr (.inr (.inr (.inr (fun _ => none)))))), (q44_4, .inr (1, [.int 0, .null, .null, .int 0, .int 0]))] := hD
        refine W.widen (k := 2) (n := 8) (by omega) (by omega) ?_
        refine lv_dup hx hb dX1_init_47 rfl ?_
        refine lv_iload_n hx hb dX1_init_48 rfl (lv_at hl 0 rfl) ?_
        refine lv_aload_n hx hb dX1_init_49 rfl (lv_at hl 1 rfl) ?_
        refine va_get (D := (dC, dI)) (ci := 2) (v := .int 1) (C := RX1) (T := TX1) (N := 8) hx hb hts (by decide +kernel) hown hK hP 0 rfl rfl 0 (by decide) (hts (.fieldLink RX1 9 "ThreeFiles" "pieces" "I") (by decide +kernel)) (fun _ h9 => h9) rfl dX1_init_50 ?_
        refine lv_bipush (v := 24) hx hb dX1_init_53 (by decide) ?_
        refine lv_imul hx hb dX1_init_55 ?_
        refine W.eq (g2 := F0 m 56 ls [.int 24, .int 0, .ref q44_4, .ref q44_4, .int 0, .ref q26_2]) (by rfl) ?_
        have hPc := hP.sub (ws' := [(q44_4, .inr (1, [.int 0, .null, .null, .int 0, .int 0]))]) [2] rfl
        have hKc := hK.sub (tys' := []) [] rfl
        have hDc := hD.sub (ws' := [(q44_4, .inr (1, [.int 0, .null, .null, .int 0, .int 0]))]) [2] (by decide) rfl
        have hFc := va_free (wc := [(q44_4, .inr (1, [.int 0, .null, .null, .int 0, .int 0]))]) hD hS hA [2] rfl
        refine va_callv (va_runIN (As := [.int 0, .int 24]) (rest := [.ref q44_4, .int 0, .ref q26_2]) ⟨hx, hb, hml, hown, hts⟩ (c_X0_init l dC dI H.size q44_4 0 24 (by decide)) ⟨va_cnB 2 hts gX1_init_X0_init_n19 rfl rfl rfl hN.n19 (hts (.initialized RX0) (by decide +kernel)) (by decide +kernel) ⟨Nat.le_of_ble_eq_true rfl, Nat.le_of_ble_eq_true rfl⟩, rfl, hts (.instanceMethod yX0_init) (by decide +kernel)⟩ ⟨fun a U g mk q => by obtain ⟨q0, q1, qP, qK, qD⟩ := q; exact ⟨q0, q1, qP, va_K.moved (u := U) (U := U.calling g mk a) (Vm.Alike.refl U.vm) qK, qD⟩, fun U hU hW => ⟨rfl, by rw [hU], by rw [hU]; exact hPc, va_K.moved hW.alike hKc, hDc.weaken (fun _ _ _ _ => trivial)⟩⟩ rfl rfl hl.1 rfl (lv_room (Nat.le_of_ble_eq_true rfl)) dX1_init_56 ⟨Nat.le_of_ble_eq_true rfl, Nat.le_of_ble_eq_true rfl⟩) hS (fun q _ h => hFc q h) hFc (fun u t H1 locs ht hvm hw hB hz1 hk1 hS => ?_)
        obtain ⟨b_5, r_5, cb_5, cc_5, hP1, hK1, hD1⟩ := hB
        rw [ht] at hP1
        have hK1 := va_K.moved hvm.symm hK1
        obtain ⟨hP, hD⟩ := va_join (wr := [(x, .inr (2, [.int 1, .ref q26_2, .null, .int 0, .int 0, .int 0, .int 0, .int 0])), (q26_2, .inl (kq26_2, 3, .inr (.inr (.inr (.inr (fun _ => none))))))]) (w1 := [(q44_4, .inr (1, [.int 0, .ref b_5, .ref r_5, .int 0, .int 0])), (b_5, .inl (cb_5, 24, .inl (fun _ => 0))), (r_5, .inl (cc_5, 24, .inl (fun _ => 0)))]) hP hD [2] [0, 1] rfl rfl (by decide) (by decide) hk1 hFc hP1 hD1
        have hK := (hK.sub (tys' := [(kq26_2, .object RX0)]) [0] rfl).app hK1
        generalize H1 = H at hP hS ⊢
        have hP : va_P (dC, dI) vwCl [(x, .inr (2, [.int 1, .ref q26_2, .null, .int 0, .int 0, .int 0, .int 0, .int 0])), (q26_2, .inl (kq26_2, 3, .inr (.inr (.inr (.inr (fun _ => none)))))), (q44_4, .inr (1, [.int 0, .ref b_5, .ref r_5, .int 0, .int 0])), (b_5, .inl (cb_5, 24, .inl (fun _ => 0))), (r_5, .inl (cc_5, 24, .inl (fun _ => 0)))] H := hP
        have hD : va_D A [(x, .inr (2, [.int 1, .ref q26_2, .null, .int 0, .int 0, .int 0, .int 0, .int 0])), (q26_2, .inl (kq26_2, 3, .inr (.inr (.inr (.inr (fun _ => none)))))), (q44_4, .inr (1, [.int 0, .ref b_5, .ref r_5, .int 0, .int 0])), (b_5, .inl (cb_5, 24, .inl (fun _ => 0))), (r_5, .inl (cc_5, 24, .inl (fun _ => 0)))] := hD
        have hK : va_K (dC, dI) vwCl [(kq26_2, .object RX0), (cb_5, .int), (cc_5, .int)] s := hK
        refine W.widen (k := 4) (n := 3080) (by omega) (by omega) ?_
        refine va_astq hx hb hK hP hD hS 1 0 2 1 rfl rfl rfl rfl (i := 0) (by unfold vp_in; decide) dX1_init_59 (fun H locs hP hD hS => ?_)
        have hP : va_P (dC, dI) vwCl [(x, .inr (2, [.int 1, .ref q26_2, .null, .int 0, .int 0, .int 0, .int 0, .int 0])), (q26_2, .inl (kq26_2, 3, .inr (.inr (.inr (.inr (va_up (fun _ => none) 0 (some q44_4))))))), (q44_4, .inr (1, [.int 0, .ref b_5, .ref r_5, .int 0, .int 0])), (b_5, .inl (cb_5, 24, .inl (fun _ => 0))), (r_5, .inl (cc_5, 24, .inl (fun _ => 0)))] H := hP
        have hD : va_D A [(x, .inr (2, [.int 1, .ref q26_2, .null, .int 0, .int 0, .int 0, .int 0, .int 0])), (q26_2, .inl (kq26_2, 3, .inr (.inr (.inr (.inr (va_up (fun _ => none) 0 (some q44_4))))))), (q44_4, .inr (1, [.int 0, .ref b_5, .ref r_5, .int 0, .int 0])), (b_5, .inl (cb_5, 24, .inl (fun _ => 0))), (r_5, .inl (cc_5, 24, .inl (fun _ => 0)))] := hD
        refine lv_iinc (v := 1) (lv' := [(2, .int 1), (0, .ref x), (1, .int p0)]) hx hb dX1_init_60 hl (k := 0) rfl (by decide) (by decide) rfl (fun ls hl => ?_)
        refine lv_goto (tgt := 34) hx hb dX1_init_63 (by decide) ?_
        refine lv_iload_n hx hb dX1_init_34 rfl (lv_at hl 0 rfl) ?_
        refine lv_iconst (v := 3) hx hb dX1_init_35 (by decide) ?_
        refine lv_icmp_ge (tgt := 66) hx hb dX1_init_36 (by decide) (fun c36_6 => ?_) (fun c36_6 => ?_)
        · exact absurd c36_6 (by decide)
        ·
          refine lv_aload_n hx hb dX1_init_39 rfl (lv_at hl 1 rfl) ?_
          refine va_get (D := (dC, dI)) (ci := 2) (v := .ref q26_2) (C := RX1) (T := TX1) (N := 8) hx hb hts (by decide +kernel) hown hK hP 0 rfl rfl 1 (by decide) (hts (.fieldLink RX1 15 "ThreeFiles" "files" "[LThreeFiles$StoredFile;") (by decide +kernel)) (fun _ h9 => h9) rfl dX1_init_40 ?_
          refine lv_iload_n hx hb dX1_init_43 rfl (lv_at hl 0 rfl) ?_
          refine va_new (ci := 1) (fs := [.int 0, .null, .null, .int 0, .int 0]) (C := RX0) (T := TX0) (N := 5) hx hb hts (by decide +kernel) tyX0 tyX0_ok hown (hts (.classLink RX1 13 RX0) (by decide +kernel)) (hts (.instantiable RX0 5) (by decide +kernel)) (hts (.initialized RX0) (by decide +kernel)) hK hP hD hS hA rfl (fun j hj => by rcases (show j = 0 ∨ j = 1 ∨ j = 2 ∨ j = 3 ∨ j = 4 by omega) with rfl | rfl | rfl | rfl | rfl <;> rfl) (show 5 ≤ 11 by decide) (show 3080 + 5 ≤ 9250 by decide) dX1_init_44 (fun q44_7 H hP hD hS => ?_)
          have hP : va_P (dC, dI) vwCl [(x, .inr (2, [.int 1, .ref q26_2, .null, .int 0, .int 0, .int 0, .int 0, .int 0])), (q26_2, .inl (kq26_2, 3, .inr (.inr (.inr (.inr (va_up (fun _ => none) 0 (some q44_4))))))), (q44_4, .inr (1, [.int 0, .ref b_5, .ref r_5, .int 0, .int 0])), (b_5, .inl (cb_5, 24, .inl (fun _ => 0))), (r_5, .inl (cc_5, 24, .inl (fun _ => 0))), (q44_7, .inr (1, [.int 0, .null, .null, .int 0, .int 0]))] H := hP
          have hD : va_D A [(x, .inr (2, [.int 1, .ref q26_2, .null, .int 0, .int 0, .int 0, .int 0, .int 0])), (q26_2, .inl (kq26_2, 3, .inr (.inr (.inr (.inr (va_up (fun _ => none) 0 (some q44_4))))))), (q44_4, .inr (1, [.int 0, .ref b_5, .ref r_5, .int 0, .int 0])), (b_5, .inl (cb_5, 24, .inl (fun _ => 0))), (r_5, .inl (cc_5, 24, .inl (fun _ => 0))), (q44_7, .inr (1, [.int 0, .null, .null, .int 0, .int 0]))] := hD
          refine W.widen (k := 5) (n := 3085) (by omega) (by omega) ?_
          refine lv_dup hx hb dX1_init_47 rfl ?_
          refine lv_iload_n hx hb dX1_init_48 rfl (lv_at hl 0 rfl) ?_
          refine lv_aload_n hx hb dX1_init_49 rfl (lv_at hl 1 rfl) ?_
          refine va_get (D := (dC, dI)) (ci := 2) (v := .int 1) (C := RX1) (T := TX1) (N := 8) hx hb hts (by decide +kernel) hown hK hP 0 rfl rfl 0 (by decide) (hts (.fieldLink RX1 9 "ThreeFiles" "pieces" "I") (by decide +kernel)) (fun _ h9 => h9) rfl dX1_init_50 ?_
          refine lv_bipush (v := 24) hx hb dX1_init_53 (by decide) ?_
          refine lv_imul hx hb dX1_init_55 ?_
          refine W.eq (g2 := F0 m 56 ls [.int 24, .int 1, .ref q44_7, .ref q44_7, .int 1, .ref q26_2]) (by rfl) ?_
          have hPc := hP.sub (ws' := [(q44_7, .inr (1, [.int 0, .null, .null, .int 0, .int 0]))]) [5] rfl
          have hKc := hK.sub (tys' := []) [] rfl
          have hDc := hD.sub (ws' := [(q44_7, .inr (1, [.int 0, .null, .null, .int 0, .int 0]))]) [5] (by decide) rfl
          have hFc := va_free (wc := [(q44_7, .inr (1, [.int 0, .null, .null, .int 0, .int 0]))]) hD hS hA [5] rfl
          refine va_callv (va_runIN (As := [.int 1, .int 24]) (rest := [.ref q44_7, .int 1, .ref q26_2]) ⟨hx, hb, hml, hown, hts⟩ (c_X0_init l dC dI H.size q44_7 1 24 (by decide)) ⟨va_cnB 2 hts gX1_init_X0_init_n19 rfl rfl rfl hN.n19 (hts (.initialized RX0) (by decide +kernel)) (by decide +kernel) ⟨Nat.le_of_ble_eq_true rfl, Nat.le_of_ble_eq_true rfl⟩, rfl, hts (.instanceMethod yX0_init) (by decide +kernel)⟩ ⟨fun a U g mk q => by obtain ⟨q0, q1, qP, qK, qD⟩ := q; exact ⟨q0, q1, qP, va_K.moved (u := U) (U := U.calling g mk a) (Vm.Alike.refl U.vm) qK, qD⟩, fun U hU hW => ⟨rfl, by rw [hU], by rw [hU]; exact hPc, va_K.moved hW.alike hKc, hDc.weaken (fun _ _ _ _ => trivial)⟩⟩ rfl rfl hl.1 rfl (lv_room (Nat.le_of_ble_eq_true rfl)) dX1_init_56 ⟨Nat.le_of_ble_eq_true rfl, Nat.le_of_ble_eq_true rfl⟩) hS (fun q _ h => hFc q h) hFc (fun u t H1 locs ht hvm hw hB hz1 hk1 hS => ?_)
          obtain ⟨b_8, r_8, cb_8, cc_8, hP1, hK1, hD1⟩ := hB
          rw [ht] at hP1
          have hK1 := va_K.moved hvm.symm hK1
          obtain ⟨hP, hD⟩ := va_join (wr := [(x, .inr (2, [.int 1, .ref q26_2, .null, .int 0, .int 0, .int 0, .int 0, .int 0])), (q26_2, .inl (kq26_2, 3, .inr (.inr (.inr (.inr (va_up (fun _ => none) 0 (some q44_4))))))), (q44_4, .inr (1, [.int 0, .ref b_5, .ref r_5, .int 0, .int 0])), (b_5, .inl (cb_5, 24, .inl (fun _ => 0))), (r_5, .inl (cc_5, 24, .inl (fun _ => 0)))]) (w1 := [(q44_7, .inr (1, [.int 1, .ref b_8, .ref r_8, .int 0, .int 0])), (b_8, .inl (cb_8, 24, .inl (fun _ => 0))), (r_8, .inl (cc_8, 24, .inl (fun _ => 0)))]) hP hD [5] [0, 1, 2, 3, 4] rfl rfl (by decide) (by decide) hk1 hFc hP1 hD1
          have hK := (hK.sub (tys' := [(kq26_2, .object RX0), (cb_5, .int), (cc_5, .int)]) [0, 1, 2] rfl).app hK1
          generalize H1 = H at hP hS ⊢
          have hP : va_P (dC, dI) vwCl [(x, .inr (2, [.int 1, .ref q26_2, .null, .int 0, .int 0, .int 0, .int 0, .int 0])), (q26_2, .inl (kq26_2, 3, .inr (.inr (.inr (.inr (va_up (fun _ => none) 0 (some q44_4))))))), (q44_4, .inr (1, [.int 0, .ref b_5, .ref r_5, .int 0, .int 0])), (b_5, .inl (cb_5, 24, .inl (fun _ => 0))), (r_5, .inl (cc_5, 24, .inl (fun _ => 0))), (q44_7, .inr (1, [.int 1, .ref b_8, .ref r_8, .int 0, .int 0])), (b_8, .inl (cb_8, 24, .inl (fun _ => 0))), (r_8, .inl (cc_8, 24, .inl (fun _ => 0)))] H := hP
          have hD : va_D A [(x, .inr (2, [.int 1, .ref q26_2, .null, .int 0, .int 0, .int 0, .int 0, .int 0])), (q26_2, .inl (kq26_2, 3, .inr (.inr (.inr (.inr (va_up (fun _ => none) 0 (some q44_4))))))), (q44_4, .inr (1, [.int 0, .ref b_5, .ref r_5, .int 0, .int 0])), (b_5, .inl (cb_5, 24, .inl (fun _ => 0))), (r_5, .inl (cc_5, 24, .inl (fun _ => 0))), (q44_7, .inr (1, [.int 1, .ref b_8, .ref r_8, .int 0, .int 0])), (b_8, .inl (cb_8, 24, .inl (fun _ => 0))), (r_8, .inl (cc_8, 24, .inl (fun _ => 0)))] := hD
          have hK : va_K (dC, dI) vwCl [(kq26_2, .object RX0), (cb_5, .int), (cc_5, .int), (cb_8, .int), (cc_8, .int)] s := hK
          refine W.widen (k := 7) (n := 6157) (by omega) (by omega) ?_
          refine va_astq hx hb hK hP hD hS 1 0 5 1 rfl rfl rfl rfl (i := 1) (by unfold vp_in; decide) dX1_init_59 (fun H locs hP hD hS => ?_)
          have hP : va_P (dC, dI) vwCl [(x, .inr (2, [.int 1, .ref q26_2, .null, .int 0, .int 0, .int 0, .int 0, .int 0])), (q26_2, .inl (kq26_2, 3, .inr (.inr (.inr (.inr (va_up (va_up (fun _ => none) 0 (some q44_4)) 1 (some q44_7))))))), (q44_4, .inr (1, [.int 0, .ref b_5, .ref r_5, .int 0, .int 0])), (b_5, .inl (cb_5, 24, .inl (fun _ => 0))), (r_5, .inl (cc_5, 24, .inl (fun _ => 0))), (q44_7, .inr (1, [.int 1, .ref b_8, .ref r_8, .int 0, .int 0])), (b_8, .inl (cb_8, 24, .inl (fun _ => 0))), (r_8, .inl (cc_8, 24, .inl (fun _ => 0)))] H := hP
          have hD : va_D A [(x, .inr (2, [.int 1, .ref q26_2, .null, .int 0, .int 0, .int 0, .int 0, .int 0])), (q26_2, .inl (kq26_2, 3, .inr (.inr (.inr (.inr (va_up (va_up (fun _ => none) 0 (some q44_4)) 1 (some q44_7))))))), (q44_4, .inr (1, [.int 0, .ref b_5, .ref r_5, .int 0, .int 0])), (b_5, .inl (cb_5, 24, .inl (fun _ => 0))), (r_5, .inl (cc_5, 24, .inl (fun _ => 0))), (q44_7, .inr (1, [.int 1, .ref b_8, .ref r_8, .int 0, .int 0])), (b_8, .inl (cb_8, 24, .inl (fun _ => 0))), (r_8, .inl (cc_8, 24, .inl (fun _ => 0)))] := hD
          refine lv_iinc (v := 2) (lv' := [(2, .int 2), (0, .ref x), (1, .int p0)]) hx hb dX1_init_60 hl (k := 0) rfl (by decide) (by decide) rfl (fun ls hl => ?_)
          refine lv_goto (tgt := 34) hx hb dX1_init_63 (by decide) ?_
          refine lv_iload_n hx hb dX1_init_34 rfl (lv_at hl 0 rfl) ?_
          refine lv_iconst (v := 3) hx hb dX1_init_35 (by decide) ?_
          refine lv_icmp_ge (tgt := 66) hx hb dX1_init_36 (by decide) (fun c36_9 => ?_) (fun c36_9 => ?_)
          · exact absurd c36_9 (by decide)
          ·
            refine lv_aload_n hx hb dX1_init_39 rfl (lv_at hl 1 rfl) ?_
            refine va_get (D := (dC, dI)) (ci := 2) (v := .ref q26_2) (C := RX1) (T := TX1) (N := 8) hx hb hts (by decide +kernel) hown hK hP 0 rfl rfl 1 (by decide) (hts (.fieldLink RX1 15 "ThreeFiles" "files" "[LThreeFiles$StoredFile;") (by decide +kernel)) (fun _ h9 => h9) rfl dX1_init_40 ?_
            refine lv_iload_n hx hb dX1_init_43 rfl (lv_at hl 0 rfl) ?_
            refine va_new (ci := 1) (fs := [.int 0, .null, .null, .int 0, .int 0]) (C := RX0) (T := TX0) (N := 5) hx hb hts (by decide +kernel) tyX0 tyX0_ok hown (hts (.classLink RX1 13 RX0) (by decide +kernel)) (hts (.instantiable RX0 5) (by decide +kernel)) (hts (.initialized RX0) (by decide +kernel)) hK hP hD hS hA rfl (fun j hj => by rcases (show j = 0 ∨ j = 1 ∨ j = 2 ∨ j = 3 ∨ j = 4 by omega) with rfl | rfl | rfl | rfl | rfl <;> rfl) (show 8 ≤ 11 by decide) (show 6157 + 5 ≤ 9250 by decide) dX1_init_44 (fun q44_10 H hP hD hS => ?_)
            have hP : va_P (dC, dI) vwCl [(x, .inr (2, [.int 1, .ref q26_2, .null, .int 0, .int 0, .int 0, .int 0, .int 0])), (q26_2, .inl (kq26_2, 3, .inr (.inr (.inr (.inr (va_up (va_up (fun _ => none) 0 (some q44_4)) 1 (some q44_7))))))), (q44_4, .inr (1, [.int 0, .ref b_5, .ref r_5, .int 0, .int 0])), (b_5, .inl (cb_5, 24, .inl (fun _ => 0))), (r_5, .inl (cc_5, 24, .inl (fun _ => 0))), (q44_7, .inr (1, [.int 1, .ref b_8, .ref r_8, .int 0, .int 0])), (b_8, .inl (cb_8, 24, .inl (fun _ => 0))), (r_8, .inl (cc_8, 24, .inl (fun _ => 0))), (q44_10, .inr (1, [.int 0, .null, .null, .int 0, .int 0]))] H := hP
            have hD : va_D A [(x, .inr (2, [.int 1, .ref q26_2, .null, .int 0, .int 0, .int 0, .int 0, .int 0])), (q26_2, .inl (kq26_2, 3, .inr (.inr (.inr (.inr (va_up (va_up (fun _ => none) 0 (some q44_4)) 1 (some q44_7))))))), (q44_4, .inr (1, [.int 0, .ref b_5, .ref r_5, .int 0, .int 0])), (b_5, .inl (cb_5, 24, .inl (fun _ => 0))), (r_5, .inl (cc_5, 24, .inl (fun _ => 0))), (q44_7, .inr (1, [.int 1, .ref b_8, .ref r_8, .int 0, .int 0])), (b_8, .inl (cb_8, 24, .inl (fun _ => 0))), (r_8, .inl (cc_8, 24, .inl (fun _ => 0))), (q44_10, .inr (1, [.int 0, .null, .null, .int 0, .int 0]))] := hD
            refine W.widen (k := 8) (n := 6162) (by omega) (by omega) ?_
            refine lv_dup hx hb dX1_init_47 rfl ?_
            refine lv_iload_n hx hb dX1_init_48 rfl (lv_at hl 0 rfl) ?_
            refine lv_aload_n hx hb dX1_init_49 rfl (lv_at hl 1 rfl) ?_
            refine va_get (D := (dC, dI)) (ci := 2) (v := .int 1) (C := RX1) (T := TX1) (N := 8) hx hb hts (by decide +kernel) hown hK hP 0 rfl rfl 0 (by decide) (hts (.fieldLink RX1 9 "ThreeFiles" "pieces" "I") (by decide +kernel)) (fun _ h9 => h9) rfl dX1_init_50 ?_
            refine lv_bipush (v := 24) hx hb dX1_init_53 (by decide) ?_
            refine lv_imul hx hb dX1_init_55 ?_
            refine W.eq (g2 := F0 m 56 ls [.int 24, .int 2, .ref q44_10, .ref q44_10, .int 2, .ref q26_2]) (by rfl) ?_
            have hPc := hP.sub (ws' := [(q44_10, .inr (1, [.int 0, .null, .null, .int 0, .int 0]))]) [8] rfl
            have hKc := hK.sub (tys' := []) [] rfl
            have hDc := hD.sub (ws' := [(q44_10, .inr (1, [.int 0, .null, .null, .int 0, .int 0]))]) [8] (by decide) rfl
            have hFc := va_free (wc := [(q44_10, .inr (1, [.int 0, .null, .null, .int 0, .int 0]))]) hD hS hA [8] rfl
            refine va_callv (va_runIN (As := [.int 2, .int 24]) (rest := [.ref q44_10, .int 2, .ref q26_2]) ⟨hx, hb, hml, hown, hts⟩ (c_X0_init l dC dI H.size q44_10 2 24 (by decide)) ⟨va_cnB 2 hts gX1_init_X0_init_n19 rfl rfl rfl hN.n19 (hts (.initialized RX0) (by decide +kernel)) (by decide +kernel) ⟨Nat.le_of_ble_eq_true rfl, Nat.le_of_ble_eq_true rfl⟩, rfl, hts (.instanceMethod yX0_init) (by decide +kernel)⟩ ⟨fun a U g mk q => by obtain ⟨q0, q1, qP, qK, qD⟩ := q; exact ⟨q0, q1, qP, va_K.moved (u := U) (U := U.calling g mk a) (Vm.Alike.refl U.vm) qK, qD⟩, fun U hU hW => ⟨rfl, by rw [hU], by rw [hU]; exact hPc, va_K.moved hW.alike hKc, hDc.weaken (fun _ _ _ _ => trivial)⟩⟩ rfl rfl hl.1 rfl (lv_room (Nat.le_of_ble_eq_true rfl)) dX1_init_56 ⟨Nat.le_of_ble_eq_true rfl, Nat.le_of_ble_eq_true rfl⟩) hS (fun q _ h => hFc q h) hFc (fun u t H1 locs ht hvm hw hB hz1 hk1 hS => ?_)
            obtain ⟨b_11, r_11, cb_11, cc_11, hP1, hK1, hD1⟩ := hB
            rw [ht] at hP1
            have hK1 := va_K.moved hvm.symm hK1
            obtain ⟨hP, hD⟩ := va_join (wr := [(x, .inr (2, [.int 1, .ref q26_2, .null, .int 0, .int 0, .int 0, .int 0, .int 0])), (q26_2, .inl (kq26_2, 3, .inr (.inr (.inr (.inr (va_up (va_up (fun _ => none) 0 (some q44_4)) 1 (some q44_7))))))), (q44_4, .inr (1, [.int 0, .ref b_5, .ref r_5, .int 0, .int 0])), (b_5, .inl (cb_5, 24, .inl (fun _ => 0))), (r_5, .inl (cc_5, 24, .inl (fun _ => 0))), (q44_7, .inr (1, [.int 1, .ref b_8, .ref r_8, .int 0, .int 0])), (b_8, .inl (cb_8, 24, .inl (fun _ => 0))), (r_8, .inl (cc_8, 24, .inl (fun _ => 0)))]) (w1 := [(q44_10, .inr (1, [.int 2, .ref b_11, .ref r_11, .int 0, .int 0])), (b_11, .inl (cb_11, 24, .inl (fun _ => 0))), (r_11, .inl (cc_11, 24, .inl (fun _ => 0)))]) hP hD [8] [0, 1, 2, 3, 4, 5, 6, 7] rfl rfl (by decide) (by decide) hk1 hFc hP1 hD1
            have hK := (hK.sub (tys' := [(kq26_2, .object RX0), (cb_5, .int), (cc_5, .int), (cb_8, .int), (cc_8, .int)]) [0, 1, 2, 3, 4] rfl).app hK1
            generalize H1 = H at hP hS ⊢
            have hP : va_P (dC, dI) vwCl [(x, .inr (2, [.int 1, .ref q26_2, .null, .int 0, .int 0, .int 0, .int 0, .int 0])), (q26_2, .inl (kq26_2, 3, .inr (.inr (.inr (.inr (va_up (va_up (fun _ => none) 0 (some q44_4)) 1 (some q44_7))))))), (q44_4, .inr (1, [.int 0, .ref b_5, .ref r_5, .int 0, .int 0])), (b_5, .inl (cb_5, 24, .inl (fun _ => 0))), (r_5, .inl (cc_5, 24, .inl (fun _ => 0))), (q44_7, .inr (1, [.int 1, .ref b_8, .ref r_8, .int 0, .int 0])), (b_8, .inl (cb_8, 24, .inl (fun _ => 0))), (r_8, .inl (cc_8, 24, .inl (fun _ => 0))), (q44_10, .inr (1, [.int 2, .ref b_11, .ref r_11, .int 0, .int 0])), (b_11, .inl (cb_11, 24, .inl (fun _ => 0))), (r_11, .inl (cc_11, 24, .inl (fun _ => 0)))] H := hP
            have hD : va_D A [(x, .inr (2, [.int 1, .ref q26_2, .null, .int 0, .int 0, .int 0, .int 0, .int 0])), (q26_2, .inl (kq26_2, 3, .inr (.inr (.inr (.inr (va_up (va_up (fun _ => none) 0 (some q44_4)) 1 (some q44_7))))))), (q44_4, .inr (1, [.int 0, .ref b_5, .ref r_5, .int 0, .int 0])), (b_5, .inl (cb_5, 24, .inl (fun _ => 0))), (r_5, .inl (cc_5, 24, .inl (fun _ => 0))), (q44_7, .inr (1, [.int 1, .ref b_8, .ref r_8, .int 0, .int 0])), (b_8, .inl (cb_8, 24, .inl (fun _ => 0))), (r_8, .inl (cc_8, 24, .inl (fun _ => 0))), (q44_10, .inr (1, [.int 2, .ref b_11, .ref r_11, .int 0, .int 0])), (b_11, .inl (cb_11, 24, .inl (fun _ => 0))), (r_11, .inl (cc_11, 24, .inl (fun _ => 0)))] := hD
            have hK : va_K (dC, dI) vwCl [(kq26_2, .object RX0), (cb_5, .int), (cc_5, .int), (cb_8, .int), (cc_8, .int), (cb_11, .int), (cc_11, .int)] s := hK
            refine W.widen (k := 10) (n := 9234) (by omega) (by omega) ?_
            refine va_astq hx hb hK hP hD hS 1 0 8 1 rfl rfl rfl rfl (i := 2) (by unfold vp_in; decide) dX1_init_59 (fun H locs hP hD hS => ?_)
            have hP : va_P (dC, dI) vwCl [(x, .inr (2, [.int 1, .ref q26_2, .null, .int 0, .int 0, .int 0, .int 0, .int 0])), (q26_2, .inl (kq26_2, 3, .inr (.inr (.inr (.inr (va_up (va_up (va_up (fun _ => none) 0 (some q44_4)) 1 (some q44_7)) 2 (some q44_10))))))), (q44_4, .inr (1, [.int 0, .ref b_5, .ref r_5, .int 0, .int 0])), (b_5, .inl (cb_5, 24, .inl (fun _ => 0))), (r_5, .inl (cc_5, 24, .inl (fun _ => 0))), (q44_7, .inr (1, [.int 1, .ref b_8, .ref r_8, .int 0, .int 0])), (b_8, .inl (cb_8, 24, .inl (fun _ => 0))), (r_8, .inl (cc_8, 24, .inl (fun _ => 0))), (q44_10, .inr (1, [.int 2, .ref b_11, .ref r_11, .int 0, .int 0])), (b_11, .inl (cb_11, 24, .inl (fun _ => 0))), (r_11, .inl (cc_11, 24, .inl (fun _ => 0)))] H := hP
            have hD : va_D A [(x, .inr (2, [.int 1, .ref q26_2, .null, .int 0, .int 0, .int 0, .int 0, .int 0])), (q26_2, .inl (kq26_2, 3, .inr (.inr (.inr (.inr (va_up (va_up (va_up (fun _ => none) 0 (some q44_4)) 1 (some q44_7)) 2 (some q44_10))))))), (q44_4, .inr (1, [.int 0, .ref b_5, .ref r_5, .int 0, .int 0])), (b_5, .inl (cb_5, 24, .inl (fun _ => 0))), (r_5, .inl (cc_5, 24, .inl (fun _ => 0))), (q44_7, .inr (1, [.int 1, .ref b_8, .ref r_8, .int 0, .int 0])), (b_8, .inl (cb_8, 24, .inl (fun _ => 0))), (r_8, .inl (cc_8, 24, .inl (fun _ => 0))), (q44_10, .inr (1, [.int 2, .ref b_11, .ref r_11, .int 0, .int 0])), (b_11, .inl (cb_11, 24, .inl (fun _ => 0))), (r_11, .inl (cc_11, 24, .inl (fun _ => 0)))] := hD
            refine lv_iinc (v := 3) (lv' := [(2, .int 3), (0, .ref x), (1, .int p0)]) hx hb dX1_init_60 hl (k := 0) rfl (by decide) (by decide) rfl (fun ls hl => ?_)
            refine lv_goto (tgt := 34) hx hb dX1_init_63 (by decide) ?_
            refine lv_iload_n hx hb dX1_init_34 rfl (lv_at hl 0 rfl) ?_
            refine lv_iconst (v := 3) hx hb dX1_init_35 (by decide) ?_
            refine lv_icmp_ge (tgt := 66) hx hb dX1_init_36 (by decide) (fun c36_12 => ?_) (fun c36_12 => ?_)
            ·
              refine lv_aload_n hx hb dX1_init_66 rfl (lv_at hl 1 rfl) ?_
              refine lv_bipush (v := 16) hx hb dX1_init_67 (by decide) ?_
              refine va_newa (atype := .int) (N' := 16) (a0 := (16, .inl (fun _ => 0))) (ty := .int) hx hb (hts (.arrayClass .int) (by decide +kernel)) rfl hK hP hD hS hA (fun _ => rfl) (by decide) (by rfl) (by decide) (show 11 ≤ 11 by decide) (show 9234 + 16 ≤ 9250 by omega) dX1_init_69 (fun q69_13 kq69_13 H hK hP hD hS => ?_)
              have hK : va_K (dC, dI) vwCl [(kq26_2, .object RX0), (cb_5, .int), (cc_5, .int), (cb_8, .int), (cc_8, .int), (cb_11, .int), (cc_11, .int), (kq69_13, .int)] s := hK
              have hP : va_P (dC, dI) vwCl [(x, .inr (2, [.int 1, .ref q26_2, .null, .int 0, .int 0, .int 0, .int 0, .int 0])), (q26_2, .inl (kq26_2, 3, .inr (.inr (.inr (.inr (va_up (va_up (va_up (fun _ => none) 0 (some q44_4)) 1 (some q44_7)) 2 (some q44_10))))))), (q44_4, .inr (1, [.int 0, .ref b_5, .ref r_5, .int 0, .int 0])), (b_5, .inl (cb_5, 24, .inl (fun _ => 0))), (r_5, .inl (cc_5, 24, .inl (fun _ => 0))), (q44_7, .inr (1, [.int 1, .ref b_8, .ref r_8, .int 0, .int 0])), (b_8, .inl (cb_8, 24, .inl (fun _ => 0))), (r_8, .inl (cc_8, 24, .inl (fun _ => 0))), (q44_10, .inr (1, [.int 2, .ref b_11, .ref r_11, .int 0, .int 0])), (b_11, .inl (cb_11, 24, .inl (fun _ => 0))), (r_11, .inl (cc_11, 24, .inl (fun _ => 0))), (q69_13, .inl (kq69_13, 16, .inl (fun _ => 0)))] H := hP
              have hD : va_D A [(x, .inr (2, [.int 1, .ref q26_2, .null, .int 0, .int 0, .int 0, .int 0, .int 0])), (q26_2, .inl (kq26_2, 3, .inr (.inr (.inr (.inr (va_up (va_up (va_up (fun _ => none) 0 (some q44_4)) 1 (some q44_7)) 2 (some q44_10))))))), (q44_4, .inr (1, [.int 0, .ref b_5, .ref r_5, .int 0, .int 0])), (b_5, .inl (cb_5, 24, .inl (fun _ => 0))), (r_5, .inl (cc_5, 24, .inl (fun _ => 0))), (q44_7, .inr (1, [.int 1, .ref b_8, .ref r_8, .int 0, .int 0])), (b_8, .inl (cb_8, 24, .inl (fun _ => 0))), (r_8, .inl (cc_8, 24, .inl (fun _ => 0))), (q44_10, .inr (1, [.int 2, .ref b_11, .ref r_11, .int 0, .int 0])), (b_11, .inl (cb_11, 24, .inl (fun _ => 0))), (r_11, .inl (cc_11, 24, .inl (fun _ => 0))), (q69_13, .inl (kq69_13, 16, .inl (fun _ => 0)))] := hD
              refine W.widen (k := 11) (n := 9250) (by omega) (by omega) ?_
              refine va_putF (D := (dC, dI)) (ci := 2) (v := .ref q69_13) (ty := (.array .int)) (C := RX1) (T := TX1) (N := 8) hx hb hts (by decide +kernel) tyX1 tyX1_ok nmX1 hown hK hP hD hS 0 rfl rfl 2 (by decide) (hts (.fieldLink RX1 22 "ThreeFiles" "fed" "[I") (by decide +kernel)) (fun _ h9 => h9) rfl hin rfl (by decide +kernel) rfl rfl (Nat.le_of_ble_eq_true rfl) dX1_init_71 (fun H locs hP hD hS => ?_)
              have hP : va_P (dC, dI) vwCl [(x, .inr (2, [.int 1, .ref q26_2, .ref q69_13, .int 0, .int 0, .int 0, .int 0, .int 0])), (q26_2, .inl (kq26_2, 3, .inr (.inr (.inr (.inr (va_up (va_up (va_up (fun _ => none) 0 (some q44_4)) 1 (some q44_7)) 2 (some q44_10))))))), (q44_4, .inr (1, [.int 0, .ref b_5, .ref r_5, .int 0, .int 0])), (b_5, .inl (cb_5, 24, .inl (fun _ => 0))), (r_5, .inl (cc_5, 24, .inl (fun _ => 0))), (q44_7, .inr (1, [.int 1, .ref b_8, .ref r_8, .int 0, .int 0])), (b_8, .inl (cb_8, 24, .inl (fun _ => 0))), (r_8, .inl (cc_8, 24, .inl (fun _ => 0))), (q44_10, .inr (1, [.int 2, .ref b_11, .ref r_11, .int 0, .int 0])), (b_11, .inl (cb_11, 24, .inl (fun _ => 0))), (r_11, .inl (cc_11, 24, .inl (fun _ => 0))), (q69_13, .inl (kq69_13, 16, .inl (fun _ => 0)))] H := hP
              have hD : va_D A [(x, .inr (2, [.int 1, .ref q26_2, .ref q69_13, .int 0, .int 0, .int 0, .int 0, .int 0])), (q26_2, .inl (kq26_2, 3, .inr (.inr (.inr (.inr (va_up (va_up (va_up (fun _ => none) 0 (some q44_4)) 1 (some q44_7)) 2 (some q44_10))))))), (q44_4, .inr (1, [.int 0, .ref b_5, .ref r_5, .int 0, .int 0])), (b_5, .inl (cb_5, 24, .inl (fun _ => 0))), (r_5, .inl (cc_5, 24, .inl (fun _ => 0))), (q44_7, .inr (1, [.int 1, .ref b_8, .ref r_8, .int 0, .int 0])), (b_8, .inl (cb_8, 24, .inl (fun _ => 0))), (r_8, .inl (cc_8, 24, .inl (fun _ => 0))), (q44_10, .inr (1, [.int 2, .ref b_11, .ref r_11, .int 0, .int 0])), (b_11, .inl (cb_11, 24, .inl (fun _ => 0))), (r_11, .inl (cc_11, 24, .inl (fun _ => 0))), (q69_13, .inl (kq69_13, 16, .inl (fun _ => 0)))] := hD
              have hP9 := hP.sub (ws' := [(x, .inr (2, [.int 1, .ref q26_2, .ref q69_13, .int 0, .int 0, .int 0, .int 0, .int 0])), (q26_2, .inl (kq26_2, 3, .inr (.inr (.inr (.inr (va_up (va_up (va_up (fun _ => none) 0 (some q44_4)) 1 (some q44_7)) 2 (some q44_10))))))), (q44_4, .inr (1, [.int 0, .ref b_5, .ref r_5, .int 0, .int 0])), (q44_7, .inr (1, [.int 1, .ref b_8, .ref r_8, .int 0, .int 0])), (q44_10, .inr (1, [.int 2, .ref b_11, .ref r_11, .int 0, .int 0])), (q69_13, .inl (kq69_13, 16, .inl (fun _ => 0))), (b_5, .inl (cb_5, 24, .inl (fun _ => 0))), (r_5, .inl (cc_5, 24, .inl (fun _ => 0))), (b_8, .inl (cb_8, 24, .inl (fun _ => 0))), (r_8, .inl (cc_8, 24, .inl (fun _ => 0))), (b_11, .inl (cb_11, 24, .inl (fun _ => 0))), (r_11, .inl (cc_11, 24, .inl (fun _ => 0)))]) [0, 1, 2, 5, 8, 11, 3, 4, 6, 7, 9, 10] rfl
              have hD9 := hD.sub (ws' := [(x, .inr (2, [.int 1, .ref q26_2, .ref q69_13, .int 0, .int 0, .int 0, .int 0, .int 0])), (q26_2, .inl (kq26_2, 3, .inr (.inr (.inr (.inr (va_up (va_up (va_up (fun _ => none) 0 (some q44_4)) 1 (some q44_7)) 2 (some q44_10))))))), (q44_4, .inr (1, [.int 0, .ref b_5, .ref r_5, .int 0, .int 0])), (q44_7, .inr (1, [.int 1, .ref b_8, .ref r_8, .int 0, .int 0])), (q44_10, .inr (1, [.int 2, .ref b_11, .ref r_11, .int 0, .int 0])), (q69_13, .inl (kq69_13, 16, .inl (fun _ => 0))), (b_5, .inl (cb_5, 24, .inl (fun _ => 0))), (r_5, .inl (cc_5, 24, .inl (fun _ => 0))), (b_8, .inl (cb_8, 24, .inl (fun _ => 0))), (r_8, .inl (cc_8, 24, .inl (fun _ => 0))), (b_11, .inl (cb_11, 24, .inl (fun _ => 0))), (r_11, .inl (cc_11, 24, .inl (fun _ => 0)))]) [0, 1, 2, 5, 8, 11, 3, 4, 6, 7, 9, 10] (by decide) rfl
              have hK9 := hK.sub (tys' := [(kq26_2, .object RX0), (kq69_13, .int), (cb_5, .int), (cc_5, .int), (cb_8, .int), (cc_8, .int), (cb_11, .int), (cc_11, .int)]) [0, 7, 1, 2, 3, 4, 5, 6] rfl
              refine W.widen (k := 11) (n := 9250) (by omega) (by omega) ?_
              exact W.vret hx hb hr (fun t ht hW => ⟨⟨1, rfl, (pc_a hpc), 24, q26_2, q44_4, q44_7, q44_10, q69_13, b_5, r_5, b_8, r_8, b_11, r_11, kq26_2, kq69_13, cb_5, cc_5, cb_8, cc_8, cb_11, cc_11, by omega, by rw [ht]; exact hP9, va_K.moved hW.alike hK9, hD9⟩, hS.F ht⟩) hS.2.2 dX1_init_74
            · exact absurd (by decide) c36_12
    · exact absurd hpc c7_1
  ·
    refine lv_aload_n hx hb dX1_init_0 rfl (lv_at hl 0 rfl) ?_
    refine W.objInit hx hb hown (hts (.methodLink RX1 1 objectInit) (by decide +kernel)) (hts (.instanceMethod objectInit) (by decide +kernel)) (hts (.code objectInit ⟨#[0xb1]⟩ 1 none) (by decide +kernel)) rfl (by rw [hml]; exact hl.1) rfl dX1_init_1 (Nat.le_of_ble_eq_true rfl) (Nat.le_of_ble_eq_true rfl) ?_
    refine W.eq (g2 := F0 m 4 ls []) rfl ?_
    refine lv_aload_n hx hb dX1_init_4 rfl (lv_at hl 0 rfl) ?_
    refine lv_iload_n hx hb dX1_init_5 rfl (lv_at hl 1 rfl) ?_
    refine lv_iconst (v := 1) hx hb dX1_init_6 (by decide) ?_
    refine lv_icmp_lt (tgt := 20) hx hb dX1_init_7 (by decide) (fun c7_14 => ?_) (fun c7_14 => ?_)
    · exact absurd c7_14 (q_big hpc)
    ·
      refine lv_iload_n hx hb dX1_init_10 rfl (lv_at hl 1 rfl) ?_
      refine lv_bipush (v := 64) hx hb dX1_init_11 (by decide) ?_
      refine lv_icmp_gt (tgt := 20) hx hb dX1_init_13 (by decide) (fun c13_15 => ?_) (fun c13_15 => ?_)
      ·
        refine lv_iconst (v := 1) hx hb dX1_init_20 (by decide) ?_
        refine va_putF (D := (dC, dI)) (ci := 2) (v := .int 1) (ty := .int) (C := RX1) (T := TX1) (N := 8) hx hb hts (by decide +kernel) tyX1 tyX1_ok nmX1 hown hK hP hD hS 0 rfl rfl 0 (by decide) (hts (.fieldLink RX1 9 "ThreeFiles" "pieces" "I") (by decide +kernel)) (fun _ h9 => h9) rfl hin rfl (by decide +kernel) rfl rfl (Nat.le_of_ble_eq_true rfl) dX1_init_21 (fun H locs hP hD hS => ?_)
        have hP : va_P (dC, dI) vwCl [(x, .inr (2, [.int 1, .null, .null, .int 0, .int 0, .int 0, .int 0, .int 0]))] H := hP
        have hD : va_D A [(x, .inr (2, [.int 1, .null, .null, .int 0, .int 0, .int 0, .int 0, .int 0]))] := hD
        refine lv_aload_n hx hb dX1_init_24 rfl (lv_at hl 0 rfl) ?_
        refine lv_iconst (v := 3) hx hb dX1_init_25 (by decide) ?_
        refine va_newq (C := RX0) (N' := 3) hx hb hown (hts (.classLink RX1 13 RX0) (by decide +kernel)) hN.ao hK hP hD hS hA (by decide) (by rfl) (by decide) (show 1 ≤ 11 by decide) (show 0 + 3 ≤ 9250 by decide) dX1_init_26 (fun q26_16 kq26_16 H hK hP hD hS => ?_)
        have hK : va_K (dC, dI) vwCl [(kq26_16, .object RX0)] s := hK
        have hP : va_P (dC, dI) vwCl [(x, .inr (2, [.int 1, .null, .null, .int 0, .int 0, .int 0, .int 0, .int 0])), (q26_16, .inl (kq26_16, 3, .inr (.inr (.inr (.inr (fun _ => none))))))] H := hP
        have hD : va_D A [(x, .inr (2, [.int 1, .null, .null, .int 0, .int 0, .int 0, .int 0, .int 0])), (q26_16, .inl (kq26_16, 3, .inr (.inr (.inr (.inr (fun _ => none))))))] := hD
        refine W.widen (k := 1) (n := 3) (by omega) (by omega) ?_
        refine va_putF (D := (dC, dI)) (ci := 2) (v := .ref q26_16) (ty := (.array (.object "ThreeFiles$StoredFile"))) (C := RX1) (T := TX1) (N := 8) hx hb hts (by decide +kernel) tyX1 tyX1_ok nmX1 hown hK hP hD hS 0 rfl rfl 1 (by decide) (hts (.fieldLink RX1 15 "ThreeFiles" "files" "[LThreeFiles$StoredFile;") (by decide +kernel)) (fun _ h9 => h9) rfl hin rfl (by decide +kernel) rfl rfl (Nat.le_of_ble_eq_true rfl) dX1_init_29 (fun H locs hP hD hS => ?_)
        have hP : va_P (dC, dI) vwCl [(x, .inr (2, [.int 1, .ref q26_16, .null, .int 0, .int 0, .int 0, .int 0, .int 0])), (q26_16, .inl (kq26_16, 3, .inr (.inr (.inr (.inr (fun _ => none))))))] H := hP
        have hD : va_D A [(x, .inr (2, [.int 1, .ref q26_16, .null, .int 0, .int 0, .int 0, .int 0, .int 0])), (q26_16, .inl (kq26_16, 3, .inr (.inr (.inr (.inr (fun _ => none))))))] := hD
        refine lv_iconst (v := 0) hx hb dX1_init_32 (by decide) ?_
        refine lv_istore_n (lv' := [(2, .int 0), (0, .ref x), (1, .int p0)]) hx hb dX1_init_33 rfl hl (by decide) rfl (fun ls hl => ?_)
        refine lv_iload_n hx hb dX1_init_34 rfl (lv_at hl 0 rfl) ?_
        refine lv_iconst (v := 3) hx hb dX1_init_35 (by decide) ?_
        refine lv_icmp_ge (tgt := 66) hx hb dX1_init_36 (by decide) (fun c36_17 => ?_) (fun c36_17 => ?_)
        · exact absurd c36_17 (by decide)
        ·
          refine lv_aload_n hx hb dX1_init_39 rfl (lv_at hl 1 rfl) ?_
          refine va_get (D := (dC, dI)) (ci := 2) (v := .ref q26_16) (C := RX1) (T := TX1) (N := 8) hx hb hts (by decide +kernel) hown hK hP 0 rfl rfl 1 (by decide) (hts (.fieldLink RX1 15 "ThreeFiles" "files" "[LThreeFiles$StoredFile;") (by decide +kernel)) (fun _ h9 => h9) rfl dX1_init_40 ?_
          refine lv_iload_n hx hb dX1_init_43 rfl (lv_at hl 0 rfl) ?_
          refine va_new (ci := 1) (fs := [.int 0, .null, .null, .int 0, .int 0]) (C := RX0) (T := TX0) (N := 5) hx hb hts (by decide +kernel) tyX0 tyX0_ok hown (hts (.classLink RX1 13 RX0) (by decide +kernel)) (hts (.instantiable RX0 5) (by decide +kernel)) (hts (.initialized RX0) (by decide +kernel)) hK hP hD hS hA rfl (fun j hj => by rcases (show j = 0 ∨ j = 1 ∨ j = 2 ∨ j = 3 ∨ j = 4 by omega) with rfl | rfl | rfl | rfl | rfl <;> rfl) (show 2 ≤ 11 by decide) (show 3 + 5 ≤ 9250 by decide) dX1_init_44 (fun q44_18 H hP hD hS => ?_)
          have hP : va_P (dC, dI) vwCl [(x, .inr (2, [.int 1, .ref q26_16, .null, .int 0, .int 0, .int 0, .int 0, .int 0])), (q26_16, .inl (kq26_16, 3, .inr (.inr (.inr (.inr (fun _ => none)))))), (q44_18, .inr (1, [.int 0, .null, .null, .int 0, .int 0]))] H := hP
          have hD : va_D A [(x, .inr (2, [.int 1, .ref q26_16, .null, .int 0, .int 0, .int 0, .int 0, .int 0])), (q26_16, .inl (kq26_16, 3, .inr (.inr (.inr (.inr (fun _ => none)))))), (q44_18, .inr (1, [.int 0, .null, .null, .int 0, .int 0]))] := hD
          refine W.widen (k := 2) (n := 8) (by omega) (by omega) ?_
          refine lv_dup hx hb dX1_init_47 rfl ?_
          refine lv_iload_n hx hb dX1_init_48 rfl (lv_at hl 0 rfl) ?_
          refine lv_aload_n hx hb dX1_init_49 rfl (lv_at hl 1 rfl) ?_
          refine va_get (D := (dC, dI)) (ci := 2) (v := .int 1) (C := RX1) (T := TX1) (N := 8) hx hb hts (by decide +kernel) hown hK hP 0 rfl rfl 0 (by decide) (hts (.fieldLink RX1 9 "ThreeFiles" "pieces" "I") (by decide +kernel)) (fun _ h9 => h9) rfl dX1_init_50 ?_
          refine lv_bipush (v := 24) hx hb dX1_init_53 (by decide) ?_
          refine lv_imul hx hb dX1_init_55 ?_
          refine W.eq (g2 := F0 m 56 ls [.int 24, .int 0, .ref q44_18, .ref q44_18, .int 0, .ref q26_16]) (by rfl) ?_
          have hPc := hP.sub (ws' := [(q44_18, .inr (1, [.int 0, .null, .null, .int 0, .int 0]))]) [2] rfl
          have hKc := hK.sub (tys' := []) [] rfl
          have hDc := hD.sub (ws' := [(q44_18, .inr (1, [.int 0, .null, .null, .int 0, .int 0]))]) [2] (by decide) rfl
          have hFc := va_free (wc := [(q44_18, .inr (1, [.int 0, .null, .null, .int 0, .int 0]))]) hD hS hA [2] rfl
          refine va_callv (va_runIN (As := [.int 0, .int 24]) (rest := [.ref q44_18, .int 0, .ref q26_16]) ⟨hx, hb, hml, hown, hts⟩ (c_X0_init l dC dI H.size q44_18 0 24 (by decide)) ⟨va_cnB 2 hts gX1_init_X0_init_n19 rfl rfl rfl hN.n19 (hts (.initialized RX0) (by decide +kernel)) (by decide +kernel) ⟨Nat.le_of_ble_eq_true rfl, Nat.le_of_ble_eq_true rfl⟩, rfl, hts (.instanceMethod yX0_init) (by decide +kernel)⟩ ⟨fun a U g mk q => by obtain ⟨q0, q1, qP, qK, qD⟩ := q; exact ⟨q0, q1, qP, va_K.moved (u := U) (U := U.calling g mk a) (Vm.Alike.refl U.vm) qK, qD⟩, fun U hU hW => ⟨rfl, by rw [hU], by rw [hU]; exact hPc, va_K.moved hW.alike hKc, hDc.weaken (fun _ _ _ _ => trivial)⟩⟩ rfl rfl hl.1 rfl (lv_room (Nat.le_of_ble_eq_true rfl)) dX1_init_56 ⟨Nat.le_of_ble_eq_true rfl, Nat.le_of_ble_eq_true rfl⟩) hS (fun q _ h => hFc q h) hFc (fun u t H1 locs ht hvm hw hB hz1 hk1 hS => ?_)
          obtain ⟨b_19, r_19, cb_19, cc_19, hP1, hK1, hD1⟩ := hB
          rw [ht] at hP1
          have hK1 := va_K.moved hvm.symm hK1
          obtain ⟨hP, hD⟩ := va_join (wr := [(x, .inr (2, [.int 1, .ref q26_16, .null, .int 0, .int 0, .int 0, .int 0, .int 0])), (q26_16, .inl (kq26_16, 3, .inr (.inr (.inr (.inr (fun _ => none))))))]) (w1 := [(q44_18, .inr (1, [.int 0, .ref b_19, .ref r_19, .int 0, .int 0])), (b_19, .inl (cb_19, 24, .inl (fun _ => 0))), (r_19, .inl (cc_19, 24, .inl (fun _ => 0)))]) hP hD [2] [0, 1] rfl rfl (by decide) (by decide) hk1 hFc hP1 hD1
          have hK := (hK.sub (tys' := [(kq26_16, .object RX0)]) [0] rfl).app hK1
          generalize H1 = H at hP hS ⊢
          have hP : va_P (dC, dI) vwCl [(x, .inr (2, [.int 1, .ref q26_16, .null, .int 0, .int 0, .int 0, .int 0, .int 0])), (q26_16, .inl (kq26_16, 3, .inr (.inr (.inr (.inr (fun _ => none)))))), (q44_18, .inr (1, [.int 0, .ref b_19, .ref r_19, .int 0, .int 0])), (b_19, .inl (cb_19, 24, .inl (fun _ => 0))), (r_19, .inl (cc_19, 24, .inl (fun _ => 0)))] H := hP
          have hD : va_D A [(x, .inr (2, [.int 1, .ref q26_16, .null, .int 0, .int 0, .int 0, .int 0, .int 0])), (q26_16, .inl (kq26_16, 3, .inr (.inr (.inr (.inr (fun _ => none)))))), (q44_18, .inr (1, [.int 0, .ref b_19, .ref r_19, .int 0, .int 0])), (b_19, .inl (cb_19, 24, .inl (fun _ => 0))), (r_19, .inl (cc_19, 24, .inl (fun _ => 0)))] := hD
          have hK : va_K (dC, dI) vwCl [(kq26_16, .object RX0), (cb_19, .int), (cc_19, .int)] s := hK
          refine W.widen (k := 4) (n := 3080) (by omega) (by omega) ?_
          refine va_astq hx hb hK hP hD hS 1 0 2 1 rfl rfl rfl rfl (i := 0) (by unfold vp_in; decide) dX1_init_59 (fun H locs hP hD hS => ?_)
          have hP : va_P (dC, dI) vwCl [(x, .inr (2, [.int 1, .ref q26_16, .null, .int 0, .int 0, .int 0, .int 0, .int 0])), (q26_16, .inl (kq26_16, 3, .inr (.inr (.inr (.inr (va_up (fun _ => none) 0 (some q44_18))))))), (q44_18, .inr (1, [.int 0, .ref b_19, .ref r_19, .int 0, .int 0])), (b_19, .inl (cb_19, 24, .inl (fun _ => 0))), (r_19, .inl (cc_19, 24, .inl (fun _ => 0)))] H := hP
          have hD : va_D A [(x, .inr (2, [.int 1, .ref q26_16, .null, .int 0, .int 0, .int 0, .int 0, .int 0])), (q26_16, .inl (kq26_16, 3, .inr (.inr (.inr (.inr (va_up (fun _ => none) 0 (some q44_18))))))), (q44_18, .inr (1, [.int 0, .ref b_19, .ref r_19, .int 0, .int 0])), (b_19, .inl (cb_19, 24, .inl (fun _ => 0))), (r_19, .inl (cc_19, 24, .inl (fun _ => 0)))] := hD
          refine lv_iinc (v := 1) (lv' := [(2, .int 1), (0, .ref x), (1, .int p0)]) hx hb dX1_init_60 hl (k := 0) rfl (by decide) (by decide) rfl (fun ls hl => ?_)
          refine lv_goto (tgt := 34) hx hb dX1_init_63 (by decide) ?_
          refine lv_iload_n hx hb dX1_init_34 rfl (lv_at hl 0 rfl) ?_
          refine lv_iconst (v := 3) hx hb dX1_init_35 (by decide) ?_
          refine lv_icmp_ge (tgt := 66) hx hb dX1_init_36 (by decide) (fun c36_20 => ?_) (fun c36_20 => ?_)
          · exact absurd c36_20 (by decide)
          ·
            refine lv_aload_n hx hb dX1_init_39 rfl (lv_at hl 1 rfl) ?_
            refine va_get (D := (dC, dI)) (ci := 2) (v := .ref q26_16) (C := RX1) (T := TX1) (N := 8) hx hb hts (by decide +kernel) hown hK hP 0 rfl rfl 1 (by decide) (hts (.fieldLink RX1 15 "ThreeFiles" "files" "[LThreeFiles$StoredFile;") (by decide +kernel)) (fun _ h9 => h9) rfl dX1_init_40 ?_
            refine lv_iload_n hx hb dX1_init_43 rfl (lv_at hl 0 rfl) ?_
            refine va_new (ci := 1) (fs := [.int 0, .null, .null, .int 0, .int 0]) (C := RX0) (T := TX0) (N := 5) hx hb hts (by decide +kernel) tyX0 tyX0_ok hown (hts (.classLink RX1 13 RX0) (by decide +kernel)) (hts (.instantiable RX0 5) (by decide +kernel)) (hts (.initialized RX0) (by decide +kernel)) hK hP hD hS hA rfl (fun j hj => by rcases (show j = 0 ∨ j = 1 ∨ j = 2 ∨ j = 3 ∨ j = 4 by omega) with rfl | rfl | rfl | rfl | rfl <;> rfl) (show 5 ≤ 11 by decide) (show 3080 + 5 ≤ 9250 by decide) dX1_init_44 (fun q44_21 H hP hD hS => ?_)
            have hP : va_P (dC, dI) vwCl [(x, .inr (2, [.int 1, .ref q26_16, .null, .int 0, .int 0, .int 0, .int 0, .int 0])), (q26_16, .inl (kq26_16, 3, .inr (.inr (.inr (.inr (va_up (fun _ => none) 0 (some q44_18))))))), (q44_18, .inr (1, [.int 0, .ref b_19, .ref r_19, .int 0, .int 0])), (b_19, .inl (cb_19, 24, .inl (fun _ => 0))), (r_19, .inl (cc_19, 24, .inl (fun _ => 0))), (q44_21, .inr (1, [.int 0, .null, .null, .int 0, .int 0]))] H := hP
            have hD : va_D A [(x, .inr (2, [.int 1, .ref q26_16, .null, .int 0, .int 0, .int 0, .int 0, .int 0])), (q26_16, .inl (kq26_16, 3, .inr (.inr (.inr (.inr (va_up (fun _ => none) 0 (some q44_18))))))), (q44_18, .inr (1, [.int 0, .ref b_19, .ref r_19, .int 0, .int 0])), (b_19, .inl (cb_19, 24, .inl (fun _ => 0))), (r_19, .inl (cc_19, 24, .inl (fun _ => 0))), (q44_21, .inr (1, [.int 0, .null, .null, .int 0, .int 0]))] := hD
            refine W.widen (k := 5) (n := 3085) (by omega) (by omega) ?_
            refine lv_dup hx hb dX1_init_47 rfl ?_
            refine lv_iload_n hx hb dX1_init_48 rfl (lv_at hl 0 rfl) ?_
            refine lv_aload_n hx hb dX1_init_49 rfl (lv_at hl 1 rfl) ?_
            refine va_get (D := (dC, dI)) (ci := 2) (v := .int 1) (C := RX1) (T := TX1) (N := 8) hx hb hts (by decide +kernel) hown hK hP 0 rfl rfl 0 (by decide) (hts (.fieldLink RX1 9 "ThreeFiles" "pieces" "I") (by decide +kernel)) (fun _ h9 => h9) rfl dX1_init_50 ?_
            refine lv_bipush (v := 24) hx hb dX1_init_53 (by decide) ?_
            refine lv_imul hx hb dX1_init_55 ?_
            refine W.eq (g2 := F0 m 56 ls [.int 24, .int 1, .ref q44_21, .ref q44_21, .int 1, .ref q26_16]) (by rfl) ?_
            have hPc := hP.sub (ws' := [(q44_21, .inr (1, [.int 0, .null, .null, .int 0, .int 0]))]) [5] rfl
            have hKc := hK.sub (tys' := []) [] rfl
            have hDc := hD.sub (ws' := [(q44_21, .inr (1, [.int 0, .null, .null, .int 0, .int 0]))]) [5] (by decide) rfl
            have hFc := va_free (wc := [(q44_21, .inr (1, [.int 0, .null, .null, .int 0, .int 0]))]) hD hS hA [5] rfl
            refine va_callv (va_runIN (As := [.int 1, .int 24]) (rest := [.ref q44_21, .int 1, .ref q26_16]) ⟨hx, hb, hml, hown, hts⟩ (c_X0_init l dC dI H.size q44_21 1 24 (by decide)) ⟨va_cnB 2 hts gX1_init_X0_init_n19 rfl rfl rfl hN.n19 (hts (.initialized RX0) (by decide +kernel)) (by decide +kernel) ⟨Nat.le_of_ble_eq_true rfl, Nat.le_of_ble_eq_true rfl⟩, rfl, hts (.instanceMethod yX0_init) (by decide +kernel)⟩ ⟨fun a U g mk q => by obtain ⟨q0, q1, qP, qK, qD⟩ := q; exact ⟨q0, q1, qP, va_K.moved (u := U) (U := U.calling g mk a) (Vm.Alike.refl U.vm) qK, qD⟩, fun U hU hW => ⟨rfl, by rw [hU], by rw [hU]; exact hPc, va_K.moved hW.alike hKc, hDc.weaken (fun _ _ _ _ => trivial)⟩⟩ rfl rfl hl.1 rfl (lv_room (Nat.le_of_ble_eq_true rfl)) dX1_init_56 ⟨Nat.le_of_ble_eq_true rfl, Nat.le_of_ble_eq_true rfl⟩) hS (fun q _ h => hFc q h) hFc (fun u t H1 locs ht hvm hw hB hz1 hk1 hS => ?_)
            obtain ⟨b_22, r_22, cb_22, cc_22, hP1, hK1, hD1⟩ := hB
            rw [ht] at hP1
            have hK1 := va_K.moved hvm.symm hK1
            obtain ⟨hP, hD⟩ := va_join (wr := [(x, .inr (2, [.int 1, .ref q26_16, .null, .int 0, .int 0, .int 0, .int 0, .int 0])), (q26_16, .inl (kq26_16, 3, .inr (.inr (.inr (.inr (va_up (fun _ => none) 0 (some q44_18))))))), (q44_18, .inr (1, [.int 0, .ref b_19, .ref r_19, .int 0, .int 0])), (b_19, .inl (cb_19, 24, .inl (fun _ => 0))), (r_19, .inl (cc_19, 24, .inl (fun _ => 0)))]) (w1 := [(q44_21, .inr (1, [.int 1, .ref b_22, .ref r_22, .int 0, .int 0])), (b_22, .inl (cb_22, 24, .inl (fun _ => 0))), (r_22, .inl (cc_22, 24, .inl (fun _ => 0)))]) hP hD [5] [0, 1, 2, 3, 4] rfl rfl (by decide) (by decide) hk1 hFc hP1 hD1
            have hK := (hK.sub (tys' := [(kq26_16, .object RX0), (cb_19, .int), (cc_19, .int)]) [0, 1, 2] rfl).app hK1
            generalize H1 = H at hP hS ⊢
            have hP : va_P (dC, dI) vwCl [(x, .inr (2, [.int 1, .ref q26_16, .null, .int 0, .int 0, .int 0, .int 0, .int 0])), (q26_16, .inl (kq26_16, 3, .inr (.inr (.inr (.inr (va_up (fun _ => none) 0 (some q44_18))))))), (q44_18, .inr (1, [.int 0, .ref b_19, .ref r_19, .int 0, .int 0])), (b_19, .inl (cb_19, 24, .inl (fun _ => 0))), (r_19, .inl (cc_19, 24, .inl (fun _ => 0))), (q44_21, .inr (1, [.int 1, .ref b_22, .ref r_22, .int 0, .int 0])), (b_22, .inl (cb_22, 24, .inl (fun _ => 0))), (r_22, .inl (cc_22, 24, .inl (fun _ => 0)))] H := hP
            have hD : va_D A [(x, .inr (2, [.int 1, .ref q26_16, .null, .int 0, .int 0, .int 0, .int 0, .int 0])), (q26_16, .inl (kq26_16, 3, .inr (.inr (.inr (.inr (va_up (fun _ => none) 0 (some q44_18))))))), (q44_18, .inr (1, [.int 0, .ref b_19, .ref r_19, .int 0, .int 0])), (b_19, .inl (cb_19, 24, .inl (fun _ => 0))), (r_19, .inl (cc_19, 24, .inl (fun _ => 0))), (q44_21, .inr (1, [.int 1, .ref b_22, .ref r_22, .int 0, .int 0])), (b_22, .inl (cb_22, 24, .inl (fun _ => 0))), (r_22, .inl (cc_22, 24, .inl (fun _ => 0)))] := hD
            have hK : va_K (dC, dI) vwCl [(kq26_16, .object RX0), (cb_19, .int), (cc_19, .int), (cb_22, .int), (cc_22, .int)] s := hK
            refine W.widen (k := 7) (n := 6157) (by omega) (by omega) ?_
            refine va_astq hx hb hK hP hD hS 1 0 5 1 rfl rfl rfl rfl (i := 1) (by unfold vp_in; decide) dX1_init_59 (fun H locs hP hD hS => ?_)
            have hP : va_P (dC, dI) vwCl [(x, .inr (2, [.int 1, .ref q26_16, .null, .int 0, .int 0, .int 0, .int 0, .int 0])), (q26_16, .inl (kq26_16, 3, .inr (.inr (.inr (.inr (va_up (va_up (fun _ => none) 0 (some q44_18)) 1 (some q44_21))))))), (q44_18, .inr (1, [.int 0, .ref b_19, .ref r_19, .int 0, .int 0])), (b_19, .inl (cb_19, 24, .inl (fun _ => 0))), (r_19, .inl (cc_19, 24, .inl (fun _ => 0))), (q44_21, .inr (1, [.int 1, .ref b_22, .ref r_22, .int 0, .int 0])), (b_22, .inl (cb_22, 24, .inl (fun _ => 0))), (r_22, .inl (cc_22, 24, .inl (fun _ => 0)))] H := hP
            have hD : va_D A [(x, .inr (2, [.int 1, .ref q26_16, .null, .int 0, .int 0, .int 0, .int 0, .int 0])), (q26_16, .inl (kq26_16, 3, .inr (.inr (.inr (.inr (va_up (va_up (fun _ => none) 0 (some q44_18)) 1 (some q44_21))))))), (q44_18, .inr (1, [.int 0, .ref b_19, .ref r_19, .int 0, .int 0])), (b_19, .inl (cb_19, 24, .inl (fun _ => 0))), (r_19, .inl (cc_19, 24, .inl (fun _ => 0))), (q44_21, .inr (1, [.int 1, .ref b_22, .ref r_22, .int 0, .int 0])), (b_22, .inl (cb_22, 24, .inl (fun _ => 0))), (r_22, .inl (cc_22, 24, .inl (fun _ => 0)))] := hD
            refine lv_iinc (v := 2) (lv' := [(2, .int 2), (0, .ref x), (1, .int p0)]) hx hb dX1_init_60 hl (k := 0) rfl (by decide) (by decide) rfl (fun ls hl => ?_)
            refine lv_goto (tgt := 34) hx hb dX1_init_63 (by decide) ?_
            refine lv_iload_n hx hb dX1_init_34 rfl (lv_at hl 0 rfl) ?_
            refine lv_iconst (v := 3) hx hb dX1_init_35 (by decide) ?_
            refine lv_icmp_ge (tgt := 66) hx hb dX1_init_36 (by decide) (fun c36_23 => ?_) (fun c36_23 => ?_)
            · exact absurd c36_23 (by decide)
            ·
              refine lv_aload_n hx hb dX1_init_39 rfl (lv_at hl 1 rfl) ?_
              refine va_get (D := (dC, dI)) (ci := 2) (v := .ref q26_16) (C := RX1) (T := TX1) (N := 8) hx hb hts (by decide +kernel) hown hK hP 0 rfl rfl 1 (by decide) (hts (.fieldLink RX1 15 "ThreeFiles" "files" "[LThreeFiles$StoredFile;") (by decide +kernel)) (fun _ h9 => h9) rfl dX1_init_40 ?_
              refine lv_iload_n hx hb dX1_init_43 rfl (lv_at hl 0 rfl) ?_
              refine va_new (ci := 1) (fs := [.int 0, .null, .null, .int 0, .int 0]) (C := RX0) (T := TX0) (N := 5) hx hb hts (by decide +kernel) tyX0 tyX0_ok hown (hts (.classLink RX1 13 RX0) (by decide +kernel)) (hts (.instantiable RX0 5) (by decide +kernel)) (hts (.initialized RX0) (by decide +kernel)) hK hP hD hS hA rfl (fun j hj => by rcases (show j = 0 ∨ j = 1 ∨ j = 2 ∨ j = 3 ∨ j = 4 by omega) with rfl | rfl | rfl | rfl | rfl <;> rfl) (show 8 ≤ 11 by decide) (show 6157 + 5 ≤ 9250 by decide) dX1_init_44 (fun q44_24 H hP hD hS => ?_)
              have hP : va_P (dC, dI) vwCl [(x, .inr (2, [.int 1, .ref q26_16, .null, .int 0, .int 0, .int 0, .int 0, .int 0])), (q26_16, .inl (kq26_16, 3, .inr (.inr (.inr (.inr (va_up (va_up (fun _ => none) 0 (some q44_18)) 1 (some q44_21))))))), (q44_18, .inr (1, [.int 0, .ref b_19, .ref r_19, .int 0, .int 0])), (b_19, .inl (cb_19, 24, .inl (fun _ => 0))), (r_19, .inl (cc_19, 24, .inl (fun _ => 0))), (q44_21, .inr (1, [.int 1, .ref b_22, .ref r_22, .int 0, .int 0])), (b_22, .inl (cb_22, 24, .inl (fun _ => 0))), (r_22, .inl (cc_22, 24, .inl (fun _ => 0))), (q44_24, .inr (1, [.int 0, .null, .null, .int 0, .int 0]))] H := hP
              have hD : va_D A [(x, .inr (2, [.int 1, .ref q26_16, .null, .int 0, .int 0, .int 0, .int 0, .int 0])), (q26_16, .inl (kq26_16, 3, .inr (.inr (.inr (.inr (va_up (va_up (fun _ => none) 0 (some q44_18)) 1 (some q44_21))))))), (q44_18, .inr (1, [.int 0, .ref b_19, .ref r_19, .int 0, .int 0])), (b_19, .inl (cb_19, 24, .inl (fun _ => 0))), (r_19, .inl (cc_19, 24, .inl (fun _ => 0))), (q44_21, .inr (1, [.int 1, .ref b_22, .ref r_22, .int 0, .int 0])), (b_22, .inl (cb_22, 24, .inl (fun _ => 0))), (r_22, .inl (cc_22, 24, .inl (fun _ => 0))), (q44_24, .inr (1, [.int 0, .null, .null, .int 0, .int 0]))] := hD
              refine W.widen (k := 8) (n := 6162) (by omega) (by omega) ?_
              refine lv_dup hx hb dX1_init_47 rfl ?_
              refine lv_iload_n hx hb dX1_init_48 rfl (lv_at hl 0 rfl) ?_
              refine lv_aload_n hx hb dX1_init_49 rfl (lv_at hl 1 rfl) ?_
              refine va_get (D := (dC, dI)) (ci := 2) (v := .int 1) (C := RX1) (T := TX1) (N := 8) hx hb hts (by decide +kernel) hown hK hP 0 rfl rfl 0 (by decide) (hts (.fieldLink RX1 9 "ThreeFiles" "pieces" "I") (by decide +kernel)) (fun _ h9 => h9) rfl dX1_init_50 ?_
              refine lv_bipush (v := 24) hx hb dX1_init_53 (by decide) ?_
              refine lv_imul hx hb dX1_init_55 ?_
              refine W.eq (g2 := F0 m 56 ls [.int 24, .int 2, .ref q44_24, .ref q44_24, .int 2, .ref q26_16]) (by rfl) ?_
              have hPc := hP.sub (ws' := [(q44_24, .inr (1, [.int 0, .null, .null, .int 0, .int 0]))]) [8] rfl
              have hKc := hK.sub (tys' := []) [] rfl
              have hDc := hD.sub (ws' := [(q44_24, .inr (1, [.int 0, .null, .null, .int 0, .int 0]))]) [8] (by decide) rfl
              have hFc := va_free (wc := [(q44_24, .inr (1, [.int 0, .null, .null, .int 0, .int 0]))]) hD hS hA [8] rfl
              refine va_callv (va_runIN (As := [.int 2, .int 24]) (rest := [.ref q44_24, .int 2, .ref q26_16]) ⟨hx, hb, hml, hown, hts⟩ (c_X0_init l dC dI H.size q44_24 2 24 (by decide)) ⟨va_cnB 2 hts gX1_init_X0_init_n19 rfl rfl rfl hN.n19 (hts (.initialized RX0) (by decide +kernel)) (by decide +kernel) ⟨Nat.le_of_ble_eq_true rfl, Nat.le_of_ble_eq_true rfl⟩, rfl, hts (.instanceMethod yX0_init) (by decide +kernel)⟩ ⟨fun a U g mk q => by obtain ⟨q0, q1, qP, qK, qD⟩ := q; exact ⟨q0, q1, qP, va_K.moved (u := U) (U := U.calling g mk a) (Vm.Alike.refl U.vm) qK, qD⟩, fun U hU hW => ⟨rfl, by rw [hU], by rw [hU]; exact hPc, va_K.moved hW.alike hKc, hDc.weaken (fun _ _ _ _ => trivial)⟩⟩ rfl rfl hl.1 rfl (lv_room (Nat.le_of_ble_eq_true rfl)) dX1_init_56 ⟨Nat.le_of_ble_eq_true rfl, Nat.le_of_ble_eq_true rfl⟩) hS (fun q _ h => hFc q h) hFc (fun u t H1 locs ht hvm hw hB hz1 hk1 hS => ?_)
              obtain ⟨b_25, r_25, cb_25, cc_25, hP1, hK1, hD1⟩ := hB
              rw [ht] at hP1
              have hK1 := va_K.moved hvm.symm hK1
              obtain ⟨hP, hD⟩ := va_join (wr := [(x, .inr (2, [.int 1, .ref q26_16, .null, .int 0, .int 0, .int 0, .int 0, .int 0])), (q26_16, .inl (kq26_16, 3, .inr (.inr (.inr (.inr (va_up (va_up (fun _ => none) 0 (some q44_18)) 1 (some q44_21))))))), (q44_18, .inr (1, [.int 0, .ref b_19, .ref r_19, .int 0, .int 0])), (b_19, .inl (cb_19, 24, .inl (fun _ => 0))), (r_19, .inl (cc_19, 24, .inl (fun _ => 0))), (q44_21, .inr (1, [.int 1, .ref b_22, .ref r_22, .int 0, .int 0])), (b_22, .inl (cb_22, 24, .inl (fun _ => 0))), (r_22, .inl (cc_22, 24, .inl (fun _ => 0)))]) (w1 := [(q44_24, .inr (1, [.int 2, .ref b_25, .ref r_25, .int 0, .int 0])), (b_25, .inl (cb_25, 24, .inl (fun _ => 0))), (r_25, .inl (cc_25, 24, .inl (fun _ => 0)))]) hP hD [8] [0, 1, 2, 3, 4, 5, 6, 7] rfl rfl (by decide) (by decide) hk1 hFc hP1 hD1
              have hK := (hK.sub (tys' := [(kq26_16, .object RX0), (cb_19, .int), (cc_19, .int), (cb_22, .int), (cc_22, .int)]) [0, 1, 2, 3, 4] rfl).app hK1
              generalize H1 = H at hP hS ⊢
              have hP : va_P (dC, dI) vwCl [(x, .inr (2, [.int 1, .ref q26_16, .null, .int 0, .int 0, .int 0, .int 0, .int 0])), (q26_16, .inl (kq26_16, 3, .inr (.inr (.inr (.inr (va_up (va_up (fun _ => none) 0 (some q44_18)) 1 (some q44_21))))))), (q44_18, .inr (1, [.int 0, .ref b_19, .ref r_19, .int 0, .int 0])), (b_19, .inl (cb_19, 24, .inl (fun _ => 0))), (r_19, .inl (cc_19, 24, .inl (fun _ => 0))), (q44_21, .inr (1, [.int 1, .ref b_22, .ref r_22, .int 0, .int 0])), (b_22, .inl (cb_22, 24, .inl (fun _ => 0))), (r_22, .inl (cc_22, 24, .inl (fun _ => 0))), (q44_24, .inr (1, [.int 2, .ref b_25, .ref r_25, .int 0, .int 0])), (b_25, .inl (cb_25, 24, .inl (fun _ => 0))), (r_25, .inl (cc_25, 24, .inl (fun _ => 0)))] H := hP
              have hD : va_D A [(x, .inr (2, [.int 1, .ref q26_16, .null, .int 0, .int 0, .int 0, .int 0, .int 0])), (q26_16, .inl (kq26_16, 3, .inr (.inr (.inr (.inr (va_up (va_up (fun _ => none) 0 (some q44_18)) 1 (some q44_21))))))), (q44_18, .inr (1, [.int 0, .ref b_19, .ref r_19, .int 0, .int 0])), (b_19, .inl (cb_19, 24, .inl (fun _ => 0))), (r_19, .inl (cc_19, 24, .inl (fun _ => 0))), (q44_21, .inr (1, [.int 1, .ref b_22, .ref r_22, .int 0, .int 0])), (b_22, .inl (cb_22, 24, .inl (fun _ => 0))), (r_22, .inl (cc_22, 24, .inl (fun _ => 0))), (q44_24, .inr (1, [.int 2, .ref b_25, .ref r_25, .int 0, .int 0])), (b_25, .inl (cb_25, 24, .inl (fun _ => 0))), (r_25, .inl (cc_25, 24, .inl (fun _ => 0)))] := hD
              have hK : va_K (dC, dI) vwCl [(kq26_16, .object RX0), (cb_19, .int), (cc_19, .int), (cb_22, .int), (cc_22, .int), (cb_25, .int), (cc_25, .int)] s := hK
              refine W.widen (k := 10) (n := 9234) (by omega) (by omega) ?_
              refine va_astq hx hb hK hP hD hS 1 0 8 1 rfl rfl rfl rfl (i := 2) (by unfold vp_in; decide) dX1_init_59 (fun H locs hP hD hS => ?_)
              have hP : va_P (dC, dI) vwCl [(x, .inr (2, [.int 1, .ref q26_16, .null, .int 0, .int 0, .int 0, .int 0, .int 0])), (q26_16, .inl (kq26_16, 3, .inr (.inr (.inr (.inr (va_up (va_up (va_up (fun _ => none) 0 (some q44_18)) 1 (some q44_21)) 2 (some q44_24))))))), (q44_18, .inr (1, [.int 0, .ref b_19, .ref r_19, .int 0, .int 0])), (b_19, .inl (cb_19, 24, .inl (fun _ => 0))), (r_19, .inl (cc_19, 24, .inl (fun _ => 0))), (q44_21, .inr (1, [.int 1, .ref b_22, .ref r_22, .int 0, .int 0])), (b_22, .inl (cb_22, 24, .inl (fun _ => 0))), (r_22, .inl (cc_22, 24, .inl (fun _ => 0))), (q44_24, .inr (1, [.int 2, .ref b_25, .ref r_25, .int 0, .int 0])), (b_25, .inl (cb_25, 24, .inl (fun _ => 0))), (r_25, .inl (cc_25, 24, .inl (fun _ => 0)))] H := hP
              have hD : va_D A [(x, .inr (2, [.int 1, .ref q26_16, .null, .int 0, .int 0, .int 0, .int 0, .int 0])), (q26_16, .inl (kq26_16, 3, .inr (.inr (.inr (.inr (va_up (va_up (va_up (fun _ => none) 0 (some q44_18)) 1 (some q44_21)) 2 (some q44_24))))))), (q44_18, .inr (1, [.int 0, .ref b_19, .ref r_19, .int 0, .int 0])), (b_19, .inl (cb_19, 24, .inl (fun _ => 0))), (r_19, .inl (cc_19, 24, .inl (fun _ => 0))), (q44_21, .inr (1, [.int 1, .ref b_22, .ref r_22, .int 0, .int 0])), (b_22, .inl (cb_22, 24, .inl (fun _ => 0))), (r_22, .inl (cc_22, 24, .inl (fun _ => 0))), (q44_24, .inr (1, [.int 2, .ref b_25, .ref r_25, .int 0, .int 0])), (b_25, .inl (cb_25, 24, .inl (fun _ => 0))), (r_25, .inl (cc_25, 24, .inl (fun _ => 0)))] := hD
              refine lv_iinc (v := 3) (lv' := [(2, .int 3), (0, .ref x), (1, .int p0)]) hx hb dX1_init_60 hl (k := 0) rfl (by decide) (by decide) rfl (fun ls hl => ?_)
              refine lv_goto (tgt := 34) hx hb dX1_init_63 (by decide) ?_
              refine lv_iload_n hx hb dX1_init_34 rfl (lv_at hl 0 rfl) ?_
              refine lv_iconst (v := 3) hx hb dX1_init_35 (by decide) ?_
              refine lv_icmp_ge (tgt := 66) hx hb dX1_init_36 (by decide) (fun c36_26 => ?_) (fun c36_26 => ?_)
              ·
                refine lv_aload_n hx hb dX1_init_66 rfl (lv_at hl 1 rfl) ?_
                refine lv_bipush (v := 16) hx hb dX1_init_67 (by decide) ?_
                refine va_newa (atype := .int) (N' := 16) (a0 := (16, .inl (fun _ => 0))) (ty := .int) hx hb (hts (.arrayClass .int) (by decide +kernel)) rfl hK hP hD hS hA (fun _ => rfl) (by decide) (by rfl) (by decide) (show 11 ≤ 11 by decide) (show 9234 + 16 ≤ 9250 by omega) dX1_init_69 (fun q69_27 kq69_27 H hK hP hD hS => ?_)
                have hK : va_K (dC, dI) vwCl [(kq26_16, .object RX0), (cb_19, .int), (cc_19, .int), (cb_22, .int), (cc_22, .int), (cb_25, .int), (cc_25, .int), (kq69_27, .int)] s := hK
                have hP : va_P (dC, dI) vwCl [(x, .inr (2, [.int 1, .ref q26_16, .null, .int 0, .int 0, .int 0, .int 0, .int 0])), (q26_16, .inl (kq26_16, 3, .inr (.inr (.inr (.inr (va_up (va_up (va_up (fun _ => none) 0 (some q44_18)) 1 (some q44_21)) 2 (some q44_24))))))), (q44_18, .inr (1, [.int 0, .ref b_19, .ref r_19, .int 0, .int 0])), (b_19, .inl (cb_19, 24, .inl (fun _ => 0))), (r_19, .inl (cc_19, 24, .inl (fun _ => 0))), (q44_21, .inr (1, [.int 1, .ref b_22, .ref r_22, .int 0, .int 0])), (b_22, .inl (cb_22, 24, .inl (fun _ => 0))), (r_22, .inl (cc_22, 24, .inl (fun _ => 0))), (q44_24, .inr (1, [.int 2, .ref b_25, .ref r_25, .int 0, .int 0])), (b_25, .inl (cb_25, 24, .inl (fun _ => 0))), (r_25, .inl (cc_25, 24, .inl (fun _ => 0))), (q69_27, .inl (kq69_27, 16, .inl (fun _ => 0)))] H := hP
                have hD : va_D A [(x, .inr (2, [.int 1, .ref q26_16, .null, .int 0, .int 0, .int 0, .int 0, .int 0])), (q26_16, .inl (kq26_16, 3, .inr (.inr (.inr (.inr (va_up (va_up (va_up (fun _ => none) 0 (some q44_18)) 1 (some q44_21)) 2 (some q44_24))))))), (q44_18, .inr (1, [.int 0, .ref b_19, .ref r_19, .int 0, .int 0])), (b_19, .inl (cb_19, 24, .inl (fun _ => 0))), (r_19, .inl (cc_19, 24, .inl (fun _ => 0))), (q44_21, .inr (1, [.int 1, .ref b_22, .ref r_22, .int 0, .int 0])), (b_22, .inl (cb_22, 24, .inl (fun _ => 0))), (r_22, .inl (cc_22, 24, .inl (fun _ => 0))), (q44_24, .inr (1, [.int 2, .ref b_25, .ref r_25, .int 0, .int 0])), (b_25, .inl (cb_25, 24, .inl (fun _ => 0))), (r_25, .inl (cc_25, 24, .inl (fun _ => 0))), (q69_27, .inl (kq69_27, 16, .inl (fun _ => 0)))] := hD
                refine W.widen (k := 11) (n := 9250) (by omega) (by omega) ?_
                refine va_putF (D := (dC, dI)) (ci := 2) (v := .ref q69_27) (ty := (.array .int)) (C := RX1) (T := TX1) (N := 8) hx hb hts (by decide +kernel) tyX1 tyX1_ok nmX1 hown hK hP hD hS 0 rfl rfl 2 (by decide) (hts (.fieldLink RX1 22 "ThreeFiles" "fed" "[I") (by decide +kernel)) (fun _ h9 => h9) rfl hin rfl (by decide +kernel) rfl rfl (Nat.le_of_ble_eq_true rfl) dX1_init_71 (fun H locs hP hD hS => ?_)
                have hP : va_P (dC, dI) vwCl [(x, .inr (2, [.int 1, .ref q26_16, .ref q69_27, .int 0, .int 0, .int 0, .int 0, .int 0])), (q26_16, .inl (kq26_16, 3, .inr (.inr (.inr (.inr (va_up (va_up (va_up (fun _ => none) 0 (some q44_18)) 1 (some q44_21)) 2 (some q44_24))))))), (q44_18, .inr (1, [.int 0, .ref b_19, .ref r_19, .int 0, .int 0])), (b_19, .inl (cb_19, 24, .inl (fun _ => 0))), (r_19, .inl (cc_19, 24, .inl (fun _ => 0))), (q44_21, .inr (1, [.int 1, .ref b_22, .ref r_22, .int 0, .int 0])), (b_22, .inl (cb_22, 24, .inl (fun _ => 0))), (r_22, .inl (cc_22, 24, .inl (fun _ => 0))), (q44_24, .inr (1, [.int 2, .ref b_25, .ref r_25, .int 0, .int 0])), (b_25, .inl (cb_25, 24, .inl (fun _ => 0))), (r_25, .inl (cc_25, 24, .inl (fun _ => 0))), (q69_27, .inl (kq69_27, 16, .inl (fun _ => 0)))] H := hP
                have hD : va_D A [(x, .inr (2, [.int 1, .ref q26_16, .ref q69_27, .int 0, .int 0, .int 0, .int 0, .int 0])), (q26_16, .inl (kq26_16, 3, .inr (.inr (.inr (.inr (va_up (va_up (va_up (fun _ => none) 0 (some q44_18)) 1 (some q44_21)) 2 (some q44_24))))))), (q44_18, .inr (1, [.int 0, .ref b_19, .ref r_19, .int 0, .int 0])), (b_19, .inl (cb_19, 24, .inl (fun _ => 0))), (r_19, .inl (cc_19, 24, .inl (fun _ => 0))), (q44_21, .inr (1, [.int 1, .ref b_22, .ref r_22, .int 0, .int 0])), (b_22, .inl (cb_22, 24, .inl (fun _ => 0))), (r_22, .inl (cc_22, 24, .inl (fun _ => 0))), (q44_24, .inr (1, [.int 2, .ref b_25, .ref r_25, .int 0, .int 0])), (b_25, .inl (cb_25, 24, .inl (fun _ => 0))), (r_25, .inl (cc_25, 24, .inl (fun _ => 0))), (q69_27, .inl (kq69_27, 16, .inl (fun _ => 0)))] := hD
                have hP9 := hP.sub (ws' := [(x, .inr (2, [.int 1, .ref q26_16, .ref q69_27, .int 0, .int 0, .int 0, .int 0, .int 0])), (q26_16, .inl (kq26_16, 3, .inr (.inr (.inr (.inr (va_up (va_up (va_up (fun _ => none) 0 (some q44_18)) 1 (some q44_21)) 2 (some q44_24))))))), (q44_18, .inr (1, [.int 0, .ref b_19, .ref r_19, .int 0, .int 0])), (q44_21, .inr (1, [.int 1, .ref b_22, .ref r_22, .int 0, .int 0])), (q44_24, .inr (1, [.int 2, .ref b_25, .ref r_25, .int 0, .int 0])), (q69_27, .inl (kq69_27, 16, .inl (fun _ => 0))), (b_19, .inl (cb_19, 24, .inl (fun _ => 0))), (r_19, .inl (cc_19, 24, .inl (fun _ => 0))), (b_22, .inl (cb_22, 24, .inl (fun _ => 0))), (r_22, .inl (cc_22, 24, .inl (fun _ => 0))), (b_25, .inl (cb_25, 24, .inl (fun _ => 0))), (r_25, .inl (cc_25, 24, .inl (fun _ => 0)))]) [0, 1, 2, 5, 8, 11, 3, 4, 6, 7, 9, 10] rfl
                have hD9 := hD.sub (ws' := [(x, .inr (2, [.int 1, .ref q26_16, .ref q69_27, .int 0, .int 0, .int 0, .int 0, .int 0])), (q26_16, .inl (kq26_16, 3, .inr (.inr (.inr (.inr (va_up (va_up (va_up (fun _ => none) 0 (some q44_18)) 1 (some q44_21)) 2 (some q44_24))))))), (q44_18, .inr (1, [.int 0, .ref b_19, .ref r_19, .int 0, .int 0])), (q44_21, .inr (1, [.int 1, .ref b_22, .ref r_22, .int 0, .int 0])), (q44_24, .inr (1, [.int 2, .ref b_25, .ref r_25, .int 0, .int 0])), (q69_27, .inl (kq69_27, 16, .inl (fun _ => 0))), (b_19, .inl (cb_19, 24, .inl (fun _ => 0))), (r_19, .inl (cc_19, 24, .inl (fun _ => 0))), (b_22, .inl (cb_22, 24, .inl (fun _ => 0))), (r_22, .inl (cc_22, 24, .inl (fun _ => 0))), (b_25, .inl (cb_25, 24, .inl (fun _ => 0))), (r_25, .inl (cc_25, 24, .inl (fun _ => 0)))]) [0, 1, 2, 5, 8, 11, 3, 4, 6, 7, 9, 10] (by decide) rfl
                have hK9 := hK.sub (tys' := [(kq26_16, .object RX0), (kq69_27, .int), (cb_19, .int), (cc_19, .int), (cb_22, .int), (cc_22, .int), (cb_25, .int), (cc_25, .int)]) [0, 7, 1, 2, 3, 4, 5, 6] rfl
                refine W.widen (k := 11) (n := 9250) (by omega) (by omega) ?_
                exact W.vret hx hb hr (fun t ht hW => ⟨⟨1, rfl, (pc_b hpc), 24, q26_16, q44_18, q44_21, q44_24, q69_27, b_19, r_19, b_22, r_22, b_25, r_25, kq26_16, kq69_27, cb_19, cc_19, cb_22, cc_22, cb_25, cc_25, by omega, by rw [ht]; exact hP9, va_K.moved hW.alike hK9, hD9⟩, hS.F ht⟩) hS.2.2 dX1_init_74
              · exact absurd (by decide) c36_26
      · exact absurd hpc c13_15
  ·
    refine lv_aload_n hx hb dX1_init_0 rfl (lv_at hl 0 rfl) ?_
    refine W.objInit hx hb hown (hts (.methodLink RX1 1 objectInit) (by decide +kernel)) (hts (.instanceMethod objectInit) (by decide +kernel)) (hts (.code objectInit ⟨#[0xb1]⟩ 1 none) (by decide +kernel)) rfl (by rw [hml]; exact hl.1) rfl dX1_init_1 (Nat.le_of_ble_eq_true rfl) (Nat.le_of_ble_eq_true rfl) ?_
    refine W.eq (g2 := F0 m 4 ls []) rfl ?_
    refine lv_aload_n hx hb dX1_init_4 rfl (lv_at hl 0 rfl) ?_
    refine lv_iload_n hx hb dX1_init_5 rfl (lv_at hl 1 rfl) ?_
    refine lv_iconst (v := 1) hx hb dX1_init_6 (by decide) ?_
    refine lv_icmp_lt (tgt := 20) hx hb dX1_init_7 (by decide) (fun c7_28 => ?_) (fun c7_28 => ?_)
    · exact absurd c7_28 (pc_lo hpc hkp1 hkp2)
    ·
      refine lv_iload_n hx hb dX1_init_10 rfl (lv_at hl 1 rfl) ?_
      refine lv_bipush (v := 64) hx hb dX1_init_11 (by decide) ?_
      refine lv_icmp_gt (tgt := 20) hx hb dX1_init_13 (by decide) (fun c13_29 => ?_) (fun c13_29 => ?_)
      · exact absurd c13_29 (pc_hi hpc hkp1 hkp2)
      ·
        refine lv_iload_n hx hb dX1_init_16 rfl (lv_at hl 1 rfl) ?_
        refine lv_goto (tgt := 21) hx hb dX1_init_17 (by decide) ?_
        refine va_putF (D := (dC, dI)) (ci := 2) (v := .int p0) (ty := .int) (C := RX1) (T := TX1) (N := 8) hx hb hts (by decide +kernel) tyX1 tyX1_ok nmX1 hown hK hP hD hS 0 rfl rfl 0 (by decide) (hts (.fieldLink RX1 9 "ThreeFiles" "pieces" "I") (by decide +kernel)) (fun _ h9 => h9) rfl hin rfl (by decide +kernel) rfl rfl (Nat.le_of_ble_eq_true rfl) dX1_init_21 (fun H locs hP hD hS => ?_)
        have hP : va_P (dC, dI) vwCl [(x, .inr (2, [.int p0, .null, .null, .int 0, .int 0, .int 0, .int 0, .int 0]))] H := hP
        have hD : va_D A [(x, .inr (2, [.int p0, .null, .null, .int 0, .int 0, .int 0, .int 0, .int 0]))] := hD
        refine lv_aload_n hx hb dX1_init_24 rfl (lv_at hl 0 rfl) ?_
        refine lv_iconst (v := 3) hx hb dX1_init_25 (by decide) ?_
        refine va_newq (C := RX0) (N' := 3) hx hb hown (hts (.classLink RX1 13 RX0) (by decide +kernel)) hN.ao hK hP hD hS hA (by decide) (by rfl) (by decide) (show 1 ≤ 11 by decide) (show 0 + 3 ≤ 9250 by decide) dX1_init_26 (fun q26_30 kq26_30 H hK hP hD hS => ?_)
        have hK : va_K (dC, dI) vwCl [(kq26_30, .object RX0)] s := hK
        have hP : va_P (dC, dI) vwCl [(x, .inr (2, [.int p0, .null, .null, .int 0, .int 0, .int 0, .int 0, .int 0])), (q26_30, .inl (kq26_30, 3, .inr (.inr (.inr (.inr (fun _ => none))))))] H := hP
        have hD : va_D A [(x, .inr (2, [.int p0, .null, .null, .int 0, .int 0, .int 0, .int 0, .int 0])), (q26_30, .inl (kq26_30, 3, .inr (.inr (.inr (.inr (fun _ => none))))))] := hD
        refine W.widen (k := 1) (n := 3) (by omega) (by omega) ?_
        refine va_putF (D := (dC, dI)) (ci := 2) (v := .ref q26_30) (ty := (.array (.object "ThreeFiles$StoredFile"))) (C := RX1) (T := TX1) (N := 8) hx hb hts (by decide +kernel) tyX1 tyX1_ok nmX1 hown hK hP hD hS 0 rfl rfl 1 (by decide) (hts (.fieldLink RX1 15 "ThreeFiles" "files" "[LThreeFiles$StoredFile;") (by decide +kernel)) (fun _ h9 => h9) rfl hin rfl (by decide +kernel) rfl rfl (Nat.le_of_ble_eq_true rfl) dX1_init_29 (fun H locs hP hD hS => ?_)
        have hP : va_P (dC, dI) vwCl [(x, .inr (2, [.int p0, .ref q26_30, .null, .int 0, .int 0, .int 0, .int 0, .int 0])), (q26_30, .inl (kq26_30, 3, .inr (.inr (.inr (.inr (fun _ => none))))))] H := hP
        have hD : va_D A [(x, .inr (2, [.int p0, .ref q26_30, .null, .int 0, .int 0, .int 0, .int 0, .int 0])), (q26_30, .inl (kq26_30, 3, .inr (.inr (.inr (.inr (fun _ => none))))))] := hD
        refine lv_iconst (v := 0) hx hb dX1_init_32 (by decide) ?_
        refine lv_istore_n (lv' := [(2, .int 0), (0, .ref x), (1, .int p0)]) hx hb dX1_init_33 rfl hl (by decide) rfl (fun ls hl => ?_)
        refine lv_iload_n hx hb dX1_init_34 rfl (lv_at hl 0 rfl) ?_
        refine lv_iconst (v := 3) hx hb dX1_init_35 (by decide) ?_
        refine lv_icmp_ge (tgt := 66) hx hb dX1_init_36 (by decide) (fun c36_31 => ?_) (fun c36_31 => ?_)
        · exact absurd c36_31 (by decide)
        ·
          refine lv_aload_n hx hb dX1_init_39 rfl (lv_at hl 1 rfl) ?_
          refine va_get (D := (dC, dI)) (ci := 2) (v := .ref q26_30) (C := RX1) (T := TX1) (N := 8) hx hb hts (by decide +kernel) hown hK hP 0 rfl rfl 1 (by decide) (hts (.fieldLink RX1 15 "ThreeFiles" "files" "[LThreeFiles$StoredFile;") (by decide +kernel)) (fun _ h9 => h9) rfl dX1_init_40 ?_
          refine lv_iload_n hx hb dX1_init_43 rfl (lv_at hl 0 rfl) ?_
          refine va_new (ci := 1) (fs := [.int 0, .null, .null, .int 0, .int 0]) (C := RX0) (T := TX0) (N := 5) hx hb hts (by decide +kernel) tyX0 tyX0_ok hown (hts (.classLink RX1 13 RX0) (by decide +kernel)) (hts (.instantiable RX0 5) (by decide +kernel)) (hts (.initialized RX0) (by decide +kernel)) hK hP hD hS hA rfl (fun j hj => by rcases (show j = 0 ∨ j = 1 ∨ j = 2 ∨ j = 3 ∨ j = 4 by omega) with rfl | rfl | rfl | rfl | rfl <;> rfl) (show 2 ≤ 11 by decide) (show 3 + 5 ≤ 9250 by decide) dX1_init_44 (fun q44_32 H hP hD hS => ?_)
          have hP : va_P (dC, dI) vwCl [(x, .inr (2, [.int p0, .ref q26_30, .null, .int 0, .int 0, .int 0, .int 0, .int 0])), (q26_30, .inl (kq26_30, 3, .inr (.inr (.inr (.inr (fun _ => none)))))), (q44_32, .inr (1, [.int 0, .null, .null, .int 0, .int 0]))] H := hP
          have hD : va_D A [(x, .inr (2, [.int p0, .ref q26_30, .null, .int 0, .int 0, .int 0, .int 0, .int 0])), (q26_30, .inl (kq26_30, 3, .inr (.inr (.inr (.inr (fun _ => none)))))), (q44_32, .inr (1, [.int 0, .null, .null, .int 0, .int 0]))] := hD
          refine W.widen (k := 2) (n := 8) (by omega) (by omega) ?_
          refine lv_dup hx hb dX1_init_47 rfl ?_
          refine lv_iload_n hx hb dX1_init_48 rfl (lv_at hl 0 rfl) ?_
          refine lv_aload_n hx hb dX1_init_49 rfl (lv_at hl 1 rfl) ?_
          refine va_get (D := (dC, dI)) (ci := 2) (v := .int p0) (C := RX1) (T := TX1) (N := 8) hx hb hts (by decide +kernel) hown hK hP 0 rfl rfl 0 (by decide) (hts (.fieldLink RX1 9 "ThreeFiles" "pieces" "I") (by decide +kernel)) (fun _ h9 => h9) rfl dX1_init_50 ?_
          refine lv_bipush (v := 24) hx hb dX1_init_53 (by decide) ?_
          refine lv_imul hx hb dX1_init_55 ?_
          refine lv_topi (fun v55_33 ev55_33 => ?_)
          obtain rfl : v55_33 = nI (k * 24) := ev55_33.trans (pc_mul hpc)
          have hPc := hP.sub (ws' := [(q44_32, .inr (1, [.int 0, .null, .null, .int 0, .int 0]))]) [2] rfl
          have hKc := hK.sub (tys' := []) [] rfl
          have hDc := hD.sub (ws' := [(q44_32, .inr (1, [.int 0, .null, .null, .int 0, .int 0]))]) [2] (by decide) rfl
          have hFc := va_free (wc := [(q44_32, .inr (1, [.int 0, .null, .null, .int 0, .int 0]))]) hD hS hA [2] rfl
          refine va_callv (va_runIN (As := [.int 0, .int (nI (k * 24))]) (rest := [.ref q44_32, .int 0, .ref q26_30]) ⟨hx, hb, hml, hown, hts⟩ (c_X0_init l dC dI H.size q44_32 0 (k * 24) (by omega)) ⟨va_cnB 2 hts gX1_init_X0_init_n19 rfl rfl rfl hN.n19 (hts (.initialized RX0) (by decide +kernel)) (by decide +kernel) ⟨Nat.le_of_ble_eq_true rfl, Nat.le_of_ble_eq_true rfl⟩, rfl, hts (.instanceMethod yX0_init) (by decide +kernel)⟩ ⟨fun a U g mk q => by obtain ⟨q0, q1, qP, qK, qD⟩ := q; exact ⟨q0, q1, qP, va_K.moved (u := U) (U := U.calling g mk a) (Vm.Alike.refl U.vm) qK, qD⟩, fun U hU hW => ⟨rfl, by rw [hU], by rw [hU]; exact hPc, va_K.moved hW.alike hKc, hDc.weaken (fun _ _ _ _ => trivial)⟩⟩ rfl rfl hl.1 rfl (lv_room (Nat.le_of_ble_eq_true rfl)) dX1_init_56 ⟨Nat.le_of_ble_eq_true rfl, Nat.le_of_ble_eq_true rfl⟩) hS (fun q _ h => hFc q h) hFc (fun u t H1 locs ht hvm hw hB hz1 hk1 hS => ?_)
          obtain ⟨b_34, r_34, cb_34, cc_34, hP1, hK1, hD1⟩ := hB
          rw [ht] at hP1
          have hK1 := va_K.moved hvm.symm hK1
          obtain ⟨hP, hD⟩ := va_join (wr := [(x, .inr (2, [.int p0, .ref q26_30, .null, .int 0, .int 0, .int 0, .int 0, .int 0])), (q26_30, .inl (kq26_30, 3, .inr (.inr (.inr (.inr (fun _ => none))))))]) (w1 := [(q44_32, .inr (1, [.int 0, .ref b_34, .ref r_34, .int 0, .int 0])), (b_34, .inl (cb_34, (k * 24), .inl (fun _ => 0))), (r_34, .inl (cc_34, (k * 24), .inl (fun _ => 0)))]) hP hD [2] [0, 1] rfl rfl (by decide) (by decide) hk1 hFc hP1 hD1
          have hK := (hK.sub (tys' := [(kq26_30, .object RX0)]) [0] rfl).app hK1
          generalize H1 = H at hP hS ⊢
          have hP : va_P (dC, dI) vwCl [(x, .inr (2, [.int p0, .ref q26_30, .null, .int 0, .int 0, .int 0, .int 0, .int 0])), (q26_30, .inl (kq26_30, 3, .inr (.inr (.inr (.inr (fun _ => none)))))), (q44_32, .inr (1, [.int 0, .ref b_34, .ref r_34, .int 0, .int 0])), (b_34, .inl (cb_34, (k * 24), .inl (fun _ => 0))), (r_34, .inl (cc_34, (k * 24), .inl (fun _ => 0)))] H := hP
          have hD : va_D A [(x, .inr (2, [.int p0, .ref q26_30, .null, .int 0, .int 0, .int 0, .int 0, .int 0])), (q26_30, .inl (kq26_30, 3, .inr (.inr (.inr (.inr (fun _ => none)))))), (q44_32, .inr (1, [.int 0, .ref b_34, .ref r_34, .int 0, .int 0])), (b_34, .inl (cb_34, (k * 24), .inl (fun _ => 0))), (r_34, .inl (cc_34, (k * 24), .inl (fun _ => 0)))] := hD
          have hK : va_K (dC, dI) vwCl [(kq26_30, .object RX0), (cb_34, .int), (cc_34, .int)] s := hK
          refine W.widen (k := 4) (n := 3080) (by omega) (by omega) ?_
          refine va_astq hx hb hK hP hD hS 1 0 2 1 rfl rfl rfl rfl (i := 0) (by unfold vp_in; decide) dX1_init_59 (fun H locs hP hD hS => ?_)
          have hP : va_P (dC, dI) vwCl [(x, .inr (2, [.int p0, .ref q26_30, .null, .int 0, .int 0, .int 0, .int 0, .int 0])), (q26_30, .inl (kq26_30, 3, .inr (.inr (.inr (.inr (va_up (fun _ => none) 0 (some q44_32))))))), (q44_32, .inr (1, [.int 0, .ref b_34, .ref r_34, .int 0, .int 0])), (b_34, .inl (cb_34, (k * 24), .inl (fun _ => 0))), (r_34, .inl (cc_34, (k * 24), .inl (fun _ => 0)))] H := hP
          have hD : va_D A [(x, .inr (2, [.int p0, .ref q26_30, .null, .int 0, .int 0, .int 0, .int 0, .int 0])), (q26_30, .inl (kq26_30, 3, .inr (.inr (.inr (.inr (va_up (fun _ => none) 0 (some q44_32))))))), (q44_32, .inr (1, [.int 0, .ref b_34, .ref r_34, .int 0, .int 0])), (b_34, .inl (cb_34, (k * 24), .inl (fun _ => 0))), (r_34, .inl (cc_34, (k * 24), .inl (fun _ => 0)))] := hD
          refine lv_iinc (v := 1) (lv' := [(2, .int 1), (0, .ref x), (1, .int p0)]) hx hb dX1_init_60 hl (k := 0) rfl (by decide) (by decide) rfl (fun ls hl => ?_)
          refine lv_goto (tgt := 34) hx hb dX1_init_63 (by decide) ?_
          refine lv_iload_n hx hb dX1_init_34 rfl (lv_at hl 0 rfl) ?_
          refine lv_iconst (v := 3) hx hb dX1_init_35 (by decide) ?_
          refine lv_icmp_ge (tgt := 66) hx hb dX1_init_36 (by decide) (fun c36_35 => ?_) (fun c36_35 => ?_)
          · exact absurd c36_35 (by decide)
          ·
            refine lv_aload_n hx hb dX1_init_39 rfl (lv_at hl 1 rfl) ?_
            refine va_get (D := (dC, dI)) (ci := 2) (v := .ref q26_30) (C := RX1) (T := TX1) (N := 8) hx hb hts (by decide +kernel) hown hK hP 0 rfl rfl 1 (by decide) (hts (.fieldLink RX1 15 "ThreeFiles" "files" "[LThreeFiles$StoredFile;") (by decide +kernel)) (fun _ h9 => h9) rfl dX1_init_40 ?_
            refine lv_iload_n hx hb dX1_init_43 rfl (lv_at hl 0 rfl) ?_
            refine va_new (ci := 1) (fs := [.int 0, .null, .null, .int 0, .int 0]) (C := RX0) (T := TX0) (N := 5) hx hb hts (by decide +kernel) tyX0 tyX0_ok hown (hts (.classLink RX1 13 RX0) (by decide +kernel)) (hts (.instantiable RX0 5) (by decide +kernel)) (hts (.initialized RX0) (by decide +kernel)) hK hP hD hS hA rfl (fun j hj => by rcases (show j = 0 ∨ j = 1 ∨ j = 2 ∨ j = 3 ∨ j = 4 by omega) with rfl | rfl | rfl | rfl | rfl <;> rfl) (show 5 ≤ 11 by decide) (show 3080 + 5 ≤ 9250 by decide) dX1_init_44 (fun q44_36 H hP hD hS => ?_)
            have hP : va_P (dC, dI) vwCl [(x, .inr (2, [.int p0, .ref q26_30, .null, .int 0, .int 0, .int 0, .int 0, .int 0])), (q26_30, .inl (kq26_30, 3, .inr (.inr (.inr (.inr (va_up (fun _ => none) 0 (some q44_32))))))), (q44_32, .inr (1, [.int 0, .ref b_34, .ref r_34, .int 0, .int 0])), (b_34, .inl (cb_34, (k * 24), .inl (fun _ => 0))), (r_34, .inl (cc_34, (k * 24), .inl (fun _ => 0))), (q44_36, .inr (1, [.int 0, .null, .null, .int 0, .int 0]))] H := hP
            have hD : va_D A [(x, .inr (2, [.int p0, .ref q26_30, .null, .int 0, .int 0, .int 0, .int 0, .int 0])), (q26_30, .inl (kq26_30, 3, .inr (.inr (.inr (.inr (va_up (fun _ => none) 0 (some q44_32))))))), (q44_32, .inr (1, [.int 0, .ref b_34, .ref r_34, .int 0, .int 0])), (b_34, .inl (cb_34, (k * 24), .inl (fun _ => 0))), (r_34, .inl (cc_34, (k * 24), .inl (fun _ => 0))), (q44_36, .inr (1, [.int 0, .null, .null, .int 0, .int 0]))] := hD
            refine W.widen (k := 5) (n := 3085) (by omega) (by omega) ?_
            refine lv_dup hx hb dX1_init_47 rfl ?_
            refine lv_iload_n hx hb dX1_init_48 rfl (lv_at hl 0 rfl) ?_
            refine lv_aload_n hx hb dX1_init_49 rfl (lv_at hl 1 rfl) ?_
            refine va_get (D := (dC, dI)) (ci := 2) (v := .int p0) (C := RX1) (T := TX1) (N := 8) hx hb hts (by decide +kernel) hown hK hP 0 rfl rfl 0 (by decide) (hts (.fieldLink RX1 9 "ThreeFiles" "pieces" "I") (by decide +kernel)) (fun _ h9 => h9) rfl dX1_init_50 ?_
            refine lv_bipush (v := 24) hx hb dX1_init_53 (by decide) ?_
            refine lv_imul hx hb dX1_init_55 ?_
            refine lv_topi (fun v55_37 ev55_37 => ?_)
            obtain rfl : v55_37 = nI (k * 24) := ev55_37.trans (pc_mul hpc)
            have hPc := hP.sub (ws' := [(q44_36, .inr (1, [.int 0, .null, .null, .int 0, .int 0]))]) [5] rfl
            have hKc := hK.sub (tys' := []) [] rfl
            have hDc := hD.sub (ws' := [(q44_36, .inr (1, [.int 0, .null, .null, .int 0, .int 0]))]) [5] (by decide) rfl
            have hFc := va_free (wc := [(q44_36, .inr (1, [.int 0, .null, .null, .int 0, .int 0]))]) hD hS hA [5] rfl
            refine va_callv (va_runIN (As := [.int 1, .int (nI (k * 24))]) (rest := [.ref q44_36, .int 1, .ref q26_30]) ⟨hx, hb, hml, hown, hts⟩ (c_X0_init l dC dI H.size q44_36 1 (k * 24) (by omega)) ⟨va_cnB 2 hts gX1_init_X0_init_n19 rfl rfl rfl hN.n19 (hts (.initialized RX0) (by decide +kernel)) (by decide +kernel) ⟨Nat.le_of_ble_eq_true rfl, Nat.le_of_ble_eq_true rfl⟩, rfl, hts (.instanceMethod yX0_init) (by decide +kernel)⟩ ⟨fun a U g mk q => by obtain ⟨q0, q1, qP, qK, qD⟩ := q; exact ⟨q0, q1, qP, va_K.moved (u := U) (U := U.calling g mk a) (Vm.Alike.refl U.vm) qK, qD⟩, fun U hU hW => ⟨rfl, by rw [hU], by rw [hU]; exact hPc, va_K.moved hW.alike hKc, hDc.weaken (fun _ _ _ _ => trivial)⟩⟩ rfl rfl hl.1 rfl (lv_room (Nat.le_of_ble_eq_true rfl)) dX1_init_56 ⟨Nat.le_of_ble_eq_true rfl, Nat.le_of_ble_eq_true rfl⟩) hS (fun q _ h => hFc q h) hFc (fun u t H1 locs ht hvm hw hB hz1 hk1 hS => ?_)
            obtain ⟨b_38, r_38, cb_38, cc_38, hP1, hK1, hD1⟩ := hB
            rw [ht] at hP1
            have hK1 := va_K.moved hvm.symm hK1
            obtain ⟨hP, hD⟩ := va_join (wr := [(x, .inr (2, [.int p0, .ref q26_30, .null, .int 0, .int 0, .int 0, .int 0, .int 0])), (q26_30, .inl (kq26_30, 3, .inr (.inr (.inr (.inr (va_up (fun _ => none) 0 (some q44_32))))))), (q44_32, .inr (1, [.int 0, .ref b_34, .ref r_34, .int 0, .int 0])), (b_34, .inl (cb_34, (k * 24), .inl (fun _ => 0))), (r_34, .inl (cc_34, (k * 24), .inl (fun _ => 0)))]) (w1 := [(q44_36, .inr (1, [.int 1, .ref b_38, .ref r_38, .int 0, .int 0])), (b_38, .inl (cb_38, (k * 24), .inl (fun _ => 0))), (r_38, .inl (cc_38, (k * 24), .inl (fun _ => 0)))]) hP hD [5] [0, 1, 2, 3, 4] rfl rfl (by decide) (by decide) hk1 hFc hP1 hD1
            have hK := (hK.sub (tys' := [(kq26_30, .object RX0), (cb_34, .int), (cc_34, .int)]) [0, 1, 2] rfl).app hK1
            generalize H1 = H at hP hS ⊢
            have hP : va_P (dC, dI) vwCl [(x, .inr (2, [.int p0, .ref q26_30, .null, .int 0, .int 0, .int 0, .int 0, .int 0])), (q26_30, .inl (kq26_30, 3, .inr (.inr (.inr (.inr (va_up (fun _ => none) 0 (some q44_32))))))), (q44_32, .inr (1, [.int 0, .ref b_34, .ref r_34, .int 0, .int 0])), (b_34, .inl (cb_34, (k * 24), .inl (fun _ => 0))), (r_34, .inl (cc_34, (k * 24), .inl (fun _ => 0))), (q44_36, .inr (1, [.int 1, .ref b_38, .ref r_38, .int 0, .int 0])), (b_38, .inl (cb_38, (k * 24), .inl (fun _ => 0))), (r_38, .inl (cc_38, (k * 24), .inl (fun _ => 0)))] H := hP
            have hD : va_D A [(x, .inr (2, [.int p0, .ref q26_30, .null, .int 0, .int 0, .int 0, .int 0, .int 0])), (q26_30, .inl (kq26_30, 3, .inr (.inr (.inr (.inr (va_up (fun _ => none) 0 (some q44_32))))))), (q44_32, .inr (1, [.int 0, .ref b_34, .ref r_34, .int 0, .int 0])), (b_34, .inl (cb_34, (k * 24), .inl (fun _ => 0))), (r_34, .inl (cc_34, (k * 24), .inl (fun _ => 0))), (q44_36, .inr (1, [.int 1, .ref b_38, .ref r_38, .int 0, .int 0])), (b_38, .inl (cb_38, (k * 24), .inl (fun _ => 0))), (r_38, .inl (cc_38, (k * 24), .inl (fun _ => 0)))] := hD
            have hK : va_K (dC, dI) vwCl [(kq26_30, .object RX0), (cb_34, .int), (cc_34, .int), (cb_38, .int), (cc_38, .int)] s := hK
            refine W.widen (k := 7) (n := 6157) (by omega) (by omega) ?_
            refine va_astq hx hb hK hP hD hS 1 0 5 1 rfl rfl rfl rfl (i := 1) (by unfold vp_in; decide) dX1_init_59 (fun H locs hP hD hS => ?_)
            have hP : va_P (dC, dI) vwCl [(x, .inr (2, [.int p0, .ref q26_30, .null, .int 0, .int 0, .int 0, .int 0, .int 0])), (q26_30, .inl (kq26_30, 3, .inr (.inr (.inr (.inr (va_up (va_up (fun _ => none) 0 (some q44_32)) 1 (some q44_36))))))), (q44_32, .inr (1, [.int 0, .ref b_34, .ref r_34, .int 0, .int 0])), (b_34, .inl (cb_34, (k * 24), .inl (fun _ => 0))), (r_34, .inl (cc_34, (k * 24), .inl (fun _ => 0))), (q44_36, .inr (1, [.int 1, .ref b_38, .ref r_38, .int 0, .int 0])), (b_38, .inl (cb_38, (k * 24), .inl (fun _ => 0))), (r_38, .inl (cc_38, (k * 24), .inl (fun _ => 0)))] H := hP
            have hD : va_D A [(x, .inr (2, [.int p0, .ref q26_30, .null, .int 0, .int 0, .int 0, .int 0, .int 0])), (q26_30, .inl (kq26_30, 3, .inr (.inr (.inr (.inr (va_up (va_up (fun _ => none) 0 (some q44_32)) 1 (some q44_36))))))), (q44_32, .inr (1, [.int 0, .ref b_34, .ref r_34, .int 0, .int 0])), (b_34, .inl (cb_34, (k * 24), .inl (fun _ => 0))), (r_34, .inl (cc_34, (k * 24), .inl (fun _ => 0))), (q44_36, .inr (1, [.int 1, .ref b_38, .ref r_38, .int 0, .int 0])), (b_38, .inl (cb_38, (k * 24), .inl (fun _ => 0))), (r_38, .inl (cc_38, (k * 24), .inl (fun _ => 0)))] := hD
            refine lv_iinc (v := 2) (lv' := [(2, .int 2), (0, .ref x), (1, .int p0)]) hx hb dX1_init_60 hl (k := 0) rfl (by decide) (by decide) rfl (fun ls hl => ?_)
            refine lv_goto (tgt := 34) hx hb dX1_init_63 (by decide) ?_
            refine lv_iload_n hx hb dX1_init_34 rfl (lv_at hl 0 rfl) ?_
            refine lv_iconst (v := 3) hx hb dX1_init_35 (by decide) ?_
            refine lv_icmp_ge (tgt := 66) hx hb dX1_init_36 (by decide) (fun c36_39 => ?_) (fun c36_39 => ?_)
            · exact absurd c36_39 (by decide)
            ·
              refine lv_aload_n hx hb dX1_init_39 rfl (lv_at hl 1 rfl) ?_
              refine va_get (D := (dC, dI)) (ci := 2) (v := .ref q26_30) (C := RX1) (T := TX1) (N := 8) hx hb hts (by decide +kernel) hown hK hP 0 rfl rfl 1 (by decide) (hts (.fieldLink RX1 15 "ThreeFiles" "files" "[LThreeFiles$StoredFile;") (by decide +kernel)) (fun _ h9 => h9) rfl dX1_init_40 ?_
              refine lv_iload_n hx hb dX1_init_43 rfl (lv_at hl 0 rfl) ?_
              refine va_new (ci := 1) (fs := [.int 0, .null, .null, .int 0, .int 0]) (C := RX0) (T := TX0) (N := 5) hx hb hts (by decide +kernel) tyX0 tyX0_ok hown (hts (.classLink RX1 13 RX0) (by decide +kernel)) (hts (.instantiable RX0 5) (by decide +kernel)) (hts (.initialized RX0) (by decide +kernel)) hK hP hD hS hA rfl (fun j hj => by rcases (show j = 0 ∨ j = 1 ∨ j = 2 ∨ j = 3 ∨ j = 4 by omega) with rfl | rfl | rfl | rfl | rfl <;> rfl) (show 8 ≤ 11 by decide) (show 6157 + 5 ≤ 9250 by decide) dX1_init_44 (fun q44_40 H hP hD hS => ?_)
              have hP : va_P (dC, dI) vwCl [(x, .inr (2, [.int p0, .ref q26_30, .null, .int 0, .int 0, .int 0, .int 0, .int 0])), (q26_30, .inl (kq26_30, 3, .inr (.inr (.inr (.inr (va_up (va_up (fun _ => none) 0 (some q44_32)) 1 (some q44_36))))))), (q44_32, .inr (1, [.int 0, .ref b_34, .ref r_34, .int 0, .int 0])), (b_34, .inl (cb_34, (k * 24), .inl (fun _ => 0))), (r_34, .inl (cc_34, (k * 24), .inl (fun _ => 0))), (q44_36, .inr (1, [.int 1, .ref b_38, .ref r_38, .int 0, .int 0])), (b_38, .inl (cb_38, (k * 24), .inl (fun _ => 0))), (r_38, .inl (cc_38, (k * 24), .inl (fun _ => 0))), (q44_40, .inr (1, [.int 0, .null, .null, .int 0, .int 0]))] H := hP
              have hD : va_D A [(x, .inr (2, [.int p0, .ref q26_30, .null, .int 0, .int 0, .int 0, .int 0, .int 0])), (q26_30, .inl (kq26_30, 3, .inr (.inr (.inr (.inr (va_up (va_up (fun _ => none) 0 (some q44_32)) 1 (some q44_36))))))), (q44_32, .inr (1, [.int 0, .ref b_34, .ref r_34, .int 0, .int 0])), (b_34, .inl (cb_34, (k * 24), .inl (fun _ => 0))), (r_34, .inl (cc_34, (k * 24), .inl (fun _ => 0))), (q44_36, .inr (1, [.int 1, .ref b_38, .ref r_38, .int 0, .int 0])), (b_38, .inl (cb_38, (k * 24), .inl (fun _ => 0))), (r_38, .inl (cc_38, (k * 24), .inl (fun _ => 0))), (q44_40, .inr (1, [.int 0, .null, .null, .int 0, .int 0]))] := hD
              refine W.widen (k := 8) (n := 6162) (by omega) (by omega) ?_
              refine lv_dup hx hb dX1_init_47 rfl ?_
              refine lv_iload_n hx hb dX1_init_48 rfl (lv_at hl 0 rfl) ?_
              refine lv_aload_n hx hb dX1_init_49 rfl (lv_at hl 1 rfl) ?_
              refine va_get (D := (dC, dI)) (ci := 2) (v := .int p0) (C := RX1) (T := TX1) (N := 8) hx hb hts (by decide +kernel) hown hK hP 0 rfl rfl 0 (by decide) (hts (.fieldLink RX1 9 "ThreeFiles" "pieces" "I") (by decide +kernel)) (fun _ h9 => h9) rfl dX1_init_50 ?_
              refine lv_bipush (v := 24) hx hb dX1_init_53 (by decide) ?_
              refine lv_imul hx hb dX1_init_55 ?_
              refine lv_topi (fun v55_41 ev55_41 => ?_)
              obtain rfl : v55_41 = nI (k * 24) := ev55_41.trans (pc_mul hpc)
              have hPc := hP.sub (ws' := [(q44_40, .inr (1, [.int 0, .null, .null, .int 0, .int 0]))]) [8] rfl
              have hKc := hK.sub (tys' := []) [] rfl
              have hDc := hD.sub (ws' := [(q44_40, .inr (1, [.int 0, .null, .null, .int 0, .int 0]))]) [8] (by decide) rfl
              have hFc := va_free (wc := [(q44_40, .inr (1, [.int 0, .null, .null, .int 0, .int 0]))]) hD hS hA [8] rfl
              refine va_callv (va_runIN (As := [.int 2, .int (nI (k * 24))]) (rest := [.ref q44_40, .int 2, .ref q26_30]) ⟨hx, hb, hml, hown, hts⟩ (c_X0_init l dC dI H.size q44_40 2 (k * 24) (by omega)) ⟨va_cnB 2 hts gX1_init_X0_init_n19 rfl rfl rfl hN.n19 (hts (.initialized RX0) (by decide +kernel)) (by decide +kernel) ⟨Nat.le_of_ble_eq_true rfl, Nat.le_of_ble_eq_true rfl⟩, rfl, hts (.instanceMethod yX0_init) (by decide +kernel)⟩ ⟨fun a U g mk q => by obtain ⟨q0, q1, qP, qK, qD⟩ := q; exact ⟨q0, q1, qP, va_K.moved (u := U) (U := U.calling g mk a) (Vm.Alike.refl U.vm) qK, qD⟩, fun U hU hW => ⟨rfl, by rw [hU], by rw [hU]; exact hPc, va_K.moved hW.alike hKc, hDc.weaken (fun _ _ _ _ => trivial)⟩⟩ rfl rfl hl.1 rfl (lv_room (Nat.le_of_ble_eq_true rfl)) dX1_init_56 ⟨Nat.le_of_ble_eq_true rfl, Nat.le_of_ble_eq_true rfl⟩) hS (fun q _ h => hFc q h) hFc (fun u t H1 locs ht hvm hw hB hz1 hk1 hS => ?_)
              obtain ⟨b_42, r_42, cb_42, cc_42, hP1, hK1, hD1⟩ := hB
              rw [ht] at hP1
              have hK1 := va_K.moved hvm.symm hK1
              obtain ⟨hP, hD⟩ := va_join (wr := [(x, .inr (2, [.int p0, .ref q26_30, .null, .int 0, .int 0, .int 0, .int 0, .int 0])), (q26_30, .inl (kq26_30, 3, .inr (.inr (.inr (.inr (va_up (va_up (fun _ => none) 0 (some q44_32)) 1 (some q44_36))))))), (q44_32, .inr (1, [.int 0, .ref b_34, .ref r_34, .int 0, .int 0])), (b_34, .inl (cb_34, (k * 24), .inl (fun _ => 0))), (r_34, .inl (cc_34, (k * 24), .inl (fun _ => 0))), (q44_36, .inr (1, [.int 1, .ref b_38, .ref r_38, .int 0, .int 0])), (b_38, .inl (cb_38, (k * 24), .inl (fun _ => 0))), (r_38, .inl (cc_38, (k * 24), .inl (fun _ => 0)))]) (w1 := [(q44_40, .inr (1, [.int 2, .ref b_42, .ref r_42, .int 0, .int 0])), (b_42, .inl (cb_42, (k * 24), .inl (fun _ => 0))), (r_42, .inl (cc_42, (k * 24), .inl (fun _ => 0)))]) hP hD [8] [0, 1, 2, 3, 4, 5, 6, 7] rfl rfl (by decide) (by decide) hk1 hFc hP1 hD1
              have hK := (hK.sub (tys' := [(kq26_30, .object RX0), (cb_34, .int), (cc_34, .int), (cb_38, .int), (cc_38, .int)]) [0, 1, 2, 3, 4] rfl).app hK1
              generalize H1 = H at hP hS ⊢
              have hP : va_P (dC, dI) vwCl [(x, .inr (2, [.int p0, .ref q26_30, .null, .int 0, .int 0, .int 0, .int 0, .int 0])), (q26_30, .inl (kq26_30, 3, .inr (.inr (.inr (.inr (va_up (va_up (fun _ => none) 0 (some q44_32)) 1 (some q44_36))))))), (q44_32, .inr (1, [.int 0, .ref b_34, .ref r_34, .int 0, .int 0])), (b_34, .inl (cb_34, (k * 24), .inl (fun _ => 0))), (r_34, .inl (cc_34, (k * 24), .inl (fun _ => 0))), (q44_36, .inr (1, [.int 1, .ref b_38, .ref r_38, .int 0, .int 0])), (b_38, .inl (cb_38, (k * 24), .inl (fun _ => 0))), (r_38, .inl (cc_38, (k * 24), .inl (fun _ => 0))), (q44_40, .inr (1, [.int 2, .ref b_42, .ref r_42, .int 0, .int 0])), (b_42, .inl (cb_42, (k * 24), .inl (fun _ => 0))), (r_42, .inl (cc_42, (k * 24), .inl (fun _ => 0)))] H := hP
              have hD : va_D A [(x, .inr (2, [.int p0, .ref q26_30, .null, .int 0, .int 0, .int 0, .int 0, .int 0])), (q26_30, .inl (kq26_30, 3, .inr (.inr (.inr (.inr (va_up (va_up (fun _ => none) 0 (some q44_32)) 1 (some q44_36))))))), (q44_32, .inr (1, [.int 0, .ref b_34, .ref r_34, .int 0, .int 0])), (b_34, .inl (cb_34, (k * 24), .inl (fun _ => 0))), (r_34, .inl (cc_34, (k * 24), .inl (fun _ => 0))), (q44_36, .inr (1, [.int 1, .ref b_38, .ref r_38, .int 0, .int 0])), (b_38, .inl (cb_38, (k * 24), .inl (fun _ => 0))), (r_38, .inl (cc_38, (k * 24), .inl (fun _ => 0))), (q44_40, .inr (1, [.int 2, .ref b_42, .ref r_42, .int 0, .int 0])), (b_42, .inl (cb_42, (k * 24), .inl (fun _ => 0))), (r_42, .inl (cc_42, (k * 24), .inl (fun _ => 0)))] := hD
              have hK : va_K (dC, dI) vwCl [(kq26_30, .object RX0), (cb_34, .int), (cc_34, .int), (cb_38, .int), (cc_38, .int), (cb_42, .int), (cc_42, .int)] s := hK
              refine W.widen (k := 10) (n := 9234) (by omega) (by omega) ?_
              refine va_astq hx hb hK hP hD hS 1 0 8 1 rfl rfl rfl rfl (i := 2) (by unfold vp_in; decide) dX1_init_59 (fun H locs hP hD hS => ?_)
              have hP : va_P (dC, dI) vwCl [(x, .inr (2, [.int p0, .ref q26_30, .null, .int 0, .int 0, .int 0, .int 0, .int 0])), (q26_30, .inl (kq26_30, 3, .inr (.inr (.inr (.inr (va_up (va_up (va_up (fun _ => none) 0 (some q44_32)) 1 (some q44_36)) 2 (some q44_40))))))), (q44_32, .inr (1, [.int 0, .ref b_34, .ref r_34, .int 0, .int 0])), (b_34, .inl (cb_34, (k * 24), .inl (fun _ => 0))), (r_34, .inl (cc_34, (k * 24), .inl (fun _ => 0))), (q44_36, .inr (1, [.int 1, .ref b_38, .ref r_38, .int 0, .int 0])), (b_38, .inl (cb_38, (k * 24), .inl (fun _ => 0))), (r_38, .inl (cc_38, (k * 24), .inl (fun _ => 0))), (q44_40, .inr (1, [.int 2, .ref b_42, .ref r_42, .int 0, .int 0])), (b_42, .inl (cb_42, (k * 24), .inl (fun _ => 0))), (r_42, .inl (cc_42, (k * 24), .inl (fun _ => 0)))] H := hP
              have hD : va_D A [(x, .inr (2, [.int p0, .ref q26_30, .null, .int 0, .int 0, .int 0, .int 0, .int 0])), (q26_30, .inl (kq26_30, 3, .inr (.inr (.inr (.inr (va_up (va_up (va_up (fun _ => none) 0 (some q44_32)) 1 (some q44_36)) 2 (some q44_40))))))), (q44_32, .inr (1, [.int 0, .ref b_34, .ref r_34, .int 0, .int 0])), (b_34, .inl (cb_34, (k * 24), .inl (fun _ => 0))), (r_34, .inl (cc_34, (k * 24), .inl (fun _ => 0))), (q44_36, .inr (1, [.int 1, .ref b_38, .ref r_38, .int 0, .int 0])), (b_38, .inl (cb_38, (k * 24), .inl (fun _ => 0))), (r_38, .inl (cc_38, (k * 24), .inl (fun _ => 0))), (q44_40, .inr (1, [.int 2, .ref b_42, .ref r_42, .int 0, .int 0])), (b_42, .inl (cb_42, (k * 24), .inl (fun _ => 0))), (r_42, .inl (cc_42, (k * 24), .inl (fun _ => 0)))] := hD
              refine lv_iinc (v := 3) (lv' := [(2, .int 3), (0, .ref x), (1, .int p0)]) hx hb dX1_init_60 hl (k := 0) rfl (by decide) (by decide) rfl (fun ls hl => ?_)
              refine lv_goto (tgt := 34) hx hb dX1_init_63 (by decide) ?_
              refine lv_iload_n hx hb dX1_init_34 rfl (lv_at hl 0 rfl) ?_
              refine lv_iconst (v := 3) hx hb dX1_init_35 (by decide) ?_
              refine lv_icmp_ge (tgt := 66) hx hb dX1_init_36 (by decide) (fun c36_43 => ?_) (fun c36_43 => ?_)
              ·
                refine lv_aload_n hx hb dX1_init_66 rfl (lv_at hl 1 rfl) ?_
                refine lv_bipush (v := 16) hx hb dX1_init_67 (by decide) ?_
                refine va_newa (atype := .int) (N' := 16) (a0 := (16, .inl (fun _ => 0))) (ty := .int) hx hb (hts (.arrayClass .int) (by decide +kernel)) rfl hK hP hD hS hA (fun _ => rfl) (by decide) (by rfl) (by decide) (show 11 ≤ 11 by decide) (show 9234 + 16 ≤ 9250 by omega) dX1_init_69 (fun q69_44 kq69_44 H hK hP hD hS => ?_)
                have hK : va_K (dC, dI) vwCl [(kq26_30, .object RX0), (cb_34, .int), (cc_34, .int), (cb_38, .int), (cc_38, .int), (cb_42, .int), (cc_42, .int), (kq69_44, .int)] s := hK
                have hP : va_P (dC, dI) vwCl [(x, .inr (2, [.int p0, .ref q26_30, .null, .int 0, .int 0, .int 0, .int 0, .int 0])), (q26_30, .inl (kq26_30, 3, .inr (.inr (.inr (.inr (va_up (va_up (va_up (fun _ => none) 0 (some q44_32)) 1 (some q44_36)) 2 (some q44_40))))))), (q44_32, .inr (1, [.int 0, .ref b_34, .ref r_34, .int 0, .int 0])), (b_34, .inl (cb_34, (k * 24), .inl (fun _ => 0))), (r_34, .inl (cc_34, (k * 24), .inl (fun _ => 0))), (q44_36, .inr (1, [.int 1, .ref b_38, .ref r_38, .int 0, .int 0])), (b_38, .inl (cb_38, (k * 24), .inl (fun _ => 0))), (r_38, .inl (cc_38, (k * 24), .inl (fun _ => 0))), (q44_40, .inr (1, [.int 2, .ref b_42, .ref r_42, .int 0, .int 0])), (b_42, .inl (cb_42, (k * 24), .inl (fun _ => 0))), (r_42, .inl (cc_42, (k * 24), .inl (fun _ => 0))), (q69_44, .inl (kq69_44, 16, .inl (fun _ => 0)))] H := hP
                have hD : va_D A [(x, .inr (2, [.int p0, .ref q26_30, .null, .int 0, .int 0, .int 0, .int 0, .int 0])), (q26_30, .inl (kq26_30, 3, .inr (.inr (.inr (.inr (va_up (va_up (va_up (fun _ => none) 0 (some q44_32)) 1 (some q44_36)) 2 (some q44_40))))))), (q44_32, .inr (1, [.int 0, .ref b_34, .ref r_34, .int 0, .int 0])), (b_34, .inl (cb_34, (k * 24), .inl (fun _ => 0))), (r_34, .inl (cc_34, (k * 24), .inl (fun _ => 0))), (q44_36, .inr (1, [.int 1, .ref b_38, .ref r_38, .int 0, .int 0])), (b_38, .inl (cb_38, (k * 24), .inl (fun _ => 0))), (r_38, .inl (cc_38, (k * 24), .inl (fun _ => 0))), (q44_40, .inr (1, [.int 2, .ref b_42, .ref r_42, .int 0, .int 0])), (b_42, .inl (cb_42, (k * 24), .inl (fun _ => 0))), (r_42, .inl (cc_42, (k * 24), .inl (fun _ => 0))), (q69_44, .inl (kq69_44, 16, .inl (fun _ => 0)))] := hD
                refine W.widen (k := 11) (n := 9250) (by omega) (by omega) ?_
                refine va_putF (D := (dC, dI)) (ci := 2) (v := .ref q69_44) (ty := (.array .int)) (C := RX1) (T := TX1) (N := 8) hx hb hts (by decide +kernel) tyX1 tyX1_ok nmX1 hown hK hP hD hS 0 rfl rfl 2 (by decide) (hts (.fieldLink RX1 22 "ThreeFiles" "fed" "[I") (by decide +kernel)) (fun _ h9 => h9) rfl hin rfl (by decide +kernel) rfl rfl (Nat.le_of_ble_eq_true rfl) dX1_init_71 (fun H locs hP hD hS => ?_)
                have hP : va_P (dC, dI) vwCl [(x, .inr (2, [.int p0, .ref q26_30, .ref q69_44, .int 0, .int 0, .int 0, .int 0, .int 0])), (q26_30, .inl (kq26_30, 3, .inr (.inr (.inr (.inr (va_up (va_up (va_up (fun _ => none) 0 (some q44_32)) 1 (some q44_36)) 2 (some q44_40))))))), (q44_32, .inr (1, [.int 0, .ref b_34, .ref r_34, .int 0, .int 0])), (b_34, .inl (cb_34, (k * 24), .inl (fun _ => 0))), (r_34, .inl (cc_34, (k * 24), .inl (fun _ => 0))), (q44_36, .inr (1, [.int 1, .ref b_38, .ref r_38, .int 0, .int 0])), (b_38, .inl (cb_38, (k * 24), .inl (fun _ => 0))), (r_38, .inl (cc_38, (k * 24), .inl (fun _ => 0))), (q44_40, .inr (1, [.int 2, .ref b_42, .ref r_42, .int 0, .int 0])), (b_42, .inl (cb_42, (k * 24), .inl (fun _ => 0))), (r_42, .inl (cc_42, (k * 24), .inl (fun _ => 0))), (q69_44, .inl (kq69_44, 16, .inl (fun _ => 0)))] H := hP
                have hD : va_D A [(x, .inr (2, [.int p0, .ref q26_30, .ref q69_44, .int 0, .int 0, .int 0, .int 0, .int 0])), (q26_30, .inl (kq26_30, 3, .inr (.inr (.inr (.inr (va_up (va_up (va_up (fun _ => none) 0 (some q44_32)) 1 (some q44_36)) 2 (some q44_40))))))), (q44_32, .inr (1, [.int 0, .ref b_34, .ref r_34, .int 0, .int 0])), (b_34, .inl (cb_34, (k * 24), .inl (fun _ => 0))), (r_34, .inl (cc_34, (k * 24), .inl (fun _ => 0))), (q44_36, .inr (1, [.int 1, .ref b_38, .ref r_38, .int 0, .int 0])), (b_38, .inl (cb_38, (k * 24), .inl (fun _ => 0))), (r_38, .inl (cc_38, (k * 24), .inl (fun _ => 0))), (q44_40, .inr (1, [.int 2, .ref b_42, .ref r_42, .int 0, .int 0])), (b_42, .inl (cb_42, (k * 24), .inl (fun _ => 0))), (r_42, .inl (cc_42, (k * 24), .inl (fun _ => 0))), (q69_44, .inl (kq69_44, 16, .inl (fun _ => 0)))] := hD
                have hP9 := hP.sub (ws' := [(x, .inr (2, [.int p0, .ref q26_30, .ref q69_44, .int 0, .int 0, .int 0, .int 0, .int 0])), (q26_30, .inl (kq26_30, 3, .inr (.inr (.inr (.inr (va_up (va_up (va_up (fun _ => none) 0 (some q44_32)) 1 (some q44_36)) 2 (some q44_40))))))), (q44_32, .inr (1, [.int 0, .ref b_34, .ref r_34, .int 0, .int 0])), (q44_36, .inr (1, [.int 1, .ref b_38, .ref r_38, .int 0, .int 0])), (q44_40, .inr (1, [.int 2, .ref b_42, .ref r_42, .int 0, .int 0])), (q69_44, .inl (kq69_44, 16, .inl (fun _ => 0))), (b_34, .inl (cb_34, (k * 24), .inl (fun _ => 0))), (r_34, .inl (cc_34, (k * 24), .inl (fun _ => 0))), (b_38, .inl (cb_38, (k * 24), .inl (fun _ => 0))), (r_38, .inl (cc_38, (k * 24), .inl (fun _ => 0))), (b_42, .inl (cb_42, (k * 24), .inl (fun _ => 0))), (r_42, .inl (cc_42, (k * 24), .inl (fun _ => 0)))]) [0, 1, 2, 5, 8, 11, 3, 4, 6, 7, 9, 10] rfl
                have hD9 := hD.sub (ws' := [(x, .inr (2, [.int p0, .ref q26_30, .ref q69_44, .int 0, .int 0, .int 0, .int 0, .int 0])), (q26_30, .inl (kq26_30, 3, .inr (.inr (.inr (.inr (va_up (va_up (va_up (fun _ => none) 0 (some q44_32)) 1 (some q44_36)) 2 (some q44_40))))))), (q44_32, .inr (1, [.int 0, .ref b_34, .ref r_34, .int 0, .int 0])), (q44_36, .inr (1, [.int 1, .ref b_38, .ref r_38, .int 0, .int 0])), (q44_40, .inr (1, [.int 2, .ref b_42, .ref r_42, .int 0, .int 0])), (q69_44, .inl (kq69_44, 16, .inl (fun _ => 0))), (b_34, .inl (cb_34, (k * 24), .inl (fun _ => 0))), (r_34, .inl (cc_34, (k * 24), .inl (fun _ => 0))), (b_38, .inl (cb_38, (k * 24), .inl (fun _ => 0))), (r_38, .inl (cc_38, (k * 24), .inl (fun _ => 0))), (b_42, .inl (cb_42, (k * 24), .inl (fun _ => 0))), (r_42, .inl (cc_42, (k * 24), .inl (fun _ => 0)))]) [0, 1, 2, 5, 8, 11, 3, 4, 6, 7, 9, 10] (by decide) rfl
                have hK9 := hK.sub (tys' := [(kq26_30, .object RX0), (kq69_44, .int), (cb_34, .int), (cc_34, .int), (cb_38, .int), (cc_38, .int), (cb_42, .int), (cc_42, .int)]) [0, 7, 1, 2, 3, 4, 5, 6] rfl
                refine W.widen (k := 11) (n := 9250) (by omega) (by omega) ?_
                exact W.vret hx hb hr (fun t ht hW => ⟨⟨p0, rfl, (pc_c hpc hkp1 hkp2), (k * 24), q26_30, q44_32, q44_36, q44_40, q69_44, b_34, r_34, b_38, r_38, b_42, r_42, kq26_30, kq69_44, cb_34, cc_34, cb_38, cc_38, cb_42, cc_42, by omega, by rw [ht]; exact hP9, va_K.moved hW.alike hK9, hD9⟩, hS.F ht⟩) hS.2.2 dX1_init_74
              · exact absurd (by decide) c36_43

set_option maxHeartbeats 4000000 in
set_option maxRecDepth 100000 in
theorem c_setLength (l : Launch) (dC : Nat → ClassId) (dI : Nat → Nat → Nat) (sz : Nat) (f : Nat) (nu : Int32) (b r : Nat) (cB : ClassId) (N : Nat) (hN : N ≤ 1536) : Met l yX0_setLength wsX0_setLength ({ frames := 1, cells := 0, slots := 0, locals := 20 }) (va_Pc [.ref f, .int 0] (fun U => U.heap.size = sz ∧ va_P (dC, dI) vwCl [(f, .inr (1, [.int nu, .ref b, .ref r, .int 0, .int 0])), (b, .inl (cB, N, .inl (fun _ => 0)))] U.heap ∧ va_K (dC, dI) vwCl [(cB, .int)] U ∧ va_D (fun _ => True) [(f, .inr (1, [.int nu, .ref b, .ref r, .int 0, .int 0])), (b, .inl (cB, N, .inl (fun _ => 0)))])) (va_Qv (fun _ : Unit => True) (fun _ t => va_P (dC, dI) vwCl [(f, .inr (1, [.int nu, .ref b, .ref r, .int 0, .int 0])), (b, .inl (cB, N, .inl (fun _ => 0)))] t.heap ∧ va_K (dC, dI) vwCl [(cB, .int)] t ∧ va_D (va_A [(f, .inr (1, [.int nu, .ref b, .ref r, .int 0, .int 0])), (b, .inl (cB, N, .inl (fun _ => 0)))] sz) [(f, .inr (1, [.int nu, .ref b, .ref r, .int 0, .int 0])), (b, .inl (cB, N, .inl (fun _ => 0)))]) (va_A [(f, .inr (1, [.int nu, .ref b, .ref r, .int 0, .int 0])), (b, .inl (cB, N, .inl (fun _ => 0)))] sz)) 0 0 (va_A [(f, .inr (1, [.int nu, .ref b, .ref r, .int 0, .int 0])), (b, .inl (cB, N, .inl (fun _ => 0)))] sz) := by
  refine Met.ofW (cc := cX0_setLength) (maxL := 4) (ret := none) (by decide) rfl ?_
  intro p e s m args below meth c s₁ B hml hv
  obtain ⟨rfl, hsz, hP, hK, hD0⟩ := hv
  have hx := B.exec
  have hb := B.bytes
  have hr := B.returns
  have hts := atoms_spec (ws := wsX0_setLength) B.pre
  have hown : s.vm.findClass RX0 = some m.cls := findClass_of_methodNamed B.named
  have hlocks := B.notSynchronized
  subst hsz
  have hD := hD0.self (sz := s.heap.size)
  generalize hAe : va_A [(f, .inr (1, [.int nu, .ref b, .ref r, .int 0, .int 0])), (b, .inl (cB, N, .inl (fun _ => 0)))] s.heap.size = A at hD ⊢
  have hA : ∀ q : Nat, s.heap.size ≤ q → A q := fun q h => by rw [← hAe]; exact Or.inr h
  have hS : va_S A s.heap s.heap [] := va_S.rf
  have hP : va_P (dC, dI) vwCl [(f, .inr (1, [.int nu, .ref b, .ref r, .int 0, .int 0])), (b, .inl (cB, N, .inl (fun _ => 0)))] s.heap := hP
  have hl := lv_entry ([.ref f, .int 0]) (n := 4) (Nat.le_of_ble_eq_true rfl)
  rw [lg_entry_eq]
  generalize (lg_sl ([.ref f, .int 0]) ++ List.replicate (4 - (lg_sl ([.ref f, .int 0])).length) Slot.unset).toArray = ls at hl ⊢
  have hl : lv_has ls 4 [(0, .ref f), (1, .int 0)] := hl
  have hH0 : s.heap.size ≤ s.heap.size := Nat.le_refl _
  refine lv_iconst (v := 0) hx hb dX0_setLength_0 (by decide) ?_
  refine lv_iload_n hx hb dX0_setLength_1 rfl (lv_at hl 1 rfl) ?_
  refine lv_aload_n hx hb dX0_setLength_2 rfl (lv_at hl 0 rfl) ?_
  refine va_get (D := (dC, dI)) (ci := 1) (v := .ref b) (C := RX0) (T := TX0) (N := 5) hx hb hts (by decide +kernel) hown hK hP 0 rfl rfl 1 (by decide) (hts (.fieldLink RX0 15 "ThreeFiles$StoredFile" "bytes" "[I") (by decide +kernel)) (fun _ h9 => h9) rfl dX0_setLength_3 ?_
  refine va_alen hx hb hK hP 1 0 rfl rfl rfl dX0_setLength_6 ?_
  refine W.eq (g2 := F0 m 7 ls [.int (nI N), .int 0, .int 0]) (by rfl) ?_
  refine va_mmin hx hb (hml.trans hl.1.symm) hown (hts (.methodLink RX0 29 Lib.Math.min.name) (by decide +kernel)) (hts (.static Lib.Math.min.name) (by decide +kernel)) (hts (.initialized "java/lang/Math") (by decide +kernel)) (hts (.code Lib.Math.min.name Lib.Math.min.code 2 (some .int)) (by decide +kernel)) (Nat.le_of_ble_eq_true rfl) (Nat.le_of_ble_eq_true rfl) (Nat.zero_le _) (Nat.zero_le _) dX0_setLength_7 ?_
  refine W.eq (g2 := F0 m 10 ls [.int 0, .int 0]) (by rw [if_neg (nI_pos (by omega))]) ?_
  refine va_mmax hx hb (hml.trans hl.1.symm) hown (hts (.methodLink RX0 35 Lib.Math.max.name) (by decide +kernel)) (hts (.static Lib.Math.max.name) (by decide +kernel)) (hts (.initialized "java/lang/Math") (by decide +kernel)) (hts (.code Lib.Math.max.name Lib.Math.max.code 2 (some .int)) (by decide +kernel)) (Nat.le_of_ble_eq_true rfl) (Nat.le_of_ble_eq_true rfl) (Nat.zero_le _) (Nat.zero_le _) dX0_setLength_10 ?_
  refine W.eq (g2 := F0 m 13 ls [.int 0]) (by rfl) ?_
  refine lv_istore_n (lv' := [(2, .int 0), (0, .ref f), (1, .int 0)]) hx hb dX0_setLength_13 rfl hl (by decide) rfl (fun ls hl => ?_)
  refine lv_iload_n hx hb dX0_setLength_14 rfl (lv_at hl 0 rfl) ?_
  refine lv_istore_n (lv' := [(3, .int 0), (2, .int 0), (0, .ref f), (1, .int 0)]) hx hb dX0_setLength_15 rfl hl (by decide) rfl (fun ls hl => ?_)
  refine lv_iload_n hx hb dX0_setLength_16 rfl (lv_at hl 0 rfl) ?_
  refine lv_aload_n hx hb dX0_setLength_17 rfl (lv_at hl 2 rfl) ?_
  refine va_get (D := (dC, dI)) (ci := 1) (v := .int 0) (C := RX0) (T := TX0) (N := 5) hx hb hts (by decide +kernel) hown hK hP 0 rfl rfl 3 (by decide) (hts (.fieldLink RX0 22 "ThreeFiles$StoredFile" "length" "I") (by decide +kernel)) (fun _ h9 => h9) rfl dX0_setLength_18 ?_
  refine lv_icmp_ge (tgt := 37) hx hb dX0_setLength_21 (by decide) (fun c21_1 => ?_) (fun c21_1 => ?_)
  ·
    refine lv_aload_n hx hb dX0_setLength_37 rfl (lv_at hl 2 rfl) ?_
    refine lv_iload_n hx hb dX0_setLength_38 rfl (lv_at hl 1 rfl) ?_
    refine va_put (D := (dC, dI)) (ci := 1) (v := .int 0) (ty := .int) (C := RX0) (T := TX0) (N := 5) hx hb hts (by decide +kernel) tyX0 tyX0_ok nmX0 hown hK hP hD hS 0 rfl rfl 3 (by decide) (hts (.fieldLink RX0 22 "ThreeFiles$StoredFile" "length" "I") (by decide +kernel)) (fun _ h9 => h9) rfl (by decide +kernel) rfl rfl (Nat.le_of_ble_eq_true rfl) dX0_setLength_39 (fun H locs hP hD hS => ?_)
    have hP : va_P (dC, dI) vwCl [(f, .inr (1, [.int nu, .ref b, .ref r, .int 0, .int 0])), (b, .inl (cB, N, .inl (fun _ => 0)))] H := hP
    have hD : va_D A [(f, .inr (1, [.int nu, .ref b, .ref r, .int 0, .int 0])), (b, .inl (cB, N, .inl (fun _ => 0)))] := hD
    have hP9 := hP.sub (ws' := [(f, .inr (1, [.int nu, .ref b, .ref r, .int 0, .int 0])), (b, .inl (cB, N, .inl (fun _ => 0)))]) [0, 1] rfl
    have hD9 := hD.sub (ws' := [(f, .inr (1, [.int nu, .ref b, .ref r, .int 0, .int 0])), (b, .inl (cB, N, .inl (fun _ => 0)))]) [0, 1] (by decide) rfl
    have hK9 := hK.sub (tys' := [(cB, .int)]) [0] rfl
    refine W.widen (k := 0) (n := 0) (by omega) (by omega) ?_
    exact W.vret hx hb hr (fun t ht hW => ⟨⟨(), rfl, trivial, by rw [ht]; exact hP9, va_K.moved hW.alike hK9, hD9⟩, hS.F ht⟩) hS.2.2 dX0_setLength_42
  · exact absurd (by decide) c21_1

set_option maxHeartbeats 4000000 in
set_option maxRecDepth 100000 in
theorem c_reopen (l : Launch) (dC : Nat → ClassId) (dI : Nat → Nat → Nat) (sz : Nat) (x a f0 f1 f2 fe b0 r0 b1 r1 b2 r2 : Nat) (cR : ClassId) (pv : Int32) (c0 c1 c2 : ClassId) (N : Nat) (hNN : N ≤ 1536) : Met l yX1_reopen wsX1_reopen ({ frames := 3, cells := 0, slots := 0, locals := 65 }) (va_Pc [.ref x] (fun U => nwP U ∧ U.heap.size = sz ∧ va_P (dC, dI) vwCl [(x, .inr (2, [.int pv, .ref a, .ref fe, .int 0, .int 0, .int 0, .int 0, .int 0])), (a, .inl (cR, 3, .inr (.inr (.inr (.inr (gF f0 f1 f2)))))), (f0, .inr (1, [.int 0, .ref b0, .ref r0, .int 0, .int 0])), (f1, .inr (1, [.int 1, .ref b1, .ref r1, .int 0, .int 0])), (f2, .inr (1, [.int 2, .ref b2, .ref r2, .int 0, .int 0])), (b0, .inl (c0, N, .inl (fun _ => 0))), (b1, .inl (c1, N, .inl (fun _ => 0))), (b2, .inl (c2, N, .inl (fun _ => 0)))] U.heap ∧ va_K (dC, dI) vwCl [(cR, (.object "ThreeFiles$StoredFile")), (c0, .int), (c1, .int), (c2, .int)] U ∧ va_D (fun _ => True) [(x, .inr (2, [.int pv, .ref a, .ref fe, .int 0, .int 0, .int 0, .int 0, .int 0])), (a, .inl (cR, 3, .inr (.inr (.inr (.inr (gF f0 f1 f2)))))), (f0, .inr (1, [.int 0, .ref b0, .ref r0, .int 0, .int 0])), (f1, .inr (1, [.int 1, .ref b1, .ref r1, .int 0, .int 0])), (f2, .inr (1, [.int 2, .ref b2, .ref r2, .int 0, .int 0])), (b0, .inl (c0, N, .inl (fun _ => 0))), (b1, .inl (c1, N, .inl (fun _ => 0))), (b2, .inl (c2, N, .inl (fun _ => 0)))])) (va_Qi (fun r (_ : Unit) => r = 0) (fun _ _ => True) (va_A [(x, .inr (2, [.int pv, .ref a, .ref fe, .int 0, .int 0, .int 0, .int 0, .int 0])), (a, .inl (cR, 3, .inr (.inr (.inr (.inr (gF f0 f1 f2)))))), (f0, .inr (1, [.int 0, .ref b0, .ref r0, .int 0, .int 0])), (f1, .inr (1, [.int 1, .ref b1, .ref r1, .int 0, .int 0])), (f2, .inr (1, [.int 2, .ref b2, .ref r2, .int 0, .int 0])), (b0, .inl (c0, N, .inl (fun _ => 0))), (b1, .inl (c1, N, .inl (fun _ => 0))), (b2, .inl (c2, N, .inl (fun _ => 0)))] sz)) 0 0 (va_A [(x, .inr (2, [.int pv, .ref a, .ref fe, .int 0, .int 0, .int 0, .int 0, .int 0])), (a, .inl (cR, 3, .inr (.inr (.inr (.inr (gF f0 f1 f2)))))), (f0, .inr (1, [.int 0, .ref b0, .ref r0, .int 0, .int 0])), (f1, .inr (1, [.int 1, .ref b1, .ref r1, .int 0, .int 0])), (f2, .inr (1, [.int 2, .ref b2, .ref r2, .int 0, .int 0])), (b0, .inl (c0, N, .inl (fun _ => 0))), (b1, .inl (c1, N, .inl (fun _ => 0))), (b2, .inl (c2, N, .inl (fun _ => 0)))] sz) := by
  refine Met.ofW (cc := cX1_reopen) (maxL := 4) (ret := (some .int)) (by decide) rfl ?_
  intro p e s m args below meth c s₁ B hml hv
  obtain ⟨rfl, hN, hsz, hP, hK, hD0⟩ := hv
  have hx := B.exec
  have hb := B.bytes
  have hr := B.returns
  have hts := atoms_spec (ws := wsX1_reopen) B.pre
  have hown : s.vm.findClass RX1 = some m.cls := findClass_of_methodNamed B.named
  have hlocks := B.notSynchronized
  subst hsz
  have hD := hD0.self (sz := s.heap.size)
  generalize hAe : va_A [(x, .inr (2, [.int pv, .ref a, .ref fe, .int 0, .int 0, .int 0, .int 0, .int 0])), (a, .inl (cR, 3, .inr (.inr (.inr (.inr (gF f0 f1 f2)))))), (f0, .inr (1, [.int 0, .ref b0, .ref r0, .int 0, .int 0])), (f1, .inr (1, [.int 1, .ref b1, .ref r1, .int 0, .int 0])), (f2, .inr (1, [.int 2, .ref b2, .ref r2, .int 0, .int 0])), (b0, .inl (c0, N, .inl (fun _ => 0))), (b1, .inl (c1, N, .inl (fun _ => 0))), (b2, .inl (c2, N, .inl (fun _ => 0)))] s.heap.size = A at hD ⊢
  have hA : ∀ q : Nat, s.heap.size ≤ q → A q := fun q h => by rw [← hAe]; exact Or.inr h
  have hS : va_S A s.heap s.heap [] := va_S.rf
  have hP : va_P (dC, dI) vwCl [(x, .inr (2, [.int pv, .ref a, .ref fe, .int 0, .int 0, .int 0, .int 0, .int 0])), (a, .inl (cR, 3, .inr (.inr (.inr (.inr (gF f0 f1 f2)))))), (f0, .inr (1, [.int 0, .ref b0, .ref r0, .int 0, .int 0])), (f1, .inr (1, [.int 1, .ref b1, .ref r1, .int 0, .int 0])), (f2, .inr (1, [.int 2, .ref b2, .ref r2, .int 0, .int 0])), (b0, .inl (c0, N, .inl (fun _ => 0))), (b1, .inl (c1, N, .inl (fun _ => 0))), (b2, .inl (c2, N, .inl (fun _ => 0)))] s.heap := hP
  have hl := lv_entry ([.ref x]) (n := 4) (Nat.le_of_ble_eq_true rfl)
  rw [lg_entry_eq]
  generalize (lg_sl ([.ref x]) ++ List.replicate (4 - (lg_sl ([.ref x])).length) Slot.unset).toArray = ls at hl ⊢
  have hl : lv_has ls 4 [(0, .ref x)] := hl
  have hH0 : s.heap.size ≤ s.heap.size := Nat.le_refl _
  refine lv_aload_n hx hb dX1_reopen_0 rfl (lv_at hl 0 rfl) ?_
  have hPc := hP.sub (ws' := [(x, .inr (2, [.int pv, .ref a, .ref fe, .int 0, .int 0, .int 0, .int 0, .int 0])), (a, .inl (cR, 3, .inr (.inr (.inr (.inr (gF f0 f1 f2)))))), (f0, .inr (1, [.int 0, .ref b0, .ref r0, .int 0, .int 0])), (f1, .inr (1, [.int 1, .ref b1, .ref r1, .int 0, .int 0])), (f2, .inr (1, [.int 2, .ref b2, .ref r2, .int 0, .int 0]))]) [0, 1, 2, 3, 4] rfl
  have hKc := hK.sub (tys' := [(cR, (.object "ThreeFiles$StoredFile"))]) [0] rfl
  refine vp_callSi ((va_runV (As := []) (rest := []) ⟨hx, hb, hml, hown, hts⟩ (c_stripeCount l dC dI x a f0 f1 f2 fe b0 r0 b1 r1 b2 r2 cR pv) (cwV 0 hts gX1_reopen_X1_stripeCount rfl rfl rfl (by decide +kernel) ⟨Nat.le_of_ble_eq_true rfl, Nat.le_of_ble_eq_true rfl⟩) ⟨fun a U g mk q => by obtain ⟨q0, qN, qP, qK⟩ := q; exact ⟨q0, nwS qN, qP, va_K.moved (u := U) (U := U.calling g mk a) (Vm.Alike.refl U.vm) qK⟩, va_recv hKc hPc (ci := 2) (q0 := 0) rfl rfl, fun U hU hW => ⟨rfl, nwW hW hN, by rw [hU]; exact hPc, va_K.moved hW.alike hKc⟩⟩ rfl rfl hl.1 rfl (lv_room (Nat.le_of_ble_eq_true rfl)) dX1_reopen_1 ⟨Nat.le_of_ble_eq_true rfl, Nat.le_of_ble_eq_true rfl⟩)).run (fun r_1 hq_1 => ?_)
  obtain rfl : r_1 = 0 := hq_1
  refine lv_istore_n (lv' := [(1, .int 0), (0, .ref x)]) hx hb dX1_reopen_4 rfl hl (by decide) rfl (fun ls hl => ?_)
  refine lv_iconst (v := 0) hx hb dX1_reopen_5 (by decide) ?_
  refine lv_istore_n (lv' := [(2, .int 0), (1, .int 0), (0, .ref x)]) hx hb dX1_reopen_6 rfl hl (by decide) rfl (fun ls hl => ?_)
  refine lv_iload_n hx hb dX1_reopen_7 rfl (lv_at hl 0 rfl) ?_
  refine lv_iload_n hx hb dX1_reopen_8 rfl (lv_at hl 1 rfl) ?_
  refine lv_icmp_ge (tgt := 37) hx hb dX1_reopen_9 (by decide) (fun c9_2 => ?_) (fun c9_2 => ?_)
  ·
    refine lv_iconst (v := 0) hx hb dX1_reopen_37 (by decide) ?_
    refine lv_istore_n (lv' := [(2, .int 0), (1, .int 0), (0, .ref x)]) hx hb dX1_reopen_38 rfl hl (by decide) rfl (fun ls hl => ?_)
    refine lv_iload_n hx hb dX1_reopen_39 rfl (lv_at hl 0 rfl) ?_
    refine lv_iconst (v := 3) hx hb dX1_reopen_40 (by decide) ?_
    refine lv_icmp_ge (tgt := 63) hx hb dX1_reopen_41 (by decide) (fun c41_3 => ?_) (fun c41_3 => ?_)
    · exact absurd c41_3 (by decide)
    ·
      refine lv_aload_n hx hb dX1_reopen_44 rfl (lv_at hl 2 rfl) ?_
      refine va_get (D := (dC, dI)) (ci := 2) (v := .ref a) (C := RX1) (T := TX1) (N := 8) hx hb hts (by decide +kernel) hown hK hP 0 rfl rfl 1 (by decide) (hts (.fieldLink RX1 15 "ThreeFiles" "files" "[LThreeFiles$StoredFile;") (by decide +kernel)) (fun _ h9 => h9) rfl dX1_reopen_45 ?_
      refine lv_iload_n hx hb dX1_reopen_48 rfl (lv_at hl 0 rfl) ?_
      refine va_aldq hx hb hK hP 1 0 rfl rfl (i := 0) (by unfold vp_in; decide) dX1_reopen_49 ?_
      refine W.eq (g2 := F0 m 50 ls [.ref f0]) (by rfl) ?_
      refine lv_iload_n hx hb dX1_reopen_50 rfl (lv_at hl 1 rfl) ?_
      refine lv_bipush (v := 24) hx hb dX1_reopen_51 (by decide) ?_
      refine lv_imul hx hb dX1_reopen_53 ?_
      refine W.eq (g2 := F0 m 54 ls [.int 0, .ref f0]) (by rfl) ?_
      have hPc := hP.sub (ws' := [(f0, .inr (1, [.int 0, .ref b0, .ref r0, .int 0, .int 0])), (b0, .inl (c0, N, .inl (fun _ => 0)))]) [2, 5] rfl
      have hKc := hK.sub (tys' := [(c0, .int)]) [1] rfl
      have hDc := hD.sub (ws' := [(f0, .inr (1, [.int 0, .ref b0, .ref r0, .int 0, .int 0])), (b0, .inl (c0, N, .inl (fun _ => 0)))]) [2, 5] (by decide) rfl
      have hFc := va_free (wc := [(f0, .inr (1, [.int 0, .ref b0, .ref r0, .int 0, .int 0])), (b0, .inl (c0, N, .inl (fun _ => 0)))]) hD hS hA [2, 5] rfl
      refine va_callv (va_runVN (As := [.int 0]) (rest := []) ⟨hx, hb, hml, hown, hts⟩ (c_setLength l dC dI s.heap.size f0 0 b0 r0 c0 N hNN) ⟨va_cnB 1 hts gX1_reopen_X0_setLength_n72 rfl rfl rfl hN.n72 (hts (.initialized RX0) (by decide +kernel)) (by decide +kernel) ⟨Nat.le_of_ble_eq_true rfl, Nat.le_of_ble_eq_true rfl⟩, hts (.instanceMethod yX0_setLength) (by decide +kernel), hts (.selects RX0 yX0_setLength yX0_setLength) (by decide +kernel)⟩ ⟨fun a U g mk q => by obtain ⟨q0, q1, qP, qK, qD⟩ := q; exact ⟨q0, q1, qP, va_K.moved (u := U) (U := U.calling g mk a) (Vm.Alike.refl U.vm) qK, qD⟩, va_recv hKc hPc (ci := 1) (q0 := 0) rfl rfl, fun U hU hW => ⟨rfl, by rw [hU], by rw [hU]; exact hPc, va_K.moved hW.alike hKc, hDc.weaken (fun _ _ _ _ => trivial)⟩⟩ rfl rfl hl.1 rfl (lv_room (Nat.le_of_ble_eq_true rfl)) dX1_reopen_54 ⟨Nat.le_of_ble_eq_true rfl, Nat.le_of_ble_eq_true rfl⟩) hS (fun q _ h => hFc q h) hFc (fun u t H1 locs ht hvm hw hB hz1 hk1 hS => ?_)
      obtain ⟨hP1, hK1, hD1⟩ := hB
      rw [ht] at hP1
      have hK1 := va_K.moved hvm.symm hK1
      obtain ⟨hP, hD⟩ := va_join (wr := [(x, .inr (2, [.int pv, .ref a, .ref fe, .int 0, .int 0, .int 0, .int 0, .int 0])), (a, .inl (cR, 3, .inr (.inr (.inr (.inr (gF f0 f1 f2)))))), (f1, .inr (1, [.int 1, .ref b1, .ref r1, .int 0, .int 0])), (f2, .inr (1, [.int 2, .ref b2, .ref r2, .int 0, .int 0])), (b1, .inl (c1, N, .inl (fun _ => 0))), (b2, .inl (c2, N, .inl (fun _ => 0)))]) (w1 := [(f0, .inr (1, [.int 0, .ref b0, .ref r0, .int 0, .int 0])), (b0, .inl (c0, N, .inl (fun _ => 0)))]) hP hD [2, 5] [0, 1, 3, 4, 6, 7] rfl rfl (by decide) (by decide) hk1 hFc hP1 hD1
      generalize H1 = H at hP hS ⊢
      have hP : va_P (dC, dI) vwCl [(x, .inr (2, [.int pv, .ref a, .ref fe, .int 0, .int 0, .int 0, .int 0, .int 0])), (a, .inl (cR, 3, .inr (.inr (.inr (.inr (gF f0 f1 f2)))))), (f1, .inr (1, [.int 1, .ref b1, .ref r1, .int 0, .int 0])), (f2, .inr (1, [.int 2, .ref b2, .ref r2, .int 0, .int 0])), (b1, .inl (c1, N, .inl (fun _ => 0))), (b2, .inl (c2, N, .inl (fun _ => 0))), (f0, .inr (1, [.int 0, .ref b0, .ref r0, .int 0, .int 0])), (b0, .inl (c0, N, .inl (fun _ => 0)))] H := hP
      have hD : va_D A [(x, .inr (2, [.int pv, .ref a, .ref fe, .int 0, .int 0, .int 0, .int 0, .int 0])), (a, .inl (cR, 3, .inr (.inr (.inr (.inr (gF f0 f1 f2)))))), (f1, .inr (1, [.int 1, .ref b1, .ref r1, .int 0, .int 0])), (f2, .inr (1, [.int 2, .ref b2, .ref r2, .int 0, .int 0])), (b1, .inl (c1, N, .inl (fun _ => 0))), (b2, .inl (c2, N, .inl (fun _ => 0))), (f0, .inr (1, [.int 0, .ref b0, .ref r0, .int 0, .int 0])), (b0, .inl (c0, N, .inl (fun _ => 0)))] := hD
      refine W.widen (k := 0) (n := 0) (by omega) (by omega) ?_
      refine lv_iinc (v := 1) (lv' := [(2, .int 1), (1, .int 0), (0, .ref x)]) hx hb dX1_reopen_57 hl (k := 0) rfl (by decide) (by decide) rfl (fun ls hl => ?_)
      refine lv_goto (tgt := 39) hx hb dX1_reopen_60 (by decide) ?_
      refine lv_iload_n hx hb dX1_reopen_39 rfl (lv_at hl 0 rfl) ?_
      refine lv_iconst (v := 3) hx hb dX1_reopen_40 (by decide) ?_
      refine lv_icmp_ge (tgt := 63) hx hb dX1_reopen_41 (by decide) (fun c41_4 => ?_) (fun c41_4 => ?_)
      · exact absurd c41_4 (by decide)
      ·
        refine lv_aload_n hx hb dX1_reopen_44 rfl (lv_at hl 2 rfl) ?_
        refine va_get (D := (dC, dI)) (ci := 2) (v := .ref a) (C := RX1) (T := TX1) (N := 8) hx hb hts (by decide +kernel) hown hK hP 0 rfl rfl 1 (by decide) (hts (.fieldLink RX1 15 "ThreeFiles" "files" "[LThreeFiles$StoredFile;") (by decide +kernel)) (fun _ h9 => h9) rfl dX1_reopen_45 ?_
        refine lv_iload_n hx hb dX1_reopen_48 rfl (lv_at hl 0 rfl) ?_
        refine va_aldq hx hb hK hP 1 0 rfl rfl (i := 1) (by unfold vp_in; decide) dX1_reopen_49 ?_
        refine W.eq (g2 := F0 m 50 ls [.ref f1]) (by rfl) ?_
        refine lv_iload_n hx hb dX1_reopen_50 rfl (lv_at hl 1 rfl) ?_
        refine lv_bipush (v := 24) hx hb dX1_reopen_51 (by decide) ?_
        refine lv_imul hx hb dX1_reopen_53 ?_
        refine W.eq (g2 := F0 m 54 ls [.int 0, .ref f1]) (by rfl) ?_
        have hPc := hP.sub (ws' := [(f1, .inr (1, [.int 1, .ref b1, .ref r1, .int 0, .int 0])), (b1, .inl (c1, N, .inl (fun _ => 0)))]) [2, 4] rfl
        have hKc := hK.sub (tys' := [(c1, .int)]) [2] rfl
        have hDc := hD.sub (ws' := [(f1, .inr (1, [.int 1, .ref b1, .ref r1, .int 0, .int 0])), (b1, .inl (c1, N, .inl (fun _ => 0)))]) [2, 4] (by decide) rfl
        have hFc := va_free (wc := [(f1, .inr (1, [.int 1, .ref b1, .ref r1, .int 0, .int 0])), (b1, .inl (c1, N, .inl (fun _ => 0)))]) hD hS hA [2, 4] rfl
        refine va_callv (va_runVN (As := [.int 0]) (rest := []) ⟨hx, hb, hml, hown, hts⟩ (c_setLength l dC dI H.size f1 1 b1 r1 c1 N hNN) ⟨va_cnB 1 hts gX1_reopen_X0_setLength_n72 rfl rfl rfl hN.n72 (hts (.initialized RX0) (by decide +kernel)) (by decide +kernel) ⟨Nat.le_of_ble_eq_true rfl, Nat.le_of_ble_eq_true rfl⟩, hts (.instanceMethod yX0_setLength) (by decide +kernel), hts (.selects RX0 yX0_setLength yX0_setLength) (by decide +kernel)⟩ ⟨fun a U g mk q => by obtain ⟨q0, q1, qP, qK, qD⟩ := q; exact ⟨q0, q1, qP, va_K.moved (u := U) (U := U.calling g mk a) (Vm.Alike.refl U.vm) qK, qD⟩, va_recv hKc hPc (ci := 1) (q0 := 0) rfl rfl, fun U hU hW => ⟨rfl, by rw [hU], by rw [hU]; exact hPc, va_K.moved hW.alike hKc, hDc.weaken (fun _ _ _ _ => trivial)⟩⟩ rfl rfl hl.1 rfl (lv_room (Nat.le_of_ble_eq_true rfl)) dX1_reopen_54 ⟨Nat.le_of_ble_eq_true rfl, Nat.le_of_ble_eq_true rfl⟩) hS (fun q _ h => hFc q h) hFc (fun u t H1 locs ht hvm hw hB hz1 hk1 hS => ?_)
        obtain ⟨hP1, hK1, hD1⟩ := hB
        rw [ht] at hP1
        have hK1 := va_K.moved hvm.symm hK1
        obtain ⟨hP, hD⟩ := va_join (wr := [(x, .inr (2, [.int pv, .ref a, .ref fe, .int 0, .int 0, .int 0, .int 0, .int 0])), (a, .inl (cR, 3, .inr (.inr (.inr (.inr (gF f0 f1 f2)))))), (f2, .inr (1, [.int 2, .ref b2, .ref r2, .int 0, .int 0])), (b2, .inl (c2, N, .inl (fun _ => 0))), (f0, .inr (1, [.int 0, .ref b0, .ref r0, .int 0, .int 0])), (b0, .inl (c0, N, .inl (fun _ => 0)))]) (w1 := [(f1, .inr (1, [.int 1, .ref b1, .ref r1, .int 0, .int 0])), (b1, .inl (c1, N, .inl (fun _ => 0)))]) hP hD [2, 4] [0, 1, 3, 5, 6, 7] rfl rfl (by decide) (by decide) hk1 hFc hP1 hD1
        generalize H1 = H at hP hS ⊢
        have hP : va_P (dC, dI) vwCl [(x, .inr (2, [.int pv, .ref a, .ref fe, .int 0, .int 0, .int 0, .int 0, .int 0])), (a, .inl (cR, 3, .inr (.inr (.inr (.inr (gF f0 f1 f2)))))), (f2, .inr (1, [.int 2, .ref b2, .ref r2, .int 0, .int 0])), (b2, .inl (c2, N, .inl (fun _ => 0))), (f0, .inr (1, [.int 0, .ref b0, .ref r0, .int 0, .int 0])), (b0, .inl (c0, N, .inl (fun _ => 0))), (f1, .inr (1, [.int 1, .ref b1, .ref r1, .int 0, .int 0])), (b1, .inl (c1, N, .inl (fun _ => 0)))] H := hP
        have hD : va_D A [(x, .inr (2, [.int pv, .ref a, .ref fe, .int 0, .int 0, .int 0, .int 0, .int 0])), (a, .inl (cR, 3, .inr (.inr (.inr (.inr (gF f0 f1 f2)))))), (f2, .inr (1, [.int 2, .ref b2, .ref r2, .int 0, .int 0])), (b2, .inl (c2, N, .inl (fun _ => 0))), (f0, .inr (1, [.int 0, .ref b0, .ref r0, .int 0, .int 0])), (b0, .inl (c0, N, .inl (fun _ => 0))), (f1, .inr (1, [.int 1, .ref b1, .ref r1, .int 0, .int 0])), (b1, .inl (c1, N, .inl (fun _ => 0)))] := hD
        refine W.widen (k := 0) (n := 0) (by omega) (by omega) ?_
        refine lv_iinc (v := 2) (lv' := [(2, .int 2), (1, .int 0), (0, .ref x)]) hx hb dX1_reopen_57 hl (k := 0) rfl (by decide) (by decide) rfl (fun ls hl => ?_)
        refine lv_goto (tgt := 39) hx hb dX1_reopen_60 (by decide) ?_
        refine lv_iload_n hx hb dX1_reopen_39 rfl (lv_at hl 0 rfl) ?_
        refine lv_iconst (v := 3) hx hb dX1_reopen_40 (by decide) ?_
        refine lv_icmp_ge (tgt := 63) hx hb dX1_reopen_41 (by decide) (fun c41_5 => ?_) (fun c41_5 => ?_)
        · exact absurd c41_5 (by decide)
        ·
          refine lv_aload_n hx hb dX1_reopen_44 rfl (lv_at hl 2 rfl) ?_
          refine va_get (D := (dC, dI)) (ci := 2) (v := .ref a) (C := RX1) (T := TX1) (N := 8) hx hb hts (by decide +kernel) hown hK hP 0 rfl rfl 1 (by decide) (hts (.fieldLink RX1 15 "ThreeFiles" "files" "[LThreeFiles$StoredFile;") (by decide +kernel)) (fun _ h9 => h9) rfl dX1_reopen_45 ?_
          refine lv_iload_n hx hb dX1_reopen_48 rfl (lv_at hl 0 rfl) ?_
          refine va_aldq hx hb hK hP 1 0 rfl rfl (i := 2) (by unfold vp_in; decide) dX1_reopen_49 ?_
          refine W.eq (g2 := F0 m 50 ls [.ref f2]) (by rfl) ?_
          refine lv_iload_n hx hb dX1_reopen_50 rfl (lv_at hl 1 rfl) ?_
          refine lv_bipush (v := 24) hx hb dX1_reopen_51 (by decide) ?_
          refine lv_imul hx hb dX1_reopen_53 ?_
          refine W.eq (g2 := F0 m 54 ls [.int 0, .ref f2]) (by rfl) ?_
          have hPc := hP.sub (ws' := [(f2, .inr (1, [.int 2, .ref b2, .ref r2, .int 0, .int 0])), (b2, .inl (c2, N, .inl (fun _ => 0)))]) [2, 3] rfl
          have hKc := hK.sub (tys' := [(c2, .int)]) [3] rfl
          have hDc := hD.sub (ws' := [(f2, .inr (1, [.int 2, .ref b2, .ref r2, .int 0, .int 0])), (b2, .inl (c2, N, .inl (fun _ => 0)))]) [2, 3] (by decide) rfl
          have hFc := va_free (wc := [(f2, .inr (1, [.int 2, .ref b2, .ref r2, .int 0, .int 0])), (b2, .inl (c2, N, .inl (fun _ => 0)))]) hD hS hA [2, 3] rfl
          refine va_callv (va_runVN (As := [.int 0]) (rest := []) ⟨hx, hb, hml, hown, hts⟩ (c_setLength l dC dI H.size f2 2 b2 r2 c2 N hNN) ⟨va_cnB 1 hts gX1_reopen_X0_setLength_n72 rfl rfl rfl hN.n72 (hts (.initialized RX0) (by decide +kernel)) (by decide +kernel) ⟨Nat.le_of_ble_eq_true rfl, Nat.le_of_ble_eq_true rfl⟩, hts (.instanceMethod yX0_setLength) (by decide +kernel), hts (.selects RX0 yX0_setLength yX0_setLength) (by decide +kernel)⟩ ⟨fun a U g mk q => by obtain ⟨q0, q1, qP, qK, qD⟩ := q; exact ⟨q0, q1, qP, va_K.moved (u := U) (U := U.calling g mk a) (Vm.Alike.refl U.vm) qK, qD⟩, va_recv hKc hPc (ci := 1) (q0 := 0) rfl rfl, fun U hU hW => ⟨rfl, by rw [hU], by rw [hU]; exact hPc, va_K.moved hW.alike hKc, hDc.weaken (fun _ _ _ _ => trivial)⟩⟩ rfl rfl hl.1 rfl (lv_room (Nat.le_of_ble_eq_true rfl)) dX1_reopen_54 ⟨Nat.le_of_ble_eq_true rfl, Nat.le_of_ble_eq_true rfl⟩) hS (fun q _ h => hFc q h) hFc (fun u t H1 locs ht hvm hw hB hz1 hk1 hS => ?_)
          obtain ⟨hP1, hK1, hD1⟩ := hB
          rw [ht] at hP1
          have hK1 := va_K.moved hvm.symm hK1
          obtain ⟨hP, hD⟩ := va_join (wr := [(x, .inr (2, [.int pv, .ref a, .ref fe, .int 0, .int 0, .int 0, .int 0, .int 0])), (a, .inl (cR, 3, .inr (.inr (.inr (.inr (gF f0 f1 f2)))))), (f0, .inr (1, [.int 0, .ref b0, .ref r0, .int 0, .int 0])), (b0, .inl (c0, N, .inl (fun _ => 0))), (f1, .inr (1, [.int 1, .ref b1, .ref r1, .int 0, .int 0])), (b1, .inl (c1, N, .inl (fun _ => 0)))]) (w1 := [(f2, .inr (1, [.int 2, .ref b2, .ref r2, .int 0, .int 0])), (b2, .inl (c2, N, .inl (fun _ => 0)))]) hP hD [2, 3] [0, 1, 4, 5, 6, 7] rfl rfl (by decide) (by decide) hk1 hFc hP1 hD1
          generalize H1 = H at hP hS ⊢
          have hP : va_P (dC, dI) vwCl [(x, .inr (2, [.int pv, .ref a, .ref fe, .int 0, .int 0, .int 0, .int 0, .int 0])), (a, .inl (cR, 3, .inr (.inr (.inr (.inr (gF f0 f1 f2)))))), (f0, .inr (1, [.int 0, .ref b0, .ref r0, .int 0, .int 0])), (b0, .inl (c0, N, .inl (fun _ => 0))), (f1, .inr (1, [.int 1, .ref b1, .ref r1, .int 0, .int 0])), (b1, .inl (c1, N, .inl (fun _ => 0))), (f2, .inr (1, [.int 2, .ref b2, .ref r2, .int 0, .int 0])), (b2, .inl (c2, N, .inl (fun _ => 0)))] H := hP
          have hD : va_D A [(x, .inr (2, [.int pv, .ref a, .ref fe, .int 0, .int 0, .int 0, .int 0, .int 0])), (a, .inl (cR, 3, .inr (.inr (.inr (.inr (gF f0 f1 f2)))))), (f0, .inr (1, [.int 0, .ref b0, .ref r0, .int 0, .int 0])), (b0, .inl (c0, N, .inl (fun _ => 0))), (f1, .inr (1, [.int 1, .ref b1, .ref r1, .int 0, .int 0])), (b1, .inl (c1, N, .inl (fun _ => 0))), (f2, .inr (1, [.int 2, .ref b2, .ref r2, .int 0, .int 0])), (b2, .inl (c2, N, .inl (fun _ => 0)))] := hD
          refine W.widen (k := 0) (n := 0) (by omega) (by omega) ?_
          refine lv_iinc (v := 3) (lv' := [(2, .int 3), (1, .int 0), (0, .ref x)]) hx hb dX1_reopen_57 hl (k := 0) rfl (by decide) (by decide) rfl (fun ls hl => ?_)
          refine lv_goto (tgt := 39) hx hb dX1_reopen_60 (by decide) ?_
          refine lv_iload_n hx hb dX1_reopen_39 rfl (lv_at hl 0 rfl) ?_
          refine lv_iconst (v := 3) hx hb dX1_reopen_40 (by decide) ?_
          refine lv_icmp_ge (tgt := 63) hx hb dX1_reopen_41 (by decide) (fun c41_6 => ?_) (fun c41_6 => ?_)
          ·
            refine lv_aload_n hx hb dX1_reopen_63 rfl (lv_at hl 2 rfl) ?_
            refine lv_iconst (v := 0) hx hb dX1_reopen_64 (by decide) ?_
            refine va_put (D := (dC, dI)) (ci := 2) (v := .int 0) (ty := .boolean) (C := RX1) (T := TX1) (N := 8) hx hb hts (by decide +kernel) tyX1 tyX1_ok nmX1 hown hK hP hD hS 0 rfl rfl 4 (by decide) (hts (.fieldLink RX1 29 "ThreeFiles" "closed" "Z") (by decide +kernel)) (fun _ h9 => h9) rfl (by decide +kernel) rfl rfl (Nat.le_of_ble_eq_true rfl) dX1_reopen_65 (fun H locs hP hD hS => ?_)
            have hP : va_P (dC, dI) vwCl [(x, .inr (2, [.int pv, .ref a, .ref fe, .int 0, .int 0, .int 0, .int 0, .int 0])), (a, .inl (cR, 3, .inr (.inr (.inr (.inr (gF f0 f1 f2)))))), (f0, .inr (1, [.int 0, .ref b0, .ref r0, .int 0, .int 0])), (b0, .inl (c0, N, .inl (fun _ => 0))), (f1, .inr (1, [.int 1, .ref b1, .ref r1, .int 0, .int 0])), (b1, .inl (c1, N, .inl (fun _ => 0))), (f2, .inr (1, [.int 2, .ref b2, .ref r2, .int 0, .int 0])), (b2, .inl (c2, N, .inl (fun _ => 0)))] H := hP
            have hD : va_D A [(x, .inr (2, [.int pv, .ref a, .ref fe, .int 0, .int 0, .int 0, .int 0, .int 0])), (a, .inl (cR, 3, .inr (.inr (.inr (.inr (gF f0 f1 f2)))))), (f0, .inr (1, [.int 0, .ref b0, .ref r0, .int 0, .int 0])), (b0, .inl (c0, N, .inl (fun _ => 0))), (f1, .inr (1, [.int 1, .ref b1, .ref r1, .int 0, .int 0])), (b1, .inl (c1, N, .inl (fun _ => 0))), (f2, .inr (1, [.int 2, .ref b2, .ref r2, .int 0, .int 0])), (b2, .inl (c2, N, .inl (fun _ => 0)))] := hD
            refine lv_aload_n hx hb dX1_reopen_68 rfl (lv_at hl 2 rfl) ?_
            have hPc := hP.sub (ws' := [(x, .inr (2, [.int pv, .ref a, .ref fe, .int 0, .int 0, .int 0, .int 0, .int 0])), (a, .inl (cR, 3, .inr (.inr (.inr (.inr (gF f0 f1 f2)))))), (f0, .inr (1, [.int 0, .ref b0, .ref r0, .int 0, .int 0])), (f1, .inr (1, [.int 1, .ref b1, .ref r1, .int 0, .int 0])), (f2, .inr (1, [.int 2, .ref b2, .ref r2, .int 0, .int 0]))]) [0, 1, 2, 4, 6] rfl
            have hKc := hK.sub (tys' := [(cR, (.object "ThreeFiles$StoredFile"))]) [0] rfl
            refine vp_callSi ((va_runV (As := []) (rest := []) ⟨hx, hb, hml, hown, hts⟩ (c_readable l dC dI x a f0 f1 f2 fe b0 r0 b1 r1 b2 r2 cR pv) (cwV 0 hts gX1_reopen_X1_readableRowsWithContents rfl rfl rfl (by decide +kernel) ⟨Nat.le_of_ble_eq_true rfl, Nat.le_of_ble_eq_true rfl⟩) ⟨fun a U g mk q => by obtain ⟨q0, qN, qP, qK⟩ := q; exact ⟨q0, nwS qN, qP, va_K.moved (u := U) (U := U.calling g mk a) (Vm.Alike.refl U.vm) qK⟩, va_recv hKc hPc (ci := 2) (q0 := 0) rfl rfl, fun U hU hW => ⟨rfl, nwW hW hN, by rw [hU]; exact hPc, va_K.moved hW.alike hKc⟩⟩ rfl rfl hl.1 rfl (lv_room (Nat.le_of_ble_eq_true rfl)) dX1_reopen_69 ⟨Nat.le_of_ble_eq_true rfl, Nat.le_of_ble_eq_true rfl⟩)).run (fun r_7 hq_7 => ?_)
            obtain rfl : r_7 = 0 := hq_7
            exact W.iret (v := 0) hx hb hr (fun t ht hW => ⟨⟨0, (), rfl, rfl, trivial⟩, hS.F ht⟩) hS.2.2 dX1_reopen_72
          · exact absurd (by decide) c41_6
  · exact absurd (by decide) c9_2

set_option maxHeartbeats 4000000 in
set_option maxRecDepth 100000 in
theorem c_feed (l : Launch) (dC : Nat → ClassId) (dI : Nat → Nat → Nat) (sz : Nat) (x a fe : Nat) (cF : ClassId) (pv : Int32) (p0 : Int32) : Met l yX1_feed wsX1_feed ({ frames := 0, cells := 0, slots := 0, locals := 0 }) (va_Pc [.ref x, .int p0] (fun U => U.heap.size = sz ∧ va_P (dC, dI) vwCl [(x, .inr (2, [.int pv, .ref a, .ref fe, .int 0, .int 0, .int 0, .int 0, .int 0])), (fe, .inl (cF, 16, .inl (fun _ => 0)))] U.heap ∧ va_K (dC, dI) vwCl [(cF, .int)] U ∧ va_D (fun _ => True) [(x, .inr (2, [.int pv, .ref a, .ref fe, .int 0, .int 0, .int 0, .int 0, .int 0])), (fe, .inl (cF, 16, .inl (fun _ => 0)))])) (va_Qi (fun r (_ : Unit) => r = (if 0 ≤ p0 ∧ p0 ≤ 255 then 1 else 0)) (fun _ _ => True) (va_A [(x, .inr (2, [.int pv, .ref a, .ref fe, .int 0, .int 0, .int 0, .int 0, .int 0])), (fe, .inl (cF, 16, .inl (fun _ => 0)))] sz)) 0 0 (va_A [(x, .inr (2, [.int pv, .ref a, .ref fe, .int 0, .int 0, .int 0, .int 0, .int 0])), (fe, .inl (cF, 16, .inl (fun _ => 0)))] sz) := by
  refine Met.ofW (cc := cX1_feed) (maxL := 2) (ret := (some .boolean)) (by decide) rfl ?_
  intro p e s m args below meth c s₁ B hml hv
  obtain ⟨rfl, hsz, hP, hK, hD0⟩ := hv
  have hx := B.exec
  have hb := B.bytes
  have hr := B.returns
  have hts := atoms_spec (ws := wsX1_feed) B.pre
  have hown : s.vm.findClass RX1 = some m.cls := findClass_of_methodNamed B.named
  have hlocks := B.notSynchronized
  subst hsz
  have hD := hD0.self (sz := s.heap.size)
  generalize hAe : va_A [(x, .inr (2, [.int pv, .ref a, .ref fe, .int 0, .int 0, .int 0, .int 0, .int 0])), (fe, .inl (cF, 16, .inl (fun _ => 0)))] s.heap.size = A at hD ⊢
  have hA : ∀ q : Nat, s.heap.size ≤ q → A q := fun q h => by rw [← hAe]; exact Or.inr h
  have hS : va_S A s.heap s.heap [] := va_S.rf
  have hP : va_P (dC, dI) vwCl [(x, .inr (2, [.int pv, .ref a, .ref fe, .int 0, .int 0, .int 0, .int 0, .int 0])), (fe, .inl (cF, 16, .inl (fun _ => 0)))] s.heap := hP
  have hl := lv_entry ([.ref x, .int p0]) (n := 2) (Nat.le_of_ble_eq_true rfl)
  rw [lg_entry_eq]
  generalize (lg_sl ([.ref x, .int p0]) ++ List.replicate (2 - (lg_sl ([.ref x, .int p0])).length) Slot.unset).toArray = ls at hl ⊢
  have hl : lv_has ls 2 [(0, .ref x), (1, .int p0)] := hl
  have hH0 : s.heap.size ≤ s.heap.size := Nat.le_refl _
  refine lv_iload_n hx hb dX1_feed_0 rfl (lv_at hl 1 rfl) ?_
  refine lv_if_lt (tgt := 20) hx hb dX1_feed_1 (by decide) (fun c1_1 => ?_) (fun c1_1 => ?_)
  ·
    refine lv_iconst (v := 0) hx hb dX1_feed_20 (by decide) ?_
    exact W.zret (ty := .boolean) (v := 0) hx hb hr rfl (fun t ht hW => ⟨⟨0, (), rfl, (if_neg (fun q => q_nlt q.1 c1_1)).symm, trivial⟩, hS.F ht⟩) hS.2.2 dX1_feed_21
  ·
    refine lv_iload_n hx hb dX1_feed_4 rfl (lv_at hl 1 rfl) ?_
    refine lv_sipush (v := 255) hx hb dX1_feed_5 (by decide) ?_
    refine lv_icmp_gt (tgt := 20) hx hb dX1_feed_8 (by decide) (fun c8_2 => ?_) (fun c8_2 => ?_)
    ·
      refine lv_iconst (v := 0) hx hb dX1_feed_20 (by decide) ?_
      exact W.zret (ty := .boolean) (v := 0) hx hb hr rfl (fun t ht hW => ⟨⟨0, (), rfl, (if_neg (fun q => q_nlt q.2 c8_2)).symm, trivial⟩, hS.F ht⟩) hS.2.2 dX1_feed_21
    ·
      refine lv_aload_n hx hb dX1_feed_11 rfl (lv_at hl 0 rfl) ?_
      refine va_get (D := (dC, dI)) (ci := 2) (v := .int 0) (C := RX1) (T := TX1) (N := 8) hx hb hts (by decide +kernel) hown hK hP 0 rfl rfl 3 (by decide) (hts (.fieldLink RX1 26 "ThreeFiles" "fedCount" "I") (by decide +kernel)) (fun _ h9 => h9) rfl dX1_feed_12 ?_
      refine lv_bipush (v := 16) hx hb dX1_feed_15 (by decide) ?_
      refine lv_icmp_lt (tgt := 22) hx hb dX1_feed_17 (by decide) (fun c17_3 => ?_) (fun c17_3 => ?_)
      ·
        refine lv_aload_n hx hb dX1_feed_22 rfl (lv_at hl 0 rfl) ?_
        refine va_get (D := (dC, dI)) (ci := 2) (v := .ref fe) (C := RX1) (T := TX1) (N := 8) hx hb hts (by decide +kernel) hown hK hP 0 rfl rfl 2 (by decide) (hts (.fieldLink RX1 22 "ThreeFiles" "fed" "[I") (by decide +kernel)) (fun _ h9 => h9) rfl dX1_feed_23 ?_
        refine lv_aload_n hx hb dX1_feed_26 rfl (lv_at hl 0 rfl) ?_
        refine va_get (D := (dC, dI)) (ci := 2) (v := .int 0) (C := RX1) (T := TX1) (N := 8) hx hb hts (by decide +kernel) hown hK hP 0 rfl rfl 3 (by decide) (hts (.fieldLink RX1 26 "ThreeFiles" "fedCount" "I") (by decide +kernel)) (fun _ h9 => h9) rfl dX1_feed_27 ?_
        refine lv_iload_n hx hb dX1_feed_30 rfl (lv_at hl 1 rfl) ?_
        refine va_iast hx hb hK hP hD hS 1 0 rfl rfl (i := 0) (x := p0) (by unfold vp_in; decide) dX1_feed_31 (fun H locs hP hD hS => ?_)
        have hP : va_P (dC, dI) vwCl [(x, .inr (2, [.int pv, .ref a, .ref fe, .int 0, .int 0, .int 0, .int 0, .int 0])), (fe, .inl (cF, 16, .inl (upd (fun _ => 0) 0 p0)))] H := hP
        have hD : va_D A [(x, .inr (2, [.int pv, .ref a, .ref fe, .int 0, .int 0, .int 0, .int 0, .int 0])), (fe, .inl (cF, 16, .inl (upd (fun _ => 0) 0 p0)))] := hD
        refine lv_aload_n hx hb dX1_feed_32 rfl (lv_at hl 0 rfl) ?_
        refine lv_dup hx hb dX1_feed_33 rfl ?_
        refine va_get (D := (dC, dI)) (ci := 2) (v := .int 0) (C := RX1) (T := TX1) (N := 8) hx hb hts (by decide +kernel) hown hK hP 0 rfl rfl 3 (by decide) (hts (.fieldLink RX1 26 "ThreeFiles" "fedCount" "I") (by decide +kernel)) (fun _ h9 => h9) rfl dX1_feed_34 ?_
        refine lv_iconst (v := 1) hx hb dX1_feed_37 (by decide) ?_
        refine lv_iadd hx hb dX1_feed_38 ?_
        refine W.eq (g2 := F0 m 39 ls [.int 1, .ref x]) (by rfl) ?_
        refine va_put (D := (dC, dI)) (ci := 2) (v := .int 1) (ty := .int) (C := RX1) (T := TX1) (N := 8) hx hb hts (by decide +kernel) tyX1 tyX1_ok nmX1 hown hK hP hD hS 0 rfl rfl 3 (by decide) (hts (.fieldLink RX1 26 "ThreeFiles" "fedCount" "I") (by decide +kernel)) (fun _ h9 => h9) rfl (by decide +kernel) rfl rfl (Nat.le_of_ble_eq_true rfl) dX1_feed_39 (fun H locs hP hD hS => ?_)
        have hP : va_P (dC, dI) vwCl [(x, .inr (2, [.int pv, .ref a, .ref fe, .int 1, .int 0, .int 0, .int 0, .int 0])), (fe, .inl (cF, 16, .inl (upd (fun _ => 0) 0 p0)))] H := hP
        have hD : va_D A [(x, .inr (2, [.int pv, .ref a, .ref fe, .int 1, .int 0, .int 0, .int 0, .int 0])), (fe, .inl (cF, 16, .inl (upd (fun _ => 0) 0 p0)))] := hD
        refine lv_iconst (v := 1) hx hb dX1_feed_42 (by decide) ?_
        exact W.zret (ty := .boolean) (v := 1) hx hb hr rfl (fun t ht hW => ⟨⟨1, (), rfl, (if_pos ⟨q_ge c1_1, q_ge c8_2⟩).symm, trivial⟩, hS.F ht⟩) hS.2.2 dX1_feed_43
      · exact absurd (by decide) c17_3
