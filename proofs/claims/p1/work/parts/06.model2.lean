set_option maxHeartbeats 4000000 in
set_option maxRecDepth 100000 in
theorem m_init (l : Launch) (dC : Nat → ClassId) (dI : Nat → Nat → Nat) (sz : Nat) (y : Nat) (p0 : Int32) : Met l yX2_init wsX2_init ({ frames := 1, cells := 6, slots := 9262, locals := 12 }) (va_Pc [.ref y, .int p0] (fun U => U.heap.size = sz ∧ va_P (dC, dI) vwCl [(y, .inr (3, [.int 0, .int 0, .null, .null, .null, .null, .int 0, .int 0, .int 0, .null, .null, .int 0, .int 0]))] U.heap ∧ va_K (dC, dI) vwCl [] U ∧ va_D (fun _ => True) [(y, .inr (3, [.int 0, .int 0, .null, .null, .null, .null, .int 0, .int 0, .int 0, .null, .null, .int 0, .int 0]))])) (va_Qv (fun pv : Int32 => pv = spPc p0) (fun pv t => ∃ (mb mz ob oz fd md : Nat) (k1 kz k2 k3 kf k4 : ClassId), va_P (dC, dI) vwCl [(y, .inr (3, [.int 0, .int pv, .ref mb, .ref mz, .ref ob, .ref oz, .int 0, .int 0, .int 0, .ref fd, .ref md, .int 0, .int 0])), (mb, .inl (k1, 4608, .inl (fun _ => 0))), (mz, .inl (kz, 3, .inl (fun _ => 0))), (ob, .inl (k2, 4608, .inl (fun _ => 0))), (oz, .inl (k3, 3, .inl (fun _ => 0))), (fd, .inl (kf, 16, .inl (fun _ => 0))), (md, .inl (k4, 24, .inl (fun _ => 0)))] t.heap ∧ va_K (dC, dI) vwCl [(k1, .int), (kz, .int), (k2, .int), (k3, .int), (kf, .int), (k4, .int)] t ∧ va_D (va_A [(y, .inr (3, [.int 0, .int 0, .null, .null, .null, .null, .int 0, .int 0, .int 0, .null, .null, .int 0, .int 0]))] sz) [(y, .inr (3, [.int 0, .int pv, .ref mb, .ref mz, .ref ob, .ref oz, .int 0, .int 0, .int 0, .ref fd, .ref md, .int 0, .int 0])), (mb, .inl (k1, 4608, .inl (fun _ => 0))), (mz, .inl (kz, 3, .inl (fun _ => 0))), (ob, .inl (k2, 4608, .inl (fun _ => 0))), (oz, .inl (k3, 3, .inl (fun _ => 0))), (fd, .inl (kf, 16, .inl (fun _ => 0))), (md, .inl (k4, 24, .inl (fun _ => 0)))]) (va_A [(y, .inr (3, [.int 0, .int 0, .null, .null, .null, .null, .int 0, .int 0, .int 0, .null, .null, .int 0, .int 0]))] sz)) 6 9262 (va_A [(y, .inr (3, [.int 0, .int 0, .null, .null, .null, .null, .int 0, .int 0, .int 0, .null, .null, .int 0, .int 0]))] sz) := by
  refine Met.ofW (cc := cX2_init) (maxL := 2) (ret := none) (by decide) rfl ?_
  intro p e s m args below meth c s₁ B hml hv
  obtain ⟨rfl, hsz, hP, hK, hD0⟩ := hv
  have hx := B.exec
  have hb := B.bytes
  have hr := B.returns
  have hts := atoms_spec (ws := wsX2_init) B.pre
  have hown : s.vm.findClass RX2 = some m.cls := findClass_of_methodNamed B.named
  have hlocks := B.notSynchronized
  have hin : meth.name = "<init>" := (name_of_methodNamed B.named B.method).1
  subst hsz
  have hD := hD0.self (sz := s.heap.size)
  generalize hAe : va_A [(y, .inr (3, [.int 0, .int 0, .null, .null, .null, .null, .int 0, .int 0, .int 0, .null, .null, .int 0, .int 0]))] s.heap.size = A at hD ⊢
  have hA : ∀ q : Nat, s.heap.size ≤ q → A q := fun q h => by rw [← hAe]; exact Or.inr h
  have hS : va_S A s.heap s.heap [] := va_S.rf
  have hP : va_P (dC, dI) vwCl [(y, .inr (3, [.int 0, .int 0, .null, .null, .null, .null, .int 0, .int 0, .int 0, .null, .null, .int 0, .int 0]))] s.heap := hP
  have hl := lv_entry ([.ref y, .int p0]) (n := 2) (Nat.le_of_ble_eq_true rfl)
  rw [lg_entry_eq]
  generalize (lg_sl ([.ref y, .int p0]) ++ List.replicate (2 - (lg_sl ([.ref y, .int p0])).length) Slot.unset).toArray = ls at hl ⊢
  have hl : lv_has ls 2 [(0, .ref y), (1, .int p0)] := hl
  have hH0 : s.heap.size ≤ s.heap.size := Nat.le_refl _
  rcases pc_cases p0 with hpc | hpc | ⟨k, hkp1, hkp2, hpc⟩
  ·
    refine lv_aload_n hx hb dX2_init_0 rfl (lv_at hl 0 rfl) ?_
    refine W.objInit hx hb hown (hts (.methodLink RX2 1 objectInit) (by decide +kernel)) (hts (.instanceMethod objectInit) (by decide +kernel)) (hts (.code objectInit ⟨#[0xb1]⟩ 1 none) (by decide +kernel)) rfl (by rw [hml]; exact hl.1) rfl dX2_init_1 (Nat.le_of_ble_eq_true rfl) (Nat.le_of_ble_eq_true rfl) ?_
    refine W.eq (g2 := F0 m 4 ls []) rfl ?_
    refine lv_aload_n hx hb dX2_init_4 rfl (lv_at hl 0 rfl) ?_
    refine lv_sipush (v := 4608) hx hb dX2_init_5 (by decide) ?_
    refine va_newa (atype := .int) (N' := 4608) (a0 := (4608, .inl (fun _ => 0))) (ty := .int) hx hb (hts (.arrayClass .int) (by decide +kernel)) rfl hK hP hD hS hA (fun _ => rfl) (by decide) (by rfl) (by decide) (show 1 ≤ 6 by decide) (show 0 + 4608 ≤ 9262 by omega) dX2_init_8 (fun q8_1 kq8_1 H hK hP hD hS => ?_)
    have hK : va_K (dC, dI) vwCl [(kq8_1, .int)] s := hK
    have hP : va_P (dC, dI) vwCl [(y, .inr (3, [.int 0, .int 0, .null, .null, .null, .null, .int 0, .int 0, .int 0, .null, .null, .int 0, .int 0])), (q8_1, .inl (kq8_1, 4608, .inl (fun _ => 0)))] H := hP
    have hD : va_D A [(y, .inr (3, [.int 0, .int 0, .null, .null, .null, .null, .int 0, .int 0, .int 0, .null, .null, .int 0, .int 0])), (q8_1, .inl (kq8_1, 4608, .inl (fun _ => 0)))] := hD
    refine W.widen (k := 1) (n := 4608) (by omega) (by omega) ?_
    refine va_putF (D := (dC, dI)) (ci := 3) (v := .ref q8_1) (ty := (.array .int)) (C := RX2) (T := TX2) (N := 13) hx hb hts (by decide +kernel) tyX2 tyX2_ok nmX2 hown hK hP hD hS 0 rfl rfl 2 (by decide) (hts (.fieldLink RX2 7 "ThreeFilesModel" "bytes" "[I") (by decide +kernel)) (fun _ h9 => h9) rfl hin rfl (by decide +kernel) rfl rfl (Nat.le_of_ble_eq_true rfl) dX2_init_10 (fun H locs hP hD hS => ?_)
    have hP : va_P (dC, dI) vwCl [(y, .inr (3, [.int 0, .int 0, .ref q8_1, .null, .null, .null, .int 0, .int 0, .int 0, .null, .null, .int 0, .int 0])), (q8_1, .inl (kq8_1, 4608, .inl (fun _ => 0)))] H := hP
    have hD : va_D A [(y, .inr (3, [.int 0, .int 0, .ref q8_1, .null, .null, .null, .int 0, .int 0, .int 0, .null, .null, .int 0, .int 0])), (q8_1, .inl (kq8_1, 4608, .inl (fun _ => 0)))] := hD
    refine lv_aload_n hx hb dX2_init_13 rfl (lv_at hl 0 rfl) ?_
    refine lv_iconst (v := 3) hx hb dX2_init_14 (by decide) ?_
    refine va_newa (atype := .int) (N' := 3) (a0 := (3, .inl (fun _ => 0))) (ty := .int) hx hb (hts (.arrayClass .int) (by decide +kernel)) rfl hK hP hD hS hA (fun _ => rfl) (by decide) (by rfl) (by decide) (show 2 ≤ 6 by decide) (show 4608 + 3 ≤ 9262 by omega) dX2_init_15 (fun q15_2 kq15_2 H hK hP hD hS => ?_)
    have hK : va_K (dC, dI) vwCl [(kq8_1, .int), (kq15_2, .int)] s := hK
    have hP : va_P (dC, dI) vwCl [(y, .inr (3, [.int 0, .int 0, .ref q8_1, .null, .null, .null, .int 0, .int 0, .int 0, .null, .null, .int 0, .int 0])), (q8_1, .inl (kq8_1, 4608, .inl (fun _ => 0))), (q15_2, .inl (kq15_2, 3, .inl (fun _ => 0)))] H := hP
    have hD : va_D A [(y, .inr (3, [.int 0, .int 0, .ref q8_1, .null, .null, .null, .int 0, .int 0, .int 0, .null, .null, .int 0, .int 0])), (q8_1, .inl (kq8_1, 4608, .inl (fun _ => 0))), (q15_2, .inl (kq15_2, 3, .inl (fun _ => 0)))] := hD
    refine W.widen (k := 2) (n := 4611) (by omega) (by omega) ?_
    refine va_putF (D := (dC, dI)) (ci := 3) (v := .ref q15_2) (ty := (.array .int)) (C := RX2) (T := TX2) (N := 13) hx hb hts (by decide +kernel) tyX2 tyX2_ok nmX2 hown hK hP hD hS 0 rfl rfl 3 (by decide) (hts (.fieldLink RX2 13 "ThreeFilesModel" "sizes" "[I") (by decide +kernel)) (fun _ h9 => h9) rfl hin rfl (by decide +kernel) rfl rfl (Nat.le_of_ble_eq_true rfl) dX2_init_17 (fun H locs hP hD hS => ?_)
    have hP : va_P (dC, dI) vwCl [(y, .inr (3, [.int 0, .int 0, .ref q8_1, .ref q15_2, .null, .null, .int 0, .int 0, .int 0, .null, .null, .int 0, .int 0])), (q8_1, .inl (kq8_1, 4608, .inl (fun _ => 0))), (q15_2, .inl (kq15_2, 3, .inl (fun _ => 0)))] H := hP
    have hD : va_D A [(y, .inr (3, [.int 0, .int 0, .ref q8_1, .ref q15_2, .null, .null, .int 0, .int 0, .int 0, .null, .null, .int 0, .int 0])), (q8_1, .inl (kq8_1, 4608, .inl (fun _ => 0))), (q15_2, .inl (kq15_2, 3, .inl (fun _ => 0)))] := hD
    refine lv_aload_n hx hb dX2_init_20 rfl (lv_at hl 0 rfl) ?_
    refine lv_sipush (v := 4608) hx hb dX2_init_21 (by decide) ?_
    refine va_newa (atype := .int) (N' := 4608) (a0 := (4608, .inl (fun _ => 0))) (ty := .int) hx hb (hts (.arrayClass .int) (by decide +kernel)) rfl hK hP hD hS hA (fun _ => rfl) (by decide) (by rfl) (by decide) (show 3 ≤ 6 by decide) (show 4611 + 4608 ≤ 9262 by omega) dX2_init_24 (fun q24_3 kq24_3 H hK hP hD hS => ?_)
    have hK : va_K (dC, dI) vwCl [(kq8_1, .int), (kq15_2, .int), (kq24_3, .int)] s := hK
    have hP : va_P (dC, dI) vwCl [(y, .inr (3, [.int 0, .int 0, .ref q8_1, .ref q15_2, .null, .null, .int 0, .int 0, .int 0, .null, .null, .int 0, .int 0])), (q8_1, .inl (kq8_1, 4608, .inl (fun _ => 0))), (q15_2, .inl (kq15_2, 3, .inl (fun _ => 0))), (q24_3, .inl (kq24_3, 4608, .inl (fun _ => 0)))] H := hP
    have hD : va_D A [(y, .inr (3, [.int 0, .int 0, .ref q8_1, .ref q15_2, .null, .null, .int 0, .int 0, .int 0, .null, .null, .int 0, .int 0])), (q8_1, .inl (kq8_1, 4608, .inl (fun _ => 0))), (q15_2, .inl (kq15_2, 3, .inl (fun _ => 0))), (q24_3, .inl (kq24_3, 4608, .inl (fun _ => 0)))] := hD
    refine W.widen (k := 3) (n := 9219) (by omega) (by omega) ?_
    refine va_putF (D := (dC, dI)) (ci := 3) (v := .ref q24_3) (ty := (.array .int)) (C := RX2) (T := TX2) (N := 13) hx hb hts (by decide +kernel) tyX2 tyX2_ok nmX2 hown hK hP hD hS 0 rfl rfl 4 (by decide) (hts (.fieldLink RX2 16 "ThreeFilesModel" "oldBytes" "[I") (by decide +kernel)) (fun _ h9 => h9) rfl hin rfl (by decide +kernel) rfl rfl (Nat.le_of_ble_eq_true rfl) dX2_init_26 (fun H locs hP hD hS => ?_)
    have hP : va_P (dC, dI) vwCl [(y, .inr (3, [.int 0, .int 0, .ref q8_1, .ref q15_2, .ref q24_3, .null, .int 0, .int 0, .int 0, .null, .null, .int 0, .int 0])), (q8_1, .inl (kq8_1, 4608, .inl (fun _ => 0))), (q15_2, .inl (kq15_2, 3, .inl (fun _ => 0))), (q24_3, .inl (kq24_3, 4608, .inl (fun _ => 0)))] H := hP
    have hD : va_D A [(y, .inr (3, [.int 0, .int 0, .ref q8_1, .ref q15_2, .ref q24_3, .null, .int 0, .int 0, .int 0, .null, .null, .int 0, .int 0])), (q8_1, .inl (kq8_1, 4608, .inl (fun _ => 0))), (q15_2, .inl (kq15_2, 3, .inl (fun _ => 0))), (q24_3, .inl (kq24_3, 4608, .inl (fun _ => 0)))] := hD
    refine lv_aload_n hx hb dX2_init_29 rfl (lv_at hl 0 rfl) ?_
    refine lv_iconst (v := 3) hx hb dX2_init_30 (by decide) ?_
    refine va_newa (atype := .int) (N' := 3) (a0 := (3, .inl (fun _ => 0))) (ty := .int) hx hb (hts (.arrayClass .int) (by decide +kernel)) rfl hK hP hD hS hA (fun _ => rfl) (by decide) (by rfl) (by decide) (show 4 ≤ 6 by decide) (show 9219 + 3 ≤ 9262 by omega) dX2_init_31 (fun q31_4 kq31_4 H hK hP hD hS => ?_)
    have hK : va_K (dC, dI) vwCl [(kq8_1, .int), (kq15_2, .int), (kq24_3, .int), (kq31_4, .int)] s := hK
    have hP : va_P (dC, dI) vwCl [(y, .inr (3, [.int 0, .int 0, .ref q8_1, .ref q15_2, .ref q24_3, .null, .int 0, .int 0, .int 0, .null, .null, .int 0, .int 0])), (q8_1, .inl (kq8_1, 4608, .inl (fun _ => 0))), (q15_2, .inl (kq15_2, 3, .inl (fun _ => 0))), (q24_3, .inl (kq24_3, 4608, .inl (fun _ => 0))), (q31_4, .inl (kq31_4, 3, .inl (fun _ => 0)))] H := hP
    have hD : va_D A [(y, .inr (3, [.int 0, .int 0, .ref q8_1, .ref q15_2, .ref q24_3, .null, .int 0, .int 0, .int 0, .null, .null, .int 0, .int 0])), (q8_1, .inl (kq8_1, 4608, .inl (fun _ => 0))), (q15_2, .inl (kq15_2, 3, .inl (fun _ => 0))), (q24_3, .inl (kq24_3, 4608, .inl (fun _ => 0))), (q31_4, .inl (kq31_4, 3, .inl (fun _ => 0)))] := hD
    refine W.widen (k := 4) (n := 9222) (by omega) (by omega) ?_
    refine va_putF (D := (dC, dI)) (ci := 3) (v := .ref q31_4) (ty := (.array .int)) (C := RX2) (T := TX2) (N := 13) hx hb hts (by decide +kernel) tyX2 tyX2_ok nmX2 hown hK hP hD hS 0 rfl rfl 5 (by decide) (hts (.fieldLink RX2 19 "ThreeFilesModel" "oldSizes" "[I") (by decide +kernel)) (fun _ h9 => h9) rfl hin rfl (by decide +kernel) rfl rfl (Nat.le_of_ble_eq_true rfl) dX2_init_33 (fun H locs hP hD hS => ?_)
    have hP : va_P (dC, dI) vwCl [(y, .inr (3, [.int 0, .int 0, .ref q8_1, .ref q15_2, .ref q24_3, .ref q31_4, .int 0, .int 0, .int 0, .null, .null, .int 0, .int 0])), (q8_1, .inl (kq8_1, 4608, .inl (fun _ => 0))), (q15_2, .inl (kq15_2, 3, .inl (fun _ => 0))), (q24_3, .inl (kq24_3, 4608, .inl (fun _ => 0))), (q31_4, .inl (kq31_4, 3, .inl (fun _ => 0)))] H := hP
    have hD : va_D A [(y, .inr (3, [.int 0, .int 0, .ref q8_1, .ref q15_2, .ref q24_3, .ref q31_4, .int 0, .int 0, .int 0, .null, .null, .int 0, .int 0])), (q8_1, .inl (kq8_1, 4608, .inl (fun _ => 0))), (q15_2, .inl (kq15_2, 3, .inl (fun _ => 0))), (q24_3, .inl (kq24_3, 4608, .inl (fun _ => 0))), (q31_4, .inl (kq31_4, 3, .inl (fun _ => 0)))] := hD
    refine lv_aload_n hx hb dX2_init_36 rfl (lv_at hl 0 rfl) ?_
    refine lv_bipush (v := 16) hx hb dX2_init_37 (by decide) ?_
    refine va_newa (atype := .int) (N' := 16) (a0 := (16, .inl (fun _ => 0))) (ty := .int) hx hb (hts (.arrayClass .int) (by decide +kernel)) rfl hK hP hD hS hA (fun _ => rfl) (by decide) (by rfl) (by decide) (show 5 ≤ 6 by decide) (show 9222 + 16 ≤ 9262 by omega) dX2_init_39 (fun q39_5 kq39_5 H hK hP hD hS => ?_)
    have hK : va_K (dC, dI) vwCl [(kq8_1, .int), (kq15_2, .int), (kq24_3, .int), (kq31_4, .int), (kq39_5, .int)] s := hK
    have hP : va_P (dC, dI) vwCl [(y, .inr (3, [.int 0, .int 0, .ref q8_1, .ref q15_2, .ref q24_3, .ref q31_4, .int 0, .int 0, .int 0, .null, .null, .int 0, .int 0])), (q8_1, .inl (kq8_1, 4608, .inl (fun _ => 0))), (q15_2, .inl (kq15_2, 3, .inl (fun _ => 0))), (q24_3, .inl (kq24_3, 4608, .inl (fun _ => 0))), (q31_4, .inl (kq31_4, 3, .inl (fun _ => 0))), (q39_5, .inl (kq39_5, 16, .inl (fun _ => 0)))] H := hP
    have hD : va_D A [(y, .inr (3, [.int 0, .int 0, .ref q8_1, .ref q15_2, .ref q24_3, .ref q31_4, .int 0, .int 0, .int 0, .null, .null, .int 0, .int 0])), (q8_1, .inl (kq8_1, 4608, .inl (fun _ => 0))), (q15_2, .inl (kq15_2, 3, .inl (fun _ => 0))), (q24_3, .inl (kq24_3, 4608, .inl (fun _ => 0))), (q31_4, .inl (kq31_4, 3, .inl (fun _ => 0))), (q39_5, .inl (kq39_5, 16, .inl (fun _ => 0)))] := hD
    refine W.widen (k := 5) (n := 9238) (by omega) (by omega) ?_
    refine va_putF (D := (dC, dI)) (ci := 3) (v := .ref q39_5) (ty := (.array .int)) (C := RX2) (T := TX2) (N := 13) hx hb hts (by decide +kernel) tyX2 tyX2_ok nmX2 hown hK hP hD hS 0 rfl rfl 9 (by decide) (hts (.fieldLink RX2 22 "ThreeFilesModel" "feeds" "[I") (by decide +kernel)) (fun _ h9 => h9) rfl hin rfl (by decide +kernel) rfl rfl (Nat.le_of_ble_eq_true rfl) dX2_init_41 (fun H locs hP hD hS => ?_)
    have hP : va_P (dC, dI) vwCl [(y, .inr (3, [.int 0, .int 0, .ref q8_1, .ref q15_2, .ref q24_3, .ref q31_4, .int 0, .int 0, .int 0, .ref q39_5, .null, .int 0, .int 0])), (q8_1, .inl (kq8_1, 4608, .inl (fun _ => 0))), (q15_2, .inl (kq15_2, 3, .inl (fun _ => 0))), (q24_3, .inl (kq24_3, 4608, .inl (fun _ => 0))), (q31_4, .inl (kq31_4, 3, .inl (fun _ => 0))), (q39_5, .inl (kq39_5, 16, .inl (fun _ => 0)))] H := hP
    have hD : va_D A [(y, .inr (3, [.int 0, .int 0, .ref q8_1, .ref q15_2, .ref q24_3, .ref q31_4, .int 0, .int 0, .int 0, .ref q39_5, .null, .int 0, .int 0])), (q8_1, .inl (kq8_1, 4608, .inl (fun _ => 0))), (q15_2, .inl (kq15_2, 3, .inl (fun _ => 0))), (q24_3, .inl (kq24_3, 4608, .inl (fun _ => 0))), (q31_4, .inl (kq31_4, 3, .inl (fun _ => 0))), (q39_5, .inl (kq39_5, 16, .inl (fun _ => 0)))] := hD
    refine lv_aload_n hx hb dX2_init_44 rfl (lv_at hl 0 rfl) ?_
    refine lv_bipush (v := 24) hx hb dX2_init_45 (by decide) ?_
    refine va_newa (atype := .int) (N' := 24) (a0 := (24, .inl (fun _ => 0))) (ty := .int) hx hb (hts (.arrayClass .int) (by decide +kernel)) rfl hK hP hD hS hA (fun _ => rfl) (by decide) (by rfl) (by decide) (show 6 ≤ 6 by decide) (show 9238 + 24 ≤ 9262 by omega) dX2_init_47 (fun q47_6 kq47_6 H hK hP hD hS => ?_)
    have hK : va_K (dC, dI) vwCl [(kq8_1, .int), (kq15_2, .int), (kq24_3, .int), (kq31_4, .int), (kq39_5, .int), (kq47_6, .int)] s := hK
    have hP : va_P (dC, dI) vwCl [(y, .inr (3, [.int 0, .int 0, .ref q8_1, .ref q15_2, .ref q24_3, .ref q31_4, .int 0, .int 0, .int 0, .ref q39_5, .null, .int 0, .int 0])), (q8_1, .inl (kq8_1, 4608, .inl (fun _ => 0))), (q15_2, .inl (kq15_2, 3, .inl (fun _ => 0))), (q24_3, .inl (kq24_3, 4608, .inl (fun _ => 0))), (q31_4, .inl (kq31_4, 3, .inl (fun _ => 0))), (q39_5, .inl (kq39_5, 16, .inl (fun _ => 0))), (q47_6, .inl (kq47_6, 24, .inl (fun _ => 0)))] H := hP
    have hD : va_D A [(y, .inr (3, [.int 0, .int 0, .ref q8_1, .ref q15_2, .ref q24_3, .ref q31_4, .int 0, .int 0, .int 0, .ref q39_5, .null, .int 0, .int 0])), (q8_1, .inl (kq8_1, 4608, .inl (fun _ => 0))), (q15_2, .inl (kq15_2, 3, .inl (fun _ => 0))), (q24_3, .inl (kq24_3, 4608, .inl (fun _ => 0))), (q31_4, .inl (kq31_4, 3, .inl (fun _ => 0))), (q39_5, .inl (kq39_5, 16, .inl (fun _ => 0))), (q47_6, .inl (kq47_6, 24, .inl (fun _ => 0)))] := hD
    refine W.widen (k := 6) (n := 9262) (by omega) (by omega) ?_
    refine va_putF (D := (dC, dI)) (ci := 3) (v := .ref q47_6) (ty := (.array .int)) (C := RX2) (T := TX2) (N := 13) hx hb hts (by decide +kernel) tyX2 tyX2_ok nmX2 hown hK hP hD hS 0 rfl rfl 10 (by decide) (hts (.fieldLink RX2 25 "ThreeFilesModel" "made" "[I") (by decide +kernel)) (fun _ h9 => h9) rfl hin rfl (by decide +kernel) rfl rfl (Nat.le_of_ble_eq_true rfl) dX2_init_49 (fun H locs hP hD hS => ?_)
    have hP : va_P (dC, dI) vwCl [(y, .inr (3, [.int 0, .int 0, .ref q8_1, .ref q15_2, .ref q24_3, .ref q31_4, .int 0, .int 0, .int 0, .ref q39_5, .ref q47_6, .int 0, .int 0])), (q8_1, .inl (kq8_1, 4608, .inl (fun _ => 0))), (q15_2, .inl (kq15_2, 3, .inl (fun _ => 0))), (q24_3, .inl (kq24_3, 4608, .inl (fun _ => 0))), (q31_4, .inl (kq31_4, 3, .inl (fun _ => 0))), (q39_5, .inl (kq39_5, 16, .inl (fun _ => 0))), (q47_6, .inl (kq47_6, 24, .inl (fun _ => 0)))] H := hP
    have hD : va_D A [(y, .inr (3, [.int 0, .int 0, .ref q8_1, .ref q15_2, .ref q24_3, .ref q31_4, .int 0, .int 0, .int 0, .ref q39_5, .ref q47_6, .int 0, .int 0])), (q8_1, .inl (kq8_1, 4608, .inl (fun _ => 0))), (q15_2, .inl (kq15_2, 3, .inl (fun _ => 0))), (q24_3, .inl (kq24_3, 4608, .inl (fun _ => 0))), (q31_4, .inl (kq31_4, 3, .inl (fun _ => 0))), (q39_5, .inl (kq39_5, 16, .inl (fun _ => 0))), (q47_6, .inl (kq47_6, 24, .inl (fun _ => 0)))] := hD
    refine lv_aload_n hx hb dX2_init_52 rfl (lv_at hl 0 rfl) ?_
    refine lv_iload_n hx hb dX2_init_53 rfl (lv_at hl 1 rfl) ?_
    refine lv_iconst (v := 1) hx hb dX2_init_54 (by decide) ?_
    refine lv_icmp_lt (tgt := 64) hx hb dX2_init_55 (by decide) (fun c55_7 => ?_) (fun c55_7 => ?_)
    ·
      refine lv_iconst (v := 1) hx hb dX2_init_64 (by decide) ?_
      refine lv_goto (tgt := 69) hx hb dX2_init_65 (by decide) ?_
      refine va_putF (D := (dC, dI)) (ci := 3) (v := .int 1) (ty := .int) (C := RX2) (T := TX2) (N := 13) hx hb hts (by decide +kernel) tyX2 tyX2_ok nmX2 hown hK hP hD hS 0 rfl rfl 1 (by decide) (hts (.fieldLink RX2 28 "ThreeFilesModel" "pieces" "I") (by decide +kernel)) (fun _ h9 => h9) rfl hin rfl (by decide +kernel) rfl rfl (Nat.le_of_ble_eq_true rfl) dX2_init_69 (fun H locs hP hD hS => ?_)
      have hP : va_P (dC, dI) vwCl [(y, .inr (3, [.int 0, .int 1, .ref q8_1, .ref q15_2, .ref q24_3, .ref q31_4, .int 0, .int 0, .int 0, .ref q39_5, .ref q47_6, .int 0, .int 0])), (q8_1, .inl (kq8_1, 4608, .inl (fun _ => 0))), (q15_2, .inl (kq15_2, 3, .inl (fun _ => 0))), (q24_3, .inl (kq24_3, 4608, .inl (fun _ => 0))), (q31_4, .inl (kq31_4, 3, .inl (fun _ => 0))), (q39_5, .inl (kq39_5, 16, .inl (fun _ => 0))), (q47_6, .inl (kq47_6, 24, .inl (fun _ => 0)))] H := hP
      have hD : va_D A [(y, .inr (3, [.int 0, .int 1, .ref q8_1, .ref q15_2, .ref q24_3, .ref q31_4, .int 0, .int 0, .int 0, .ref q39_5, .ref q47_6, .int 0, .int 0])), (q8_1, .inl (kq8_1, 4608, .inl (fun _ => 0))), (q15_2, .inl (kq15_2, 3, .inl (fun _ => 0))), (q24_3, .inl (kq24_3, 4608, .inl (fun _ => 0))), (q31_4, .inl (kq31_4, 3, .inl (fun _ => 0))), (q39_5, .inl (kq39_5, 16, .inl (fun _ => 0))), (q47_6, .inl (kq47_6, 24, .inl (fun _ => 0)))] := hD
      have hP9 := hP.sub (ws' := [(y, .inr (3, [.int 0, .int 1, .ref q8_1, .ref q15_2, .ref q24_3, .ref q31_4, .int 0, .int 0, .int 0, .ref q39_5, .ref q47_6, .int 0, .int 0])), (q8_1, .inl (kq8_1, 4608, .inl (fun _ => 0))), (q15_2, .inl (kq15_2, 3, .inl (fun _ => 0))), (q24_3, .inl (kq24_3, 4608, .inl (fun _ => 0))), (q31_4, .inl (kq31_4, 3, .inl (fun _ => 0))), (q39_5, .inl (kq39_5, 16, .inl (fun _ => 0))), (q47_6, .inl (kq47_6, 24, .inl (fun _ => 0)))]) [0, 1, 2, 3, 4, 5, 6] rfl
      have hD9 := hD.sub (ws' := [(y, .inr (3, [.int 0, .int 1, .ref q8_1, .ref q15_2, .ref q24_3, .ref q31_4, .int 0, .int 0, .int 0, .ref q39_5, .ref q47_6, .int 0, .int 0])), (q8_1, .inl (kq8_1, 4608, .inl (fun _ => 0))), (q15_2, .inl (kq15_2, 3, .inl (fun _ => 0))), (q24_3, .inl (kq24_3, 4608, .inl (fun _ => 0))), (q31_4, .inl (kq31_4, 3, .inl (fun _ => 0))), (q39_5, .inl (kq39_5, 16, .inl (fun _ => 0))), (q47_6, .inl (kq47_6, 24, .inl (fun _ => 0)))]) [0, 1, 2, 3, 4, 5, 6] (by decide) rfl
      have hK9 := hK.sub (tys' := [(kq8_1, .int), (kq15_2, .int), (kq24_3, .int), (kq31_4, .int), (kq39_5, .int), (kq47_6, .int)]) [0, 1, 2, 3, 4, 5] rfl
      refine W.widen (k := 6) (n := 9262) (by omega) (by omega) ?_
      exact W.vret hx hb hr (fun t ht hW => ⟨⟨1, rfl, (pc_a hpc), q8_1, q15_2, q24_3, q31_4, q39_5, q47_6, kq8_1, kq15_2, kq24_3, kq31_4, kq39_5, kq47_6, by rw [ht]; exact hP9, va_K.moved hW.alike hK9, hD9⟩, hS.F ht⟩) hS.2.2 dX2_init_72
    · exact absurd hpc c55_7
  ·
    refine lv_aload_n hx hb dX2_init_0 rfl (lv_at hl 0 rfl) ?_
    refine W.objInit hx hb hown (hts (.methodLink RX2 1 objectInit) (by decide +kernel)) (hts (.instanceMethod objectInit) (by decide +kernel)) (hts (.code objectInit ⟨#[0xb1]⟩ 1 none) (by decide +kernel)) rfl (by rw [hml]; exact hl.1) rfl dX2_init_1 (Nat.le_of_ble_eq_true rfl) (Nat.le_of_ble_eq_true rfl) ?_
    refine W.eq (g2 := F0 m 4 ls []) rfl ?_
    refine lv_aload_n hx hb dX2_init_4 rfl (lv_at hl 0 rfl) ?_
    refine lv_sipush (v := 4608) hx hb dX2_init_5 (by decide) ?_
    refine va_newa (atype := .int) (N' := 4608) (a0 := (4608, .inl (fun _ => 0))) (ty := .int) hx hb (hts (.arrayClass .int) (by decide +kernel)) rfl hK hP hD hS hA (fun _ => rfl) (by decide) (by rfl) (by decide) (show 1 ≤ 6 by decide) (show 0 + 4608 ≤ 9262 by omega) dX2_init_8 (fun q8_8 kq8_8 H hK hP hD hS => ?_)
    have hK : va_K (dC, dI) vwCl [(kq8_8, .int)] s := hK
    have hP : va_P (dC, dI) vwCl [(y, .inr (3, [.int 0, .int 0, .null, .null, .null, .null, .int 0, .int 0, .int 0, .null, .null, .int 0, .int 0])), (q8_8, .inl (kq8_8, 4608, .inl (fun _ => 0)))] H := hP
    have hD : va_D A [(y, .inr (3, [.int 0, .int 0, .null, .null, .null, .null, .int 0, .int 0, .int 0, .null, .null, .int 0, .int 0])), (q8_8, .inl (kq8_8, 4608, .inl (fun _ => 0)))] := hD
    refine W.widen (k := 1) (n := 4608) (by omega) (by omega) ?_
    refine va_putF (D := (dC, dI)) (ci := 3) (v := .ref q8_8) (ty := (.array .int)) (C := RX2) (T := TX2) (N := 13) hx hb hts (by decide +kernel) tyX2 tyX2_ok nmX2 hown hK hP hD hS 0 rfl rfl 2 (by decide) (hts (.fieldLink RX2 7 "ThreeFilesModel" "bytes" "[I") (by decide +kernel)) (fun _ h9 => h9) rfl hin rfl (by decide +kernel) rfl rfl (Nat.le_of_ble_eq_true rfl) dX2_init_10 (fun H locs hP hD hS => ?_)
    have hP : va_P (dC, dI) vwCl [(y, .inr (3, [.int 0, .int 0, .ref q8_8, .null, .null, .null, .int 0, .int 0, .int 0, .null, .null, .int 0, .int 0])), (q8_8, .inl (kq8_8, 4608, .inl (fun _ => 0)))] H := hP
    have hD : va_D A [(y, .inr (3, [.int 0, .int 0, .ref q8_8, .null, .null, .null, .int 0, .int 0, .int 0, .null, .null, .int 0, .int 0])), (q8_8, .inl (kq8_8, 4608, .inl (fun _ => 0)))] := hD
    refine lv_aload_n hx hb dX2_init_13 rfl (lv_at hl 0 rfl) ?_
    refine lv_iconst (v := 3) hx hb dX2_init_14 (by decide) ?_
    refine va_newa (atype := .int) (N' := 3) (a0 := (3, .inl (fun _ => 0))) (ty := .int) hx hb (hts (.arrayClass .int) (by decide +kernel)) rfl hK hP hD hS hA (fun _ => rfl) (by decide) (by rfl) (by decide) (show 2 ≤ 6 by decide) (show 4608 + 3 ≤ 9262 by omega) dX2_init_15 (fun q15_9 kq15_9 H hK hP hD hS => ?_)
    have hK : va_K (dC, dI) vwCl [(kq8_8, .int), (kq15_9, .int)] s := hK
    have hP : va_P (dC, dI) vwCl [(y, .inr (3, [.int 0, .int 0, .ref q8_8, .null, .null, .null, .int 0, .int 0, .int 0, .null, .null, .int 0, .int 0])), (q8_8, .inl (kq8_8, 4608, .inl (fun _ => 0))), (q15_9, .inl (kq15_9, 3, .inl (fun _ => 0)))] H := hP
    have hD : va_D A [(y, .inr (3, [.int 0, .int 0, .ref q8_8, .null, .null, .null, .int 0, .int 0, .int 0, .null, .null, .int 0, .int 0])), (q8_8, .inl (kq8_8, 4608, .inl (fun _ => 0))), (q15_9, .inl (kq15_9, 3, .inl (fun _ => 0)))] := hD
    refine W.widen (k := 2) (n := 4611) (by omega) (by omega) ?_
    refine va_putF (D := (dC, dI)) (ci := 3) (v := .ref q15_9) (ty := (.array .int)) (C := RX2) (T := TX2) (N := 13) hx hb hts (by decide +kernel) tyX2 tyX2_ok nmX2 hown hK hP hD hS 0 rfl rfl 3 (by decide) (hts (.fieldLink RX2 13 "ThreeFilesModel" "sizes" "[I") (by decide +kernel)) (fun _ h9 => h9) rfl hin rfl (by decide +kernel) rfl rfl (Nat.le_of_ble_eq_true rfl) dX2_init_17 (fun H locs hP hD hS => ?_)
    have hP : va_P (dC, dI) vwCl [(y, .inr (3, [.int 0, .int 0, .ref q8_8, .ref q15_9, .null, .null, .int 0, .int 0, .int 0, .null, .null, .int 0, .int 0])), (q8_8, .inl (kq8_8, 4608, .inl (fun _ => 0))), (q15_9, .inl (kq15_9, 3, .inl (fun _ => 0)))] H := hP
    have hD : va_D A [(y, .inr (3, [.int 0, .int 0, .ref q8_8, .ref q15_9, .null, .null, .int 0, .int 0, .int 0, .null, .null, .int 0, .int 0])), (q8_8, .inl (kq8_8, 4608, .inl (fun _ => 0))), (q15_9, .inl (kq15_9, 3, .inl (fun _ => 0)))] := hD
    refine lv_aload_n hx hb dX2_init_20 rfl (lv_at hl 0 rfl) ?_
    refine lv_sipush (v := 4608) hx hb dX2_init_21 (by decide) ?_
    refine va_newa (atype := .int) (N' := 4608) (a0 := (4608, .inl (fun _ => 0))) (ty := .int) hx hb (hts (.arrayClass .int) (by decide +kernel)) rfl hK hP hD hS hA (fun _ => rfl) (by decide) (by rfl) (by decide) (show 3 ≤ 6 by decide) (show 4611 + 4608 ≤ 9262 by omega) dX2_init_24 (fun q24_10 kq24_10 H hK hP hD hS => ?_)
    have hK : va_K (dC, dI) vwCl [(kq8_8, .int), (kq15_9, .int), (kq24_10, .int)] s := hK
    have hP : va_P (dC, dI) vwCl [(y, .inr (3, [.int 0, .int 0, .ref q8_8, .ref q15_9, .null, .null, .int 0, .int 0, .int 0, .null, .null, .int 0, .int 0])), (q8_8, .inl (kq8_8, 4608, .inl (fun _ => 0))), (q15_9, .inl (kq15_9, 3, .inl (fun _ => 0))), (q24_10, .inl (kq24_10, 4608, .inl (fun _ => 0)))] H := hP
    have hD : va_D A [(y, .inr (3, [.int 0, .int 0, .ref q8_8, .ref q15_9, .null, .null, .int 0, .int 0, .int 0, .null, .null, .int 0, .int 0])), (q8_8, .inl (kq8_8, 4608, .inl (fun _ => 0))), (q15_9, .inl (kq15_9, 3, .inl (fun _ => 0))), (q24_10, .inl (kq24_10, 4608, .inl (fun _ => 0)))] := hD
    refine W.widen (k := 3) (n := 9219) (by omega) (by omega) ?_
    refine va_putF (D := (dC, dI)) (ci := 3) (v := .ref q24_10) (ty := (.array .int)) (C := RX2) (T := TX2) (N := 13) hx hb hts (by decide +kernel) tyX2 tyX2_ok nmX2 hown hK hP hD hS 0 rfl rfl 4 (by decide) (hts (.fieldLink RX2 16 "ThreeFilesModel" "oldBytes" "[I") (by decide +kernel)) (fun _ h9 => h9) rfl hin rfl (by decide +kernel) rfl rfl (Nat.le_of_ble_eq_true rfl) dX2_init_26 (fun H locs hP hD hS => ?_)
    have hP : va_P (dC, dI) vwCl [(y, .inr (3, [.int 0, .int 0, .ref q8_8, .ref q15_9, .ref q24_10, .null, .int 0, .int 0, .int 0, .null, .null, .int 0, .int 0])), (q8_8, .inl (kq8_8, 4608, .inl (fun _ => 0))), (q15_9, .inl (kq15_9, 3, .inl (fun _ => 0))), (q24_10, .inl (kq24_10, 4608, .inl (fun _ => 0)))] H := hP
    have hD : va_D A [(y, .inr (3, [.int 0, .int 0, .ref q8_8, .ref q15_9, .ref q24_10, .null, .int 0, .int 0, .int 0, .null, .null, .int 0, .int 0])), (q8_8, .inl (kq8_8, 4608, .inl (fun _ => 0))), (q15_9, .inl (kq15_9, 3, .inl (fun _ => 0))), (q24_10, .inl (kq24_10, 4608, .inl (fun _ => 0)))] := hD
    refine lv_aload_n hx hb dX2_init_29 rfl (lv_at hl 0 rfl) ?_
    refine lv_iconst (v := 3) hx hb dX2_init_30 (by decide) ?_
    refine va_newa (atype := .int) (N' := 3) (a0 := (3, .inl (fun _ => 0))) (ty := .int) hx hb (hts (.arrayClass .int) (by decide +kernel)) rfl hK hP hD hS hA (fun _ => rfl) (by decide) (by rfl) (by decide) (show 4 ≤ 6 by decide) (show 9219 + 3 ≤ 9262 by omega) dX2_init_31 (fun q31_11 kq31_11 H hK hP hD hS => ?_)
    have hK : va_K (dC, dI) vwCl [(kq8_8, .int), (kq15_9, .int), (kq24_10, .int), (kq31_11, .int)] s := hK
    have hP : va_P (dC, dI) vwCl [(y, .inr (3, [.int 0, .int 0, .ref q8_8, .ref q15_9, .ref q24_10, .null, .int 0, .int 0, .int 0, .null, .null, .int 0, .int 0])), (q8_8, .inl (kq8_8, 4608, .inl (fun _ => 0))), (q15_9, .inl (kq15_9, 3, .inl (fun _ => 0))), (q24_10, .inl (kq24_10, 4608, .inl (fun _ => 0))), (q31_11, .inl (kq31_11, 3, .inl (fun _ => 0)))] H := hP
    have hD : va_D A [(y, .inr (3, [.int 0, .int 0, .ref q8_8, .ref q15_9, .ref q24_10, .null, .int 0, .int 0, .int 0, .null, .null, .int 0, .int 0])), (q8_8, .inl (kq8_8, 4608, .inl (fun _ => 0))), (q15_9, .inl (kq15_9, 3, .inl (fun _ => 0))), (q24_10, .inl (kq24_10, 4608, .inl (fun _ => 0))), (q31_11, .inl (kq31_11, 3, .inl (fun _ => 0)))] := hD
    refine W.widen (k := 4) (n := 9222) (by omega) (by omega) ?_
    refine va_putF (D := (dC, dI)) (ci := 3) (v := .ref q31_11) (ty := (.array .int)) (C := RX2) (T := TX2) (N := 13) hx hb hts (by decide +kernel) tyX2 tyX2_ok nmX2 hown hK hP hD hS 0 rfl rfl 5 (by decide) (hts (.fieldLink RX2 19 "ThreeFilesModel" "oldSizes" "[I") (by decide +kernel)) (fun _ h9 => h9) rfl hin rfl (by decide +kernel) rfl rfl (Nat.le_of_ble_eq_true rfl) dX2_init_33 (fun H locs hP hD hS => ?_)
    have hP : va_P (dC, dI) vwCl [(y, .inr (3, [.int 0, .int 0, .ref q8_8, .ref q15_9, .ref q24_10, .ref q31_11, .int 0, .int 0, .int 0, .null, .null, .int 0, .int 0])), (q8_8, .inl (kq8_8, 4608, .inl (fun _ => 0))), (q15_9, .inl (kq15_9, 3, .inl (fun _ => 0))), (q24_10, .inl (kq24_10, 4608, .inl (fun _ => 0))), (q31_11, .inl (kq31_11, 3, .inl (fun _ => 0)))] H := hP
    have hD : va_D A [(y, .inr (3, [.int 0, .int 0, .ref q8_8, .ref q15_9, .ref q24_10, .ref q31_11, .int 0, .int 0, .int 0, .null, .null, .int 0, .int 0])), (q8_8, .inl (kq8_8, 4608, .inl (fun _ => 0))), (q15_9, .inl (kq15_9, 3, .inl (fun _ => 0))), (q24_10, .inl (kq24_10, 4608, .inl (fun _ => 0))), (q31_11, .inl (kq31_11, 3, .inl (fun _ => 0)))] := hD
    refine lv_aload_n hx hb dX2_init_36 rfl (lv_at hl 0 rfl) ?_
    refine lv_bipush (v := 16) hx hb dX2_init_37 (by decide) ?_
    refine va_newa (atype := .int) (N' := 16) (a0 := (16, .inl (fun _ => 0))) (ty := .int) hx hb (hts (.arrayClass .int) (by decide +kernel)) rfl hK hP hD hS hA (fun _ => rfl) (by decide) (by rfl) (by decide) (show 5 ≤ 6 by decide) (show 9222 + 16 ≤ 9262 by omega) dX2_init_39 (fun q39_12 kq39_12 H hK hP hD hS => ?_)
    have hK : va_K (dC, dI) vwCl [(kq8_8, .int), (kq15_9, .int), (kq24_10, .int), (kq31_11, .int), (kq39_12, .int)] s := hK
    have hP : va_P (dC, dI) vwCl [(y, .inr (3, [.int 0, .int 0, .ref q8_8, .ref q15_9, .ref q24_10, .ref q31_11, .int 0, .int 0, .int 0, .null, .null, .int 0, .int 0])), (q8_8, .inl (kq8_8, 4608, .inl (fun _ => 0))), (q15_9, .inl (kq15_9, 3, .inl (fun _ => 0))), (q24_10, .inl (kq24_10, 4608, .inl (fun _ => 0))), (q31_11, .inl (kq31_11, 3, .inl (fun _ => 0))), (q39_12, .inl (kq39_12, 16, .inl (fun _ => 0)))] H := hP
    have hD : va_D A [(y, .inr (3, [.int 0, .int 0, .ref q8_8, .ref q15_9, .ref q24_10, .ref q31_11, .int 0, .int 0, .int 0, .null, .null, .int 0, .int 0])), (q8_8, .inl (kq8_8, 4608, .inl (fun _ => 0))), (q15_9, .inl (kq15_9, 3, .inl (fun _ => 0))), (q24_10, .inl (kq24_10, 4608, .inl (fun _ => 0))), (q31_11, .inl (kq31_11, 3, .inl (fun _ => 0))), (q39_12, .inl (kq39_12, 16, .inl (fun _ => 0)))] := hD
    refine W.widen (k := 5) (n := 9238) (by omega) (by omega) ?_
    refine va_putF (D := (dC, dI)) (ci := 3) (v := .ref q39_12) (ty := (.array .int)) (C := RX2) (T := TX2) (N := 13) hx hb hts (by decide +kernel) tyX2 tyX2_ok nmX2 hown hK hP hD hS 0 rfl rfl 9 (by decide) (hts (.fieldLink RX2 22 "ThreeFilesModel" "feeds" "[I") (by decide +kernel)) (fun _ h9 => h9) rfl hin rfl (by decide +kernel) rfl rfl (Nat.le_of_ble_eq_true rfl) dX2_init_41 (fun H locs hP hD hS => ?_)
    have hP : va_P (dC, dI) vwCl [(y, .inr (3, [.int 0, .int 0, .ref q8_8, .ref q15_9, .ref q24_10, .ref q31_11, .int 0, .int 0, .int 0, .ref q39_12, .null, .int 0, .int 0])), (q8_8, .inl (kq8_8, 4608, .inl (fun _ => 0))), (q15_9, .inl (kq15_9, 3, .inl (fun _ => 0))), (q24_10, .inl (kq24_10, 4608, .inl (fun _ => 0))), (q31_11, .inl (kq31_11, 3, .inl (fun _ => 0))), (q39_12, .inl (kq39_12, 16, .inl (fun _ => 0)))] H := hP
    have hD : va_D A [(y, .inr (3, [.int 0, .int 0, .ref q8_8, .ref q15_9, .ref q24_10, .ref q31_11, .int 0, .int 0, .int 0, .ref q39_12, .null, .int 0, .int 0])), (q8_8, .inl (kq8_8, 4608, .inl (fun _ => 0))), (q15_9, .inl (kq15_9, 3, .inl (fun _ => 0))), (q24_10, .inl (kq24_10, 4608, .inl (fun _ => 0))), (q31_11, .inl (kq31_11, 3, .inl (fun _ => 0))), (q39_12, .inl (kq39_12, 16, .inl (fun _ => 0)))] := hD
    refine lv_aload_n hx hb dX2_init_44 rfl (lv_at hl 0 rfl) ?_
    refine lv_bipush (v := 24) hx hb dX2_init_45 (by decide) ?_
    refine va_newa (atype := .int) (N' := 24) (a0 := (24, .inl (fun _ => 0))) (ty := .int) hx hb (hts (.arrayClass .int) (by decide +kernel)) rfl hK hP hD hS hA (fun _ => rfl) (by decide) (by rfl) (by decide) (show 6 ≤ 6 by decide) (show 9238 + 24 ≤ 9262 by omega) dX2_init_47 (fun q47_13 kq47_13 H hK hP hD hS => ?_)
    have hK : va_K (dC, dI) vwCl [(kq8_8, .int), (kq15_9, .int), (kq24_10, .int), (kq31_11, .int), (kq39_12, .int), (kq47_13, .int)] s := hK
    have hP : va_P (dC, dI) vwCl [(y, .inr (3, [.int 0, .int 0, .ref q8_8, .ref q15_9, .ref q24_10, .ref q31_11, .int 0, .int 0, .int 0, .ref q39_12, .null, .int 0, .int 0])), (q8_8, .inl (kq8_8, 4608, .inl (fun _ => 0))), (q15_9, .inl (kq15_9, 3, .inl (fun _ => 0))), (q24_10, .inl (kq24_10, 4608, .inl (fun _ => 0))), (q31_11, .inl (kq31_11, 3, .inl (fun _ => 0))), (q39_12, .inl (kq39_12, 16, .inl (fun _ => 0))), (q47_13, .inl (kq47_13, 24, .inl (fun _ => 0)))] H := hP
    have hD : va_D A [(y, .inr (3, [.int 0, .int 0, .ref q8_8, .ref q15_9, .ref q24_10, .ref q31_11, .int 0, .int 0, .int 0, .ref q39_12, .null, .int 0, .int 0])), (q8_8, .inl (kq8_8, 4608, .inl (fun _ => 0))), (q15_9, .inl (kq15_9, 3, .inl (fun _ => 0))), (q24_10, .inl (kq24_10, 4608, .inl (fun _ => 0))), (q31_11, .inl (kq31_11, 3, .inl (fun _ => 0))), (q39_12, .inl (kq39_12, 16, .inl (fun _ => 0))), (q47_13, .inl (kq47_13, 24, .inl (fun _ => 0)))] := hD
    refine W.widen (k := 6) (n := 9262) (by omega) (by omega) ?_
    refine va_putF (D := (dC, dI)) (ci := 3) (v := .ref q47_13) (ty := (.array .int)) (C := RX2) (T := TX2) (N := 13) hx hb hts (by decide +kernel) tyX2 tyX2_ok nmX2 hown hK hP hD hS 0 rfl rfl 10 (by decide) (hts (.fieldLink RX2 25 "ThreeFilesModel" "made" "[I") (by decide +kernel)) (fun _ h9 => h9) rfl hin rfl (by decide +kernel) rfl rfl (Nat.le_of_ble_eq_true rfl) dX2_init_49 (fun H locs hP hD hS => ?_)
    have hP : va_P (dC, dI) vwCl [(y, .inr (3, [.int 0, .int 0, .ref q8_8, .ref q15_9, .ref q24_10, .ref q31_11, .int 0, .int 0, .int 0, .ref q39_12, .ref q47_13, .int 0, .int 0])), (q8_8, .inl (kq8_8, 4608, .inl (fun _ => 0))), (q15_9, .inl (kq15_9, 3, .inl (fun _ => 0))), (q24_10, .inl (kq24_10, 4608, .inl (fun _ => 0))), (q31_11, .inl (kq31_11, 3, .inl (fun _ => 0))), (q39_12, .inl (kq39_12, 16, .inl (fun _ => 0))), (q47_13, .inl (kq47_13, 24, .inl (fun _ => 0)))] H := hP
    have hD : va_D A [(y, .inr (3, [.int 0, .int 0, .ref q8_8, .ref q15_9, .ref q24_10, .ref q31_11, .int 0, .int 0, .int 0, .ref q39_12, .ref q47_13, .int 0, .int 0])), (q8_8, .inl (kq8_8, 4608, .inl (fun _ => 0))), (q15_9, .inl (kq15_9, 3, .inl (fun _ => 0))), (q24_10, .inl (kq24_10, 4608, .inl (fun _ => 0))), (q31_11, .inl (kq31_11, 3, .inl (fun _ => 0))), (q39_12, .inl (kq39_12, 16, .inl (fun _ => 0))), (q47_13, .inl (kq47_13, 24, .inl (fun _ => 0)))] := hD
    refine lv_aload_n hx hb dX2_init_52 rfl (lv_at hl 0 rfl) ?_
    refine lv_iload_n hx hb dX2_init_53 rfl (lv_at hl 1 rfl) ?_
    refine lv_iconst (v := 1) hx hb dX2_init_54 (by decide) ?_
    refine lv_icmp_lt (tgt := 64) hx hb dX2_init_55 (by decide) (fun c55_14 => ?_) (fun c55_14 => ?_)
    · exact absurd c55_14 (q_big hpc)
    ·
      refine lv_iload_n hx hb dX2_init_58 rfl (lv_at hl 1 rfl) ?_
      refine lv_bipush (v := 64) hx hb dX2_init_59 (by decide) ?_
      refine lv_icmp_le (tgt := 68) hx hb dX2_init_61 (by decide) (fun c61_15 => ?_) (fun c61_15 => ?_)
      · exact absurd hpc (q_nlt c61_15)
      ·
        refine lv_iconst (v := 1) hx hb dX2_init_64 (by decide) ?_
        refine lv_goto (tgt := 69) hx hb dX2_init_65 (by decide) ?_
        refine va_putF (D := (dC, dI)) (ci := 3) (v := .int 1) (ty := .int) (C := RX2) (T := TX2) (N := 13) hx hb hts (by decide +kernel) tyX2 tyX2_ok nmX2 hown hK hP hD hS 0 rfl rfl 1 (by decide) (hts (.fieldLink RX2 28 "ThreeFilesModel" "pieces" "I") (by decide +kernel)) (fun _ h9 => h9) rfl hin rfl (by decide +kernel) rfl rfl (Nat.le_of_ble_eq_true rfl) dX2_init_69 (fun H locs hP hD hS => ?_)
        have hP : va_P (dC, dI) vwCl [(y, .inr (3, [.int 0, .int 1, .ref q8_8, .ref q15_9, .ref q24_10, .ref q31_11, .int 0, .int 0, .int 0, .ref q39_12, .ref q47_13, .int 0, .int 0])), (q8_8, .inl (kq8_8, 4608, .inl (fun _ => 0))), (q15_9, .inl (kq15_9, 3, .inl (fun _ => 0))), (q24_10, .inl (kq24_10, 4608, .inl (fun _ => 0))), (q31_11, .inl (kq31_11, 3, .inl (fun _ => 0))), (q39_12, .inl (kq39_12, 16, .inl (fun _ => 0))), (q47_13, .inl (kq47_13, 24, .inl (fun _ => 0)))] H := hP
        have hD : va_D A [(y, .inr (3, [.int 0, .int 1, .ref q8_8, .ref q15_9, .ref q24_10, .ref q31_11, .int 0, .int 0, .int 0, .ref q39_12, .ref q47_13, .int 0, .int 0])), (q8_8, .inl (kq8_8, 4608, .inl (fun _ => 0))), (q15_9, .inl (kq15_9, 3, .inl (fun _ => 0))), (q24_10, .inl (kq24_10, 4608, .inl (fun _ => 0))), (q31_11, .inl (kq31_11, 3, .inl (fun _ => 0))), (q39_12, .inl (kq39_12, 16, .inl (fun _ => 0))), (q47_13, .inl (kq47_13, 24, .inl (fun _ => 0)))] := hD
        have hP9 := hP.sub (ws' := [(y, .inr (3, [.int 0, .int 1, .ref q8_8, .ref q15_9, .ref q24_10, .ref q31_11, .int 0, .int 0, .int 0, .ref q39_12, .ref q47_13, .int 0, .int 0])), (q8_8, .inl (kq8_8, 4608, .inl (fun _ => 0))), (q15_9, .inl (kq15_9, 3, .inl (fun _ => 0))), (q24_10, .inl (kq24_10, 4608, .inl (fun _ => 0))), (q31_11, .inl (kq31_11, 3, .inl (fun _ => 0))), (q39_12, .inl (kq39_12, 16, .inl (fun _ => 0))), (q47_13, .inl (kq47_13, 24, .inl (fun _ => 0)))]) [0, 1, 2, 3, 4, 5, 6] rfl
        have hD9 := hD.sub (ws' := [(y, .inr (3, [.int 0, .int 1, .ref q8_8, .ref q15_9, .ref q24_10, .ref q31_11, .int 0, .int 0, .int 0, .ref q39_12, .ref q47_13, .int 0, .int 0])), (q8_8, .inl (kq8_8, 4608, .inl (fun _ => 0))), (q15_9, .inl (kq15_9, 3, .inl (fun _ => 0))), (q24_10, .inl (kq24_10, 4608, .inl (fun _ => 0))), (q31_11, .inl (kq31_11, 3, .inl (fun _ => 0))), (q39_12, .inl (kq39_12, 16, .inl (fun _ => 0))), (q47_13, .inl (kq47_13, 24, .inl (fun _ => 0)))]) [0, 1, 2, 3, 4, 5, 6] (by decide) rfl
        have hK9 := hK.sub (tys' := [(kq8_8, .int), (kq15_9, .int), (kq24_10, .int), (kq31_11, .int), (kq39_12, .int), (kq47_13, .int)]) [0, 1, 2, 3, 4, 5] rfl
        refine W.widen (k := 6) (n := 9262) (by omega) (by omega) ?_
        exact W.vret hx hb hr (fun t ht hW => ⟨⟨1, rfl, (pc_b hpc), q8_8, q15_9, q24_10, q31_11, q39_12, q47_13, kq8_8, kq15_9, kq24_10, kq31_11, kq39_12, kq47_13, by rw [ht]; exact hP9, va_K.moved hW.alike hK9, hD9⟩, hS.F ht⟩) hS.2.2 dX2_init_72
  ·
    refine lv_aload_n hx hb dX2_init_0 rfl (lv_at hl 0 rfl) ?_
    refine W.objInit hx hb hown (hts (.methodLink RX2 1 objectInit) (by decide +kernel)) (hts (.instanceMethod objectInit) (by decide +kernel)) (hts (.code objectInit ⟨#[0xb1]⟩ 1 none) (by decide +kernel)) rfl (by rw [hml]; exact hl.1) rfl dX2_init_1 (Nat.le_of_ble_eq_true rfl) (Nat.le_of_ble_eq_true rfl) ?_
    refine W.eq (g2 := F0 m 4 ls []) rfl ?_
    refine lv_aload_n hx hb dX2_init_4 rfl (lv_at hl 0 rfl) ?_
    refine lv_sipush (v := 4608) hx hb dX2_init_5 (by decide) ?_
    refine va_newa (atype := .int) (N' := 4608) (a0 := (4608, .inl (fun _ => 0))) (ty := .int) hx hb (hts (.arrayClass .int) (by decide +kernel)) rfl hK hP hD hS hA (fun _ => rfl) (by decide) (by rfl) (by decide) (show 1 ≤ 6 by decide) (show 0 + 4608 ≤ 9262 by omega) dX2_init_8 (fun q8_16 kq8_16 H hK hP hD hS => ?_)
    have hK : va_K (dC, dI) vwCl [(kq8_16, .int)] s := hK
    have hP : va_P (dC, dI) vwCl [(y, .inr (3, [.int 0, .int 0, .null, .null, .null, .null, .int 0, .int 0, .int 0, .null, .null, .int 0, .int 0])), (q8_16, .inl (kq8_16, 4608, .inl (fun _ => 0)))] H := hP
    have hD : va_D A [(y, .inr (3, [.int 0, .int 0, .null, .null, .null, .null, .int 0, .int 0, .int 0, .null, .null, .int 0, .int 0])), (q8_16, .inl (kq8_16, 4608, .inl (fun _ => 0)))] := hD
    refine W.widen (k := 1) (n := 4608) (by omega) (by omega) ?_
    refine va_putF (D := (dC, dI)) (ci := 3) (v := .ref q8_16) (ty := (.array .int)) (C := RX2) (T := TX2) (N := 13) hx hb hts (by decide +kernel) tyX2 tyX2_ok nmX2 hown hK hP hD hS 0 rfl rfl 2 (by decide) (hts (.fieldLink RX2 7 "ThreeFilesModel" "bytes" "[I") (by decide +kernel)) (fun _ h9 => h9) rfl hin rfl (by decide +kernel) rfl rfl (Nat.le_of_ble_eq_true rfl) dX2_init_10 (fun H locs hP hD hS => ?_)
    have hP : va_P (dC, dI) vwCl [(y, .inr (3, [.int 0, .int 0, .ref q8_16, .null, .null, .null, .int 0, .int 0, .int 0, .null, .null, .int 0, .int 0])), (q8_16, .inl (kq8_16, 4608, .inl (fun _ => 0)))] H := hP
    have hD : va_D A [(y, .inr (3, [.int 0, .int 0, .ref q8_16, .null, .null, .null, .int 0, .int 0, .int 0, .null, .null, .int 0, .int 0])), (q8_16, .inl (kq8_16, 4608, .inl (fun _ => 0)))] := hD
    refine lv_aload_n hx hb dX2_init_13 rfl (lv_at hl 0 rfl) ?_
    refine lv_iconst (v := 3) hx hb dX2_init_14 (by decide) ?_
    refine va_newa (atype := .int) (N' := 3) (a0 := (3, .inl (fun _ => 0))) (ty := .int) hx hb (hts (.arrayClass .int) (by decide +kernel)) rfl hK hP hD hS hA (fun _ => rfl) (by decide) (by rfl) (by decide) (show 2 ≤ 6 by decide) (show 4608 + 3 ≤ 9262 by omega) dX2_init_15 (fun q15_17 kq15_17 H hK hP hD hS => ?_)
    have hK : va_K (dC, dI) vwCl [(kq8_16, .int), (kq15_17, .int)] s := hK
    have hP : va_P (dC, dI) vwCl [(y, .inr (3, [.int 0, .int 0, .ref q8_16, .null, .null, .null, .int 0, .int 0, .int 0, .null, .null, .int 0, .int 0])), (q8_16, .inl (kq8_16, 4608, .inl (fun _ => 0))), (q15_17, .inl (kq15_17, 3, .inl (fun _ => 0)))] H := hP
    have hD : va_D A [(y, .inr (3, [.int 0, .int 0, .ref q8_16, .null, .null, .null, .int 0, .int 0, .int 0, .null, .null, .int 0, .int 0])), (q8_16, .inl (kq8_16, 4608, .inl (fun _ => 0))), (q15_17, .inl (kq15_17, 3, .inl (fun _ => 0)))] := hD
    refine W.widen (k := 2) (n := 4611) (by omega) (by omega) ?_
    refine va_putF (D := (dC, dI)) (ci := 3) (v := .ref q15_17) (ty := (.array .int)) (C := RX2) (T := TX2) (N := 13) hx hb hts (by decide +kernel) tyX2 tyX2_ok nmX2 hown hK hP hD hS 0 rfl rfl 3 (by decide) (hts (.fieldLink RX2 13 "ThreeFilesModel" "sizes" "[I") (by decide +kernel)) (fun _ h9 => h9) rfl hin rfl (by decide +kernel) rfl rfl (Nat.le_of_ble_eq_true rfl) dX2_init_17 (fun H locs hP hD hS => ?_)
    have hP : va_P (dC, dI) vwCl [(y, .inr (3, [.int 0, .int 0, .ref q8_16, .ref q15_17, .null, .null, .int 0, .int 0, .int 0, .null, .null, .int 0, .int 0])), (q8_16, .inl (kq8_16, 4608, .inl (fun _ => 0))), (q15_17, .inl (kq15_17, 3, .inl (fun _ => 0)))] H := hP
    have hD : va_D A [(y, .inr (3, [.int 0, .int 0, .ref q8_16, .ref q15_17, .null, .null, .int 0, .int 0, .int 0, .null, .null, .int 0, .int 0])), (q8_16, .inl (kq8_16, 4608, .inl (fun _ => 0))), (q15_17, .inl (kq15_17, 3, .inl (fun _ => 0)))] := hD
    refine lv_aload_n hx hb dX2_init_20 rfl (lv_at hl 0 rfl) ?_
    refine lv_sipush (v := 4608) hx hb dX2_init_21 (by decide) ?_
    refine va_newa (atype := .int) (N' := 4608) (a0 := (4608, .inl (fun _ => 0))) (ty := .int) hx hb (hts (.arrayClass .int) (by decide +kernel)) rfl hK hP hD hS hA (fun _ => rfl) (by decide) (by rfl) (by decide) (show 3 ≤ 6 by decide) (show 4611 + 4608 ≤ 9262 by omega) dX2_init_24 (fun q24_18 kq24_18 H hK hP hD hS => ?_)
    have hK : va_K (dC, dI) vwCl [(kq8_16, .int), (kq15_17, .int), (kq24_18, .int)] s := hK
    have hP : va_P (dC, dI) vwCl [(y, .inr (3, [.int 0, .int 0, .ref q8_16, .ref q15_17, .null, .null, .int 0, .int 0, .int 0, .null, .null, .int 0, .int 0])), (q8_16, .inl (kq8_16, 4608, .inl (fun _ => 0))), (q15_17, .inl (kq15_17, 3, .inl (fun _ => 0))), (q24_18, .inl (kq24_18, 4608, .inl (fun _ => 0)))] H := hP
    have hD : va_D A [(y, .inr (3, [.int 0, .int 0, .ref q8_16, .ref q15_17, .null, .null, .int 0, .int 0, .int 0, .null, .null, .int 0, .int 0])), (q8_16, .inl (kq8_16, 4608, .inl (fun _ => 0))), (q15_17, .inl (kq15_17, 3, .inl (fun _ => 0))), (q24_18, .inl (kq24_18, 4608, .inl (fun _ => 0)))] := hD
    refine W.widen (k := 3) (n := 9219) (by omega) (by omega) ?_
    refine va_putF (D := (dC, dI)) (ci := 3) (v := .ref q24_18) (ty := (.array .int)) (C := RX2) (T := TX2) (N := 13) hx hb hts (by decide +kernel) tyX2 tyX2_ok nmX2 hown hK hP hD hS 0 rfl rfl 4 (by decide) (hts (.fieldLink RX2 16 "ThreeFilesModel" "oldBytes" "[I") (by decide +kernel)) (fun _ h9 => h9) rfl hin rfl (by decide +kernel) rfl rfl (Nat.le_of_ble_eq_true rfl) dX2_init_26 (fun H locs hP hD hS => ?_)
    have hP : va_P (dC, dI) vwCl [(y, .inr (3, [.int 0, .int 0, .ref q8_16, .ref q15_17, .ref q24_18, .null, .int 0, .int 0, .int 0, .null, .null, .int 0, .int 0])), (q8_16, .inl (kq8_16, 4608, .inl (fun _ => 0))), (q15_17, .inl (kq15_17, 3, .inl (fun _ => 0))), (q24_18, .inl (kq24_18, 4608, .inl (fun _ => 0)))] H := hP
    have hD : va_D A [(y, .inr (3, [.int 0, .int 0, .ref q8_16, .ref q15_17, .ref q24_18, .null, .int 0, .int 0, .int 0, .null, .null, .int 0, .int 0])), (q8_16, .inl (kq8_16, 4608, .inl (fun _ => 0))), (q15_17, .inl (kq15_17, 3, .inl (fun _ => 0))), (q24_18, .inl (kq24_18, 4608, .inl (fun _ => 0)))] := hD
    refine lv_aload_n hx hb dX2_init_29 rfl (lv_at hl 0 rfl) ?_
    refine lv_iconst (v := 3) hx hb dX2_init_30 (by decide) ?_
    refine va_newa (atype := .int) (N' := 3) (a0 := (3, .inl (fun _ => 0))) (ty := .int) hx hb (hts (.arrayClass .int) (by decide +kernel)) rfl hK hP hD hS hA (fun _ => rfl) (by decide) (by rfl) (by decide) (show 4 ≤ 6 by decide) (show 9219 + 3 ≤ 9262 by omega) dX2_init_31 (fun q31_19 kq31_19 H hK hP hD hS => ?_)
    have hK : va_K (dC, dI) vwCl [(kq8_16, .int), (kq15_17, .int), (kq24_18, .int), (kq31_19, .int)] s := hK
    have hP : va_P (dC, dI) vwCl [(y, .inr (3, [.int 0, .int 0, .ref q8_16, .ref q15_17, .ref q24_18, .null, .int 0, .int 0, .int 0, .null, .null, .int 0, .int 0])), (q8_16, .inl (kq8_16, 4608, .inl (fun _ => 0))), (q15_17, .inl (kq15_17, 3, .inl (fun _ => 0))), (q24_18, .inl (kq24_18, 4608, .inl (fun _ => 0))), (q31_19, .inl (kq31_19, 3, .inl (fun _ => 0)))] H := hP
    have hD : va_D A [(y, .inr (3, [.int 0, .int 0, .ref q8_16, .ref q15_17, .ref q24_18, .null, .int 0, .int 0, .int 0, .null, .null, .int 0, .int 0])), (q8_16, .inl (kq8_16, 4608, .inl (fun _ => 0))), (q15_17, .inl (kq15_17, 3, .inl (fun _ => 0))), (q24_18, .inl (kq24_18, 4608, .inl (fun _ => 0))), (q31_19, .inl (kq31_19, 3, .inl (fun _ => 0)))] := hD
    refine W.widen (k := 4) (n := 9222) (by omega) (by omega) ?_
    refine va_putF (D := (dC, dI)) (ci := 3) (v := .ref q31_19) (ty := (.array .int)) (C := RX2) (T := TX2) (N := 13) hx hb hts (by decide +kernel) tyX2 tyX2_ok nmX2 hown hK hP hD hS 0 rfl rfl 5 (by decide) (hts (.fieldLink RX2 19 "ThreeFilesModel" "oldSizes" "[I") (by decide +kernel)) (fun _ h9 => h9) rfl hin rfl (by decide +kernel) rfl rfl (Nat.le_of_ble_eq_true rfl) dX2_init_33 (fun H locs hP hD hS => ?_)
    have hP : va_P (dC, dI) vwCl [(y, .inr (3, [.int 0, .int 0, .ref q8_16, .ref q15_17, .ref q24_18, .ref q31_19, .int 0, .int 0, .int 0, .null, .null, .int 0, .int 0])), (q8_16, .inl (kq8_16, 4608, .inl (fun _ => 0))), (q15_17, .inl (kq15_17, 3, .inl (fun _ => 0))), (q24_18, .inl (kq24_18, 4608, .inl (fun _ => 0))), (q31_19, .inl (kq31_19, 3, .inl (fun _ => 0)))] H := hP
    have hD : va_D A [(y, .inr (3, [.int 0, .int 0, .ref q8_16, .ref q15_17, .ref q24_18, .ref q31_19, .int 0, .int 0, .int 0, .null, .null, .int 0, .int 0])), (q8_16, .inl (kq8_16, 4608, .inl (fun _ => 0))), (q15_17, .inl (kq15_17, 3, .inl (fun _ => 0))), (q24_18, .inl (kq24_18, 4608, .inl (fun _ => 0))), (q31_19, .inl (kq31_19, 3, .inl (fun _ => 0)))] := hD
    refine lv_aload_n hx hb dX2_init_36 rfl (lv_at hl 0 rfl) ?_
    refine lv_bipush (v := 16) hx hb dX2_init_37 (by decide) ?_
    refine va_newa (atype := .int) (N' := 16) (a0 := (16, .inl (fun _ => 0))) (ty := .int) hx hb (hts (.arrayClass .int) (by decide +kernel)) rfl hK hP hD hS hA (fun _ => rfl) (by decide) (by rfl) (by decide) (show 5 ≤ 6 by decide) (show 9222 + 16 ≤ 9262 by omega) dX2_init_39 (fun q39_20 kq39_20 H hK hP hD hS => ?_)
    have hK : va_K (dC, dI) vwCl [(kq8_16, .int), (kq15_17, .int), (kq24_18, .int), (kq31_19, .int), (kq39_20, .int)] s := hK
    have hP : va_P (dC, dI) vwCl [(y, .inr (3, [.int 0, .int 0, .ref q8_16, .ref q15_17, .ref q24_18, .ref q31_19, .int 0, .int 0, .int 0, .null, .null, .int 0, .int 0])), (q8_16, .inl (kq8_16, 4608, .inl (fun _ => 0))), (q15_17, .inl (kq15_17, 3, .inl (fun _ => 0))), (q24_18, .inl (kq24_18, 4608, .inl (fun _ => 0))), (q31_19, .inl (kq31_19, 3, .inl (fun _ => 0))), (q39_20, .inl (kq39_20, 16, .inl (fun _ => 0)))] H := hP
    have hD : va_D A [(y, .inr (3, [.int 0, .int 0, .ref q8_16, .ref q15_17, .ref q24_18, .ref q31_19, .int 0, .int 0, .int 0, .null, .null, .int 0, .int 0])), (q8_16, .inl (kq8_16, 4608, .inl (fun _ => 0))), (q15_17, .inl (kq15_17, 3, .inl (fun _ => 0))), (q24_18, .inl (kq24_18, 4608, .inl (fun _ => 0))), (q31_19, .inl (kq31_19, 3, .inl (fun _ => 0))), (q39_20, .inl (kq39_20, 16, .inl (fun _ => 0)))] := hD
    refine W.widen (k := 5) (n := 9238) (by omega) (by omega) ?_
    refine va_putF (D := (dC, dI)) (ci := 3) (v := .ref q39_20) (ty := (.array .int)) (C := RX2) (T := TX2) (N := 13) hx hb hts (by decide +kernel) tyX2 tyX2_ok nmX2 hown hK hP hD hS 0 rfl rfl 9 (by decide) (hts (.fieldLink RX2 22 "ThreeFilesModel" "feeds" "[I") (by decide +kernel)) (fun _ h9 => h9) rfl hin rfl (by decide +kernel) rfl rfl (Nat.le_of_ble_eq_true rfl) dX2_init_41 (fun H locs hP hD hS => ?_)
    have hP : va_P (dC, dI) vwCl [(y, .inr (3, [.int 0, .int 0, .ref q8_16, .ref q15_17, .ref q24_18, .ref q31_19, .int 0, .int 0, .int 0, .ref q39_20, .null, .int 0, .int 0])), (q8_16, .inl (kq8_16, 4608, .inl (fun _ => 0))), (q15_17, .inl (kq15_17, 3, .inl (fun _ => 0))), (q24_18, .inl (kq24_18, 4608, .inl (fun _ => 0))), (q31_19, .inl (kq31_19, 3, .inl (fun _ => 0))), (q39_20, .inl (kq39_20, 16, .inl (fun _ => 0)))] H := hP
    have hD : va_D A [(y, .inr (3, [.int 0, .int 0, .ref q8_16, .ref q15_17, .ref q24_18, .ref q31_19, .int 0, .int 0, .int 0, .ref q39_20, .null, .int 0, .int 0])), (q8_16, .inl (kq8_16, 4608, .inl (fun _ => 0))), (q15_17, .inl (kq15_17, 3, .inl (fun _ => 0))), (q24_18, .inl (kq24_18, 4608, .inl (fun _ => 0))), (q31_19, .inl (kq31_19, 3, .inl (fun _ => 0))), (q39_20, .inl (kq39_20, 16, .inl (fun _ => 0)))] := hD
    refine lv_aload_n hx hb dX2_init_44 rfl (lv_at hl 0 rfl) ?_
    refine lv_bipush (v := 24) hx hb dX2_init_45 (by decide) ?_
    refine va_newa (atype := .int) (N' := 24) (a0 := (24, .inl (fun _ => 0))) (ty := .int) hx hb (hts (.arrayClass .int) (by decide +kernel)) rfl hK hP hD hS hA (fun _ => rfl) (by decide) (by rfl) (by decide) (show 6 ≤ 6 by decide) (show 9238 + 24 ≤ 9262 by omega) dX2_init_47 (fun q47_21 kq47_21 H hK hP hD hS => ?_)
    have hK : va_K (dC, dI) vwCl [(kq8_16, .int), (kq15_17, .int), (kq24_18, .int), (kq31_19, .int), (kq39_20, .int), (kq47_21, .int)] s := hK
    have hP : va_P (dC, dI) vwCl [(y, .inr (3, [.int 0, .int 0, .ref q8_16, .ref q15_17, .ref q24_18, .ref q31_19, .int 0, .int 0, .int 0, .ref q39_20, .null, .int 0, .int 0])), (q8_16, .inl (kq8_16, 4608, .inl (fun _ => 0))), (q15_17, .inl (kq15_17, 3, .inl (fun _ => 0))), (q24_18, .inl (kq24_18, 4608, .inl (fun _ => 0))), (q31_19, .inl (kq31_19, 3, .inl (fun _ => 0))), (q39_20, .inl (kq39_20, 16, .inl (fun _ => 0))), (q47_21, .inl (kq47_21, 24, .inl (fun _ => 0)))] H := hP
    have hD : va_D A [(y, .inr (3, [.int 0, .int 0, .ref q8_16, .ref q15_17, .ref q24_18, .ref q31_19, .int 0, .int 0, .int 0, .ref q39_20, .null, .int 0, .int 0])), (q8_16, .inl (kq8_16, 4608, .inl (fun _ => 0))), (q15_17, .inl (kq15_17, 3, .inl (fun _ => 0))), (q24_18, .inl (kq24_18, 4608, .inl (fun _ => 0))), (q31_19, .inl (kq31_19, 3, .inl (fun _ => 0))), (q39_20, .inl (kq39_20, 16, .inl (fun _ => 0))), (q47_21, .inl (kq47_21, 24, .inl (fun _ => 0)))] := hD
    refine W.widen (k := 6) (n := 9262) (by omega) (by omega) ?_
    refine va_putF (D := (dC, dI)) (ci := 3) (v := .ref q47_21) (ty := (.array .int)) (C := RX2) (T := TX2) (N := 13) hx hb hts (by decide +kernel) tyX2 tyX2_ok nmX2 hown hK hP hD hS 0 rfl rfl 10 (by decide) (hts (.fieldLink RX2 25 "ThreeFilesModel" "made" "[I") (by decide +kernel)) (fun _ h9 => h9) rfl hin rfl (by decide +kernel) rfl rfl (Nat.le_of_ble_eq_true rfl) dX2_init_49 (fun H locs hP hD hS => ?_)
    have hP : va_P (dC, dI) vwCl [(y, .inr (3, [.int 0, .int 0, .ref q8_16, .ref q15_17, .ref q24_18, .ref q31_19, .int 0, .int 0, .int 0, .ref q39_20, .ref q47_21, .int 0, .int 0])), (q8_16, .inl (kq8_16, 4608, .inl (fun _ => 0))), (q15_17, .inl (kq15_17, 3, .inl (fun _ => 0))), (q24_18, .inl (kq24_18, 4608, .inl (fun _ => 0))), (q31_19, .inl (kq31_19, 3, .inl (fun _ => 0))), (q39_20, .inl (kq39_20, 16, .inl (fun _ => 0))), (q47_21, .inl (kq47_21, 24, .inl (fun _ => 0)))] H := hP
    have hD : va_D A [(y, .inr (3, [.int 0, .int 0, .ref q8_16, .ref q15_17, .ref q24_18, .ref q31_19, .int 0, .int 0, .int 0, .ref q39_20, .ref q47_21, .int 0, .int 0])), (q8_16, .inl (kq8_16, 4608, .inl (fun _ => 0))), (q15_17, .inl (kq15_17, 3, .inl (fun _ => 0))), (q24_18, .inl (kq24_18, 4608, .inl (fun _ => 0))), (q31_19, .inl (kq31_19, 3, .inl (fun _ => 0))), (q39_20, .inl (kq39_20, 16, .inl (fun _ => 0))), (q47_21, .inl (kq47_21, 24, .inl (fun _ => 0)))] := hD
    refine lv_aload_n hx hb dX2_init_52 rfl (lv_at hl 0 rfl) ?_
    refine lv_iload_n hx hb dX2_init_53 rfl (lv_at hl 1 rfl) ?_
    refine lv_iconst (v := 1) hx hb dX2_init_54 (by decide) ?_
    refine lv_icmp_lt (tgt := 64) hx hb dX2_init_55 (by decide) (fun c55_22 => ?_) (fun c55_22 => ?_)
    · exact absurd c55_22 (pc_lo hpc hkp1 hkp2)
    ·
      refine lv_iload_n hx hb dX2_init_58 rfl (lv_at hl 1 rfl) ?_
      refine lv_bipush (v := 64) hx hb dX2_init_59 (by decide) ?_
      refine lv_icmp_le (tgt := 68) hx hb dX2_init_61 (by decide) (fun c61_23 => ?_) (fun c61_23 => ?_)
      ·
        refine lv_iload_n hx hb dX2_init_68 rfl (lv_at hl 1 rfl) ?_
        refine va_putF (D := (dC, dI)) (ci := 3) (v := .int p0) (ty := .int) (C := RX2) (T := TX2) (N := 13) hx hb hts (by decide +kernel) tyX2 tyX2_ok nmX2 hown hK hP hD hS 0 rfl rfl 1 (by decide) (hts (.fieldLink RX2 28 "ThreeFilesModel" "pieces" "I") (by decide +kernel)) (fun _ h9 => h9) rfl hin rfl (by decide +kernel) rfl rfl (Nat.le_of_ble_eq_true rfl) dX2_init_69 (fun H locs hP hD hS => ?_)
        have hP : va_P (dC, dI) vwCl [(y, .inr (3, [.int 0, .int p0, .ref q8_16, .ref q15_17, .ref q24_18, .ref q31_19, .int 0, .int 0, .int 0, .ref q39_20, .ref q47_21, .int 0, .int 0])), (q8_16, .inl (kq8_16, 4608, .inl (fun _ => 0))), (q15_17, .inl (kq15_17, 3, .inl (fun _ => 0))), (q24_18, .inl (kq24_18, 4608, .inl (fun _ => 0))), (q31_19, .inl (kq31_19, 3, .inl (fun _ => 0))), (q39_20, .inl (kq39_20, 16, .inl (fun _ => 0))), (q47_21, .inl (kq47_21, 24, .inl (fun _ => 0)))] H := hP
        have hD : va_D A [(y, .inr (3, [.int 0, .int p0, .ref q8_16, .ref q15_17, .ref q24_18, .ref q31_19, .int 0, .int 0, .int 0, .ref q39_20, .ref q47_21, .int 0, .int 0])), (q8_16, .inl (kq8_16, 4608, .inl (fun _ => 0))), (q15_17, .inl (kq15_17, 3, .inl (fun _ => 0))), (q24_18, .inl (kq24_18, 4608, .inl (fun _ => 0))), (q31_19, .inl (kq31_19, 3, .inl (fun _ => 0))), (q39_20, .inl (kq39_20, 16, .inl (fun _ => 0))), (q47_21, .inl (kq47_21, 24, .inl (fun _ => 0)))] := hD
        have hP9 := hP.sub (ws' := [(y, .inr (3, [.int 0, .int p0, .ref q8_16, .ref q15_17, .ref q24_18, .ref q31_19, .int 0, .int 0, .int 0, .ref q39_20, .ref q47_21, .int 0, .int 0])), (q8_16, .inl (kq8_16, 4608, .inl (fun _ => 0))), (q15_17, .inl (kq15_17, 3, .inl (fun _ => 0))), (q24_18, .inl (kq24_18, 4608, .inl (fun _ => 0))), (q31_19, .inl (kq31_19, 3, .inl (fun _ => 0))), (q39_20, .inl (kq39_20, 16, .inl (fun _ => 0))), (q47_21, .inl (kq47_21, 24, .inl (fun _ => 0)))]) [0, 1, 2, 3, 4, 5, 6] rfl
        have hD9 := hD.sub (ws' := [(y, .inr (3, [.int 0, .int p0, .ref q8_16, .ref q15_17, .ref q24_18, .ref q31_19, .int 0, .int 0, .int 0, .ref q39_20, .ref q47_21, .int 0, .int 0])), (q8_16, .inl (kq8_16, 4608, .inl (fun _ => 0))), (q15_17, .inl (kq15_17, 3, .inl (fun _ => 0))), (q24_18, .inl (kq24_18, 4608, .inl (fun _ => 0))), (q31_19, .inl (kq31_19, 3, .inl (fun _ => 0))), (q39_20, .inl (kq39_20, 16, .inl (fun _ => 0))), (q47_21, .inl (kq47_21, 24, .inl (fun _ => 0)))]) [0, 1, 2, 3, 4, 5, 6] (by decide) rfl
        have hK9 := hK.sub (tys' := [(kq8_16, .int), (kq15_17, .int), (kq24_18, .int), (kq31_19, .int), (kq39_20, .int), (kq47_21, .int)]) [0, 1, 2, 3, 4, 5] rfl
        refine W.widen (k := 6) (n := 9262) (by omega) (by omega) ?_
        exact W.vret hx hb hr (fun t ht hW => ⟨⟨p0, rfl, (pc_c hpc hkp1 hkp2), q8_16, q15_17, q24_18, q31_19, q39_20, q47_21, kq8_16, kq15_17, kq24_18, kq31_19, kq39_20, kq47_21, by rw [ht]; exact hP9, va_K.moved hW.alike hK9, hD9⟩, hS.F ht⟩) hS.2.2 dX2_init_72
      · exact absurd (q_ge (pc_hi hpc hkp1 hkp2)) c61_23

set_option maxHeartbeats 4000000 in
set_option maxRecDepth 100000 in
theorem m_thrown (l : Launch) (dC : Nat → ClassId) (dI : Nat → Nat → Nat) (y mb mz ob oz fd md : Nat) (pv th : Int32) : Met l yX2_thrown wsX2_thrown ({ frames := 0, cells := 0, slots := 0, locals := 0 }) (va_Pc [.ref y] (fun U => va_P (dC, dI) vwCl [(y, .inr (3, [.int th, .int pv, .ref mb, .ref mz, .ref ob, .ref oz, .int 0, .int 0, .int 0, .ref fd, .ref md, .int 0, .int 0]))] U.heap ∧ va_K (dC, dI) vwCl [] U)) (vp_Si (fun r => r = th)) 0 0 (fun _ => False) := by
  refine Met.ofW (cc := cX2_thrown) (maxL := 1) (ret := (some .int)) (by decide) rfl ?_
  intro p e s m args below meth c s₁ B hml hv
  obtain ⟨rfl, hP, hK⟩ := hv
  have hx := B.exec
  have hb := B.bytes
  have hr := B.returns
  have hts := atoms_spec (ws := wsX2_thrown) B.pre
  have hown : s.vm.findClass RX2 = some m.cls := findClass_of_methodNamed B.named
  have hlocks := B.notSynchronized
  have hP : va_P (dC, dI) vwCl [(y, .inr (3, [.int th, .int pv, .ref mb, .ref mz, .ref ob, .ref oz, .int 0, .int 0, .int 0, .ref fd, .ref md, .int 0, .int 0]))] s.heap := hP
  have hl := lv_entry ([.ref y]) (n := 1) (Nat.le_of_ble_eq_true rfl)
  rw [lg_entry_eq]
  generalize (lg_sl ([.ref y]) ++ List.replicate (1 - (lg_sl ([.ref y])).length) Slot.unset).toArray = ls at hl ⊢
  have hl : lv_has ls 1 [(0, .ref y)] := hl
  refine lv_aload_n hx hb dX2_thrown_0 rfl (lv_at hl 0 rfl) ?_
  refine va_get (D := (dC, dI)) (ci := 3) (v := .int th) (C := RX2) (T := TX2) (N := 13) hx hb hts (by decide +kernel) hown hK hP 0 rfl rfl 0 (by decide) (hts (.fieldLink RX2 32 "ThreeFilesModel" "thrown" "I") (by decide +kernel)) (fun _ h9 => h9) rfl dX2_thrown_1 ?_
  exact W.iret (v := th) hx hb hr (fun t ht hW => ⟨th, rfl, rfl, ht⟩) (fun _ h => absurd h List.not_mem_nil) dX2_thrown_4

set_option maxHeartbeats 4000000 in
set_option maxRecDepth 100000 in
theorem m_byteAt (l : Launch) (dC : Nat → ClassId) (dI : Nat → Nat → Nat) (sz : Nat) (y mb mz ob oz fd md : Nat) (kz : ClassId) (pv th : Int32) (p0 p1 p2 : Int32) (hpv : ∃ k : Nat, 1 ≤ k ∧ k ≤ 64 ∧ pv = nI k) : Met l yX2_byteAt wsX2_byteAt ({ frames := 1, cells := 0, slots := 0, locals := 22 }) (va_Pc [.ref y, .int p0, .int p1, .int p2] (fun U => U.heap.size = sz ∧ va_P (dC, dI) vwCl [(y, .inr (3, [.int th, .int pv, .ref mb, .ref mz, .ref ob, .ref oz, .int 0, .int 0, .int 0, .ref fd, .ref md, .int 0, .int 0])), (mz, .inl (kz, 3, .inl (fun _ => 0)))] U.heap ∧ va_K (dC, dI) vwCl [(kz, .int)] U ∧ va_D (fun _ => True) [(y, .inr (3, [.int th, .int pv, .ref mb, .ref mz, .ref ob, .ref oz, .int 0, .int 0, .int 0, .ref fd, .ref md, .int 0, .int 0])), (mz, .inl (kz, 3, .inl (fun _ => 0)))])) (va_Qi (fun r (tv : Int32) => r = 0 ∧ ((tv = 0 ∧ okB pv p0 p1 p2) ∨ (tv = 1 ∧ ¬ okB pv p0 p1 p2))) (fun tv t => va_P (dC, dI) vwCl [(y, .inr (3, [.int tv, .int pv, .ref mb, .ref mz, .ref ob, .ref oz, .int 0, .int 0, .int 0, .ref fd, .ref md, .int 0, .int 0])), (mz, .inl (kz, 3, .inl (fun _ => 0)))] t.heap ∧ va_K (dC, dI) vwCl [(kz, .int)] t ∧ va_D (va_A [(y, .inr (3, [.int th, .int pv, .ref mb, .ref mz, .ref ob, .ref oz, .int 0, .int 0, .int 0, .ref fd, .ref md, .int 0, .int 0])), (mz, .inl (kz, 3, .inl (fun _ => 0)))] sz) [(y, .inr (3, [.int tv, .int pv, .ref mb, .ref mz, .ref ob, .ref oz, .int 0, .int 0, .int 0, .ref fd, .ref md, .int 0, .int 0])), (mz, .inl (kz, 3, .inl (fun _ => 0)))]) (va_A [(y, .inr (3, [.int th, .int pv, .ref mb, .ref mz, .ref ob, .ref oz, .int 0, .int 0, .int 0, .ref fd, .ref md, .int 0, .int 0])), (mz, .inl (kz, 3, .inl (fun _ => 0)))] sz)) 0 0 (va_A [(y, .inr (3, [.int th, .int pv, .ref mb, .ref mz, .ref ob, .ref oz, .int 0, .int 0, .int 0, .ref fd, .ref md, .int 0, .int 0])), (mz, .inl (kz, 3, .inl (fun _ => 0)))] sz) := by
  refine Met.ofW (cc := cX2_byteAt) (maxL := 4) (ret := (some .int)) (by decide) rfl ?_
  intro p e s m args below meth c s₁ B hml hv
  obtain ⟨rfl, hsz, hP, hK, hD0⟩ := hv
  have hx := B.exec
  have hb := B.bytes
  have hr := B.returns
  have hts := atoms_spec (ws := wsX2_byteAt) B.pre
  have hown : s.vm.findClass RX2 = some m.cls := findClass_of_methodNamed B.named
  have hlocks := B.notSynchronized
  subst hsz
  have hD := hD0.self (sz := s.heap.size)
  generalize hAe : va_A [(y, .inr (3, [.int th, .int pv, .ref mb, .ref mz, .ref ob, .ref oz, .int 0, .int 0, .int 0, .ref fd, .ref md, .int 0, .int 0])), (mz, .inl (kz, 3, .inl (fun _ => 0)))] s.heap.size = A at hD ⊢
  have hA : ∀ q : Nat, s.heap.size ≤ q → A q := fun q h => by rw [← hAe]; exact Or.inr h
  have hS : va_S A s.heap s.heap [] := va_S.rf
  have hP : va_P (dC, dI) vwCl [(y, .inr (3, [.int th, .int pv, .ref mb, .ref mz, .ref ob, .ref oz, .int 0, .int 0, .int 0, .ref fd, .ref md, .int 0, .int 0])), (mz, .inl (kz, 3, .inl (fun _ => 0)))] s.heap := hP
  have hl := lv_entry ([.ref y, .int p0, .int p1, .int p2]) (n := 4) (Nat.le_of_ble_eq_true rfl)
  rw [lg_entry_eq]
  generalize (lg_sl ([.ref y, .int p0, .int p1, .int p2]) ++ List.replicate (4 - (lg_sl ([.ref y, .int p0, .int p1, .int p2])).length) Slot.unset).toArray = ls at hl ⊢
  have hl : lv_has ls 4 [(0, .ref y), (1, .int p0), (2, .int p1), (3, .int p2)] := hl
  have hH0 : s.heap.size ≤ s.heap.size := Nat.le_refl _
  refine lv_aload_n hx hb dX2_byteAt_0 rfl (lv_at hl 0 rfl) ?_
  refine lv_iload_n hx hb dX2_byteAt_1 rfl (lv_at hl 1 rfl) ?_
  refine lv_iconst (v := 0) hx hb dX2_byteAt_2 (by decide) ?_
  refine lv_iconst (v := 2) hx hb dX2_byteAt_3 (by decide) ?_
  have hPc := hP.sub (ws' := []) [] rfl
  have hKc := hK.sub (tys' := []) [] rfl
  refine vp_callSi ((va_runS (As := [.int p0, .int 0, .int 2]) (rest := [.ref y]) ⟨hx, hb, hml, hown, hts⟩ (m_in l dC dI p0 0 2) (va_cwS 3 hts gX2_byteAt_X2_in rfl rfl rfl (by decide +kernel) ⟨Nat.le_of_ble_eq_true rfl, Nat.le_of_ble_eq_true rfl⟩) ⟨fun a U g mk q => by obtain ⟨q0, qP, qK⟩ := q; exact ⟨q0, qP, va_K.moved (u := U) (U := U.calling g mk a) (Vm.Alike.refl U.vm) qK⟩, fun U hU hW => ⟨rfl, by rw [hU]; exact hPc, va_K.moved hW.alike hKc⟩⟩ rfl rfl hl.1 rfl (lv_room (Nat.le_of_ble_eq_true rfl)) dX2_byteAt_4 ⟨Nat.le_of_ble_eq_true rfl, Nat.le_of_ble_eq_true rfl⟩)).run (fun r_1 hq_1 => ?_)
  rcases hq_1 with ⟨rfl, hf_1⟩ | ⟨rfl, hf_1⟩
  ·
    rcases q_in2 hf_1 with rfl | rfl | rfl
    ·
      refine lv_if_eq (tgt := 34) hx hb dX2_byteAt_7 (by decide) (fun c7_2 => ?_) (fun c7_2 => ?_)
      · exact absurd c7_2 (by decide)
      ·
        refine lv_iload_n hx hb dX2_byteAt_10 rfl (lv_at hl 2 rfl) ?_
        refine lv_iconst (v := 0) hx hb dX2_byteAt_11 (by decide) ?_
        refine lv_aload_n hx hb dX2_byteAt_12 rfl (lv_at hl 0 rfl) ?_
        refine va_get (D := (dC, dI)) (ci := 3) (v := .int pv) (C := RX2) (T := TX2) (N := 13) hx hb hts (by decide +kernel) hown hK hP 0 rfl rfl 1 (by decide) (hts (.fieldLink RX2 28 "ThreeFilesModel" "pieces" "I") (by decide +kernel)) (fun _ h9 => h9) rfl dX2_byteAt_13 ?_
        refine lv_iconst (v := 1) hx hb dX2_byteAt_16 (by decide) ?_
        refine lv_isub hx hb dX2_byteAt_17 ?_
        refine lv_topi (fun v17_3 ev17_3 => ?_)
        have hPc := hP.sub (ws' := []) [] rfl
        have hKc := hK.sub (tys' := []) [] rfl
        refine vp_callSi ((va_runS (As := [.int p1, .int 0, .int v17_3]) (rest := [.ref y]) ⟨hx, hb, hml, hown, hts⟩ (m_in l dC dI p1 0 v17_3) (va_cwS 3 hts gX2_byteAt_X2_in rfl rfl rfl (by decide +kernel) ⟨Nat.le_of_ble_eq_true rfl, Nat.le_of_ble_eq_true rfl⟩) ⟨fun a U g mk q => by obtain ⟨q0, qP, qK⟩ := q; exact ⟨q0, qP, va_K.moved (u := U) (U := U.calling g mk a) (Vm.Alike.refl U.vm) qK⟩, fun U hU hW => ⟨rfl, by rw [hU]; exact hPc, va_K.moved hW.alike hKc⟩⟩ rfl rfl hl.1 rfl (lv_room (Nat.le_of_ble_eq_true rfl)) dX2_byteAt_18 ⟨Nat.le_of_ble_eq_true rfl, Nat.le_of_ble_eq_true rfl⟩)).run (fun r_4 hq_4 => ?_)
        rcases hq_4 with ⟨rfl, hf_4⟩ | ⟨rfl, hf_4⟩
        ·
          refine lv_if_eq (tgt := 34) hx hb dX2_byteAt_21 (by decide) (fun c21_5 => ?_) (fun c21_5 => ?_)
          · exact absurd c21_5 (by decide)
          ·
            refine lv_iload_n hx hb dX2_byteAt_24 rfl (lv_at hl 3 rfl) ?_
            refine lv_iconst (v := 0) hx hb dX2_byteAt_25 (by decide) ?_
            refine lv_bipush (v := 23) hx hb dX2_byteAt_26 (by decide) ?_
            have hPc := hP.sub (ws' := []) [] rfl
            have hKc := hK.sub (tys' := []) [] rfl
            refine vp_callSi ((va_runS (As := [.int p2, .int 0, .int 23]) (rest := [.ref y]) ⟨hx, hb, hml, hown, hts⟩ (m_in l dC dI p2 0 23) (va_cwS 3 hts gX2_byteAt_X2_in rfl rfl rfl (by decide +kernel) ⟨Nat.le_of_ble_eq_true rfl, Nat.le_of_ble_eq_true rfl⟩) ⟨fun a U g mk q => by obtain ⟨q0, qP, qK⟩ := q; exact ⟨q0, qP, va_K.moved (u := U) (U := U.calling g mk a) (Vm.Alike.refl U.vm) qK⟩, fun U hU hW => ⟨rfl, by rw [hU]; exact hPc, va_K.moved hW.alike hKc⟩⟩ rfl rfl hl.1 rfl (lv_room (Nat.le_of_ble_eq_true rfl)) dX2_byteAt_28 ⟨Nat.le_of_ble_eq_true rfl, Nat.le_of_ble_eq_true rfl⟩)).run (fun r_6 hq_6 => ?_)
            rcases hq_6 with ⟨rfl, hf_6⟩ | ⟨rfl, hf_6⟩
            ·
              refine lv_if_ne (tgt := 38) hx hb dX2_byteAt_31 (by decide) (fun c31_7 => ?_) (fun c31_7 => ?_)
              ·
                refine lv_iconst (v := 0) hx hb dX2_byteAt_38 (by decide) ?_
                refine va_put (D := (dC, dI)) (ci := 3) (v := .int 0) (ty := .int) (C := RX2) (T := TX2) (N := 13) hx hb hts (by decide +kernel) tyX2 tyX2_ok nmX2 hown hK hP hD hS 0 rfl rfl 0 (by decide) (hts (.fieldLink RX2 32 "ThreeFilesModel" "thrown" "I") (by decide +kernel)) (fun _ h9 => h9) rfl (by decide +kernel) rfl rfl (Nat.le_of_ble_eq_true rfl) dX2_byteAt_39 (fun H locs hP hD hS => ?_)
                have hP : va_P (dC, dI) vwCl [(y, .inr (3, [.int 0, .int pv, .ref mb, .ref mz, .ref ob, .ref oz, .int 0, .int 0, .int 0, .ref fd, .ref md, .int 0, .int 0])), (mz, .inl (kz, 3, .inl (fun _ => 0)))] H := hP
                have hD : va_D A [(y, .inr (3, [.int 0, .int pv, .ref mb, .ref mz, .ref ob, .ref oz, .int 0, .int 0, .int 0, .ref fd, .ref md, .int 0, .int 0])), (mz, .inl (kz, 3, .inl (fun _ => 0)))] := hD
                refine lv_aload_n hx hb dX2_byteAt_42 rfl (lv_at hl 0 rfl) ?_
                refine va_get (D := (dC, dI)) (ci := 3) (v := .int 0) (C := RX2) (T := TX2) (N := 13) hx hb hts (by decide +kernel) hown hK hP 0 rfl rfl 0 (by decide) (hts (.fieldLink RX2 32 "ThreeFilesModel" "thrown" "I") (by decide +kernel)) (fun _ h9 => h9) rfl dX2_byteAt_43 ?_
                refine lv_if_le (tgt := 51) hx hb dX2_byteAt_46 (by decide) (fun c46_8 => ?_) (fun c46_8 => ?_)
                ·
                  refine lv_bipush (v := 24) hx hb dX2_byteAt_51 (by decide) ?_
                  refine lv_iload_n hx hb dX2_byteAt_53 rfl (lv_at hl 2 rfl) ?_
                  refine lv_imul hx hb dX2_byteAt_54 ?_
                  refine lv_topi (fun v54_9 ev54_9 => ?_)
                  refine lv_iload_n hx hb dX2_byteAt_55 rfl (lv_at hl 3 rfl) ?_
                  refine lv_iadd hx hb dX2_byteAt_56 ?_
                  refine lv_topi (fun v56_10 ev56_10 => ?_)
                  refine lv_aload_n hx hb dX2_byteAt_57 rfl (lv_at hl 0 rfl) ?_
                  refine va_get (D := (dC, dI)) (ci := 3) (v := .ref mz) (C := RX2) (T := TX2) (N := 13) hx hb hts (by decide +kernel) hown hK hP 0 rfl rfl 3 (by decide) (hts (.fieldLink RX2 13 "ThreeFilesModel" "sizes" "[I") (by decide +kernel)) (fun _ h9 => h9) rfl dX2_byteAt_58 ?_
                  refine lv_iload_n hx hb dX2_byteAt_61 rfl (lv_at hl 1 rfl) ?_
                  refine va_iald hx hb hK hP 1 0 rfl rfl (i := 0) (by unfold vp_in; decide) dX2_byteAt_62 ?_
                  refine W.eq (g2 := F0 m 63 ls [.int 0, .int v56_10]) (by rfl) ?_
                  refine lv_icmp_ge (tgt := 86) hx hb dX2_byteAt_63 (by decide) (fun c63_11 => ?_) (fun c63_11 => ?_)
                  ·
                    refine lv_iconst (v := 0) hx hb dX2_byteAt_86 (by decide) ?_
                    have hP9 := hP.sub (ws' := [(y, .inr (3, [.int 0, .int pv, .ref mb, .ref mz, .ref ob, .ref oz, .int 0, .int 0, .int 0, .ref fd, .ref md, .int 0, .int 0])), (mz, .inl (kz, 3, .inl (fun _ => 0)))]) [0, 1] rfl
                    have hD9 := hD.sub (ws' := [(y, .inr (3, [.int 0, .int pv, .ref mb, .ref mz, .ref ob, .ref oz, .int 0, .int 0, .int 0, .ref fd, .ref md, .int 0, .int 0])), (mz, .inl (kz, 3, .inl (fun _ => 0)))]) [0, 1] (by decide) rfl
                    have hK9 := hK.sub (tys' := [(kz, .int)]) [0] rfl
                    refine W.widen (k := 0) (n := 0) (by omega) (by omega) ?_
                    exact W.iret (v := 0) hx hb hr (fun t ht hW => ⟨⟨0, 0, rfl, ⟨rfl, Or.inl ⟨rfl, (by decide), q_nlt hf_4.1, q_m1 hpv hf_4.2 ev17_3, q_nlt hf_6.1, q_24 hf_6.2⟩⟩, by rw [ht]; exact hP9, va_K.moved hW.alike hK9, hD9⟩, hS.F ht⟩) hS.2.2 dX2_byteAt_87
                  · exact absurd (by rw [ev56_10, ev54_9]; exact q_place hpv hf_4.1 (q_m1 hpv hf_4.2 ev17_3) hf_6.1 hf_6.2) c63_11
                · exact absurd (by decide) c46_8
              · exact absurd c31_7 (by decide)
            ·
              refine lv_if_ne (tgt := 38) hx hb dX2_byteAt_31 (by decide) (fun c31_12 => ?_) (fun c31_12 => ?_)
              · exact absurd (by decide) c31_12
              ·
                refine lv_iconst (v := 1) hx hb dX2_byteAt_34 (by decide) ?_
                refine lv_goto (tgt := 39) hx hb dX2_byteAt_35 (by decide) ?_
                refine va_put (D := (dC, dI)) (ci := 3) (v := .int 1) (ty := .int) (C := RX2) (T := TX2) (N := 13) hx hb hts (by decide +kernel) tyX2 tyX2_ok nmX2 hown hK hP hD hS 0 rfl rfl 0 (by decide) (hts (.fieldLink RX2 32 "ThreeFilesModel" "thrown" "I") (by decide +kernel)) (fun _ h9 => h9) rfl (by decide +kernel) rfl rfl (Nat.le_of_ble_eq_true rfl) dX2_byteAt_39 (fun H locs hP hD hS => ?_)
                have hP : va_P (dC, dI) vwCl [(y, .inr (3, [.int 1, .int pv, .ref mb, .ref mz, .ref ob, .ref oz, .int 0, .int 0, .int 0, .ref fd, .ref md, .int 0, .int 0])), (mz, .inl (kz, 3, .inl (fun _ => 0)))] H := hP
                have hD : va_D A [(y, .inr (3, [.int 1, .int pv, .ref mb, .ref mz, .ref ob, .ref oz, .int 0, .int 0, .int 0, .ref fd, .ref md, .int 0, .int 0])), (mz, .inl (kz, 3, .inl (fun _ => 0)))] := hD
                refine lv_aload_n hx hb dX2_byteAt_42 rfl (lv_at hl 0 rfl) ?_
                refine va_get (D := (dC, dI)) (ci := 3) (v := .int 1) (C := RX2) (T := TX2) (N := 13) hx hb hts (by decide +kernel) hown hK hP 0 rfl rfl 0 (by decide) (hts (.fieldLink RX2 32 "ThreeFilesModel" "thrown" "I") (by decide +kernel)) (fun _ h9 => h9) rfl dX2_byteAt_43 ?_
                refine lv_if_le (tgt := 51) hx hb dX2_byteAt_46 (by decide) (fun c46_13 => ?_) (fun c46_13 => ?_)
                · exact absurd c46_13 (by decide)
                ·
                  refine lv_iconst (v := 0) hx hb dX2_byteAt_49 (by decide) ?_
                  have hP9 := hP.sub (ws' := [(y, .inr (3, [.int 1, .int pv, .ref mb, .ref mz, .ref ob, .ref oz, .int 0, .int 0, .int 0, .ref fd, .ref md, .int 0, .int 0])), (mz, .inl (kz, 3, .inl (fun _ => 0)))]) [0, 1] rfl
                  have hD9 := hD.sub (ws' := [(y, .inr (3, [.int 1, .int pv, .ref mb, .ref mz, .ref ob, .ref oz, .int 0, .int 0, .int 0, .ref fd, .ref md, .int 0, .int 0])), (mz, .inl (kz, 3, .inl (fun _ => 0)))]) [0, 1] (by decide) rfl
                  have hK9 := hK.sub (tys' := [(kz, .int)]) [0] rfl
                  refine W.widen (k := 0) (n := 0) (by omega) (by omega) ?_
                  exact W.iret (v := 0) hx hb hr (fun t ht hW => ⟨⟨0, 1, rfl, ⟨rfl, Or.inr ⟨rfl, fun q => q_m3 hf_6 q.2.2.2.1 q.2.2.2.2⟩⟩, by rw [ht]; exact hP9, va_K.moved hW.alike hK9, hD9⟩, hS.F ht⟩) hS.2.2 dX2_byteAt_50
        ·
          refine lv_if_eq (tgt := 34) hx hb dX2_byteAt_21 (by decide) (fun c21_14 => ?_) (fun c21_14 => ?_)
          ·
            refine lv_iconst (v := 1) hx hb dX2_byteAt_34 (by decide) ?_
            refine lv_goto (tgt := 39) hx hb dX2_byteAt_35 (by decide) ?_
            refine va_put (D := (dC, dI)) (ci := 3) (v := .int 1) (ty := .int) (C := RX2) (T := TX2) (N := 13) hx hb hts (by decide +kernel) tyX2 tyX2_ok nmX2 hown hK hP hD hS 0 rfl rfl 0 (by decide) (hts (.fieldLink RX2 32 "ThreeFilesModel" "thrown" "I") (by decide +kernel)) (fun _ h9 => h9) rfl (by decide +kernel) rfl rfl (Nat.le_of_ble_eq_true rfl) dX2_byteAt_39 (fun H locs hP hD hS => ?_)
            have hP : va_P (dC, dI) vwCl [(y, .inr (3, [.int 1, .int pv, .ref mb, .ref mz, .ref ob, .ref oz, .int 0, .int 0, .int 0, .ref fd, .ref md, .int 0, .int 0])), (mz, .inl (kz, 3, .inl (fun _ => 0)))] H := hP
            have hD : va_D A [(y, .inr (3, [.int 1, .int pv, .ref mb, .ref mz, .ref ob, .ref oz, .int 0, .int 0, .int 0, .ref fd, .ref md, .int 0, .int 0])), (mz, .inl (kz, 3, .inl (fun _ => 0)))] := hD
            refine lv_aload_n hx hb dX2_byteAt_42 rfl (lv_at hl 0 rfl) ?_
            refine va_get (D := (dC, dI)) (ci := 3) (v := .int 1) (C := RX2) (T := TX2) (N := 13) hx hb hts (by decide +kernel) hown hK hP 0 rfl rfl 0 (by decide) (hts (.fieldLink RX2 32 "ThreeFilesModel" "thrown" "I") (by decide +kernel)) (fun _ h9 => h9) rfl dX2_byteAt_43 ?_
            refine lv_if_le (tgt := 51) hx hb dX2_byteAt_46 (by decide) (fun c46_15 => ?_) (fun c46_15 => ?_)
            · exact absurd c46_15 (by decide)
            ·
              refine lv_iconst (v := 0) hx hb dX2_byteAt_49 (by decide) ?_
              have hP9 := hP.sub (ws' := [(y, .inr (3, [.int 1, .int pv, .ref mb, .ref mz, .ref ob, .ref oz, .int 0, .int 0, .int 0, .ref fd, .ref md, .int 0, .int 0])), (mz, .inl (kz, 3, .inl (fun _ => 0)))]) [0, 1] rfl
              have hD9 := hD.sub (ws' := [(y, .inr (3, [.int 1, .int pv, .ref mb, .ref mz, .ref ob, .ref oz, .int 0, .int 0, .int 0, .ref fd, .ref md, .int 0, .int 0])), (mz, .inl (kz, 3, .inl (fun _ => 0)))]) [0, 1] (by decide) rfl
              have hK9 := hK.sub (tys' := [(kz, .int)]) [0] rfl
              refine W.widen (k := 0) (n := 0) (by omega) (by omega) ?_
              exact W.iret (v := 0) hx hb hr (fun t ht hW => ⟨⟨0, 1, rfl, ⟨rfl, Or.inr ⟨rfl, fun q => q_m2 hpv hf_4 ev17_3 q.2.1 q.2.2.1⟩⟩, by rw [ht]; exact hP9, va_K.moved hW.alike hK9, hD9⟩, hS.F ht⟩) hS.2.2 dX2_byteAt_50
          · exact absurd (by decide) c21_14
    ·
      refine lv_if_eq (tgt := 34) hx hb dX2_byteAt_7 (by decide) (fun c7_16 => ?_) (fun c7_16 => ?_)
      · exact absurd c7_16 (by decide)
      ·
        refine lv_iload_n hx hb dX2_byteAt_10 rfl (lv_at hl 2 rfl) ?_
        refine lv_iconst (v := 0) hx hb dX2_byteAt_11 (by decide) ?_
        refine lv_aload_n hx hb dX2_byteAt_12 rfl (lv_at hl 0 rfl) ?_
        refine va_get (D := (dC, dI)) (ci := 3) (v := .int pv) (C := RX2) (T := TX2) (N := 13) hx hb hts (by decide +kernel) hown hK hP 0 rfl rfl 1 (by decide) (hts (.fieldLink RX2 28 "ThreeFilesModel" "pieces" "I") (by decide +kernel)) (fun _ h9 => h9) rfl dX2_byteAt_13 ?_
        refine lv_iconst (v := 1) hx hb dX2_byteAt_16 (by decide) ?_
        refine lv_isub hx hb dX2_byteAt_17 ?_
        refine lv_topi (fun v17_17 ev17_17 => ?_)
        have hPc := hP.sub (ws' := []) [] rfl
        have hKc := hK.sub (tys' := []) [] rfl
        refine vp_callSi ((va_runS (As := [.int p1, .int 0, .int v17_17]) (rest := [.ref y]) ⟨hx, hb, hml, hown, hts⟩ (m_in l dC dI p1 0 v17_17) (va_cwS 3 hts gX2_byteAt_X2_in rfl rfl rfl (by decide +kernel) ⟨Nat.le_of_ble_eq_true rfl, Nat.le_of_ble_eq_true rfl⟩) ⟨fun a U g mk q => by obtain ⟨q0, qP, qK⟩ := q; exact ⟨q0, qP, va_K.moved (u := U) (U := U.calling g mk a) (Vm.Alike.refl U.vm) qK⟩, fun U hU hW => ⟨rfl, by rw [hU]; exact hPc, va_K.moved hW.alike hKc⟩⟩ rfl rfl hl.1 rfl (lv_room (Nat.le_of_ble_eq_true rfl)) dX2_byteAt_18 ⟨Nat.le_of_ble_eq_true rfl, Nat.le_of_ble_eq_true rfl⟩)).run (fun r_18 hq_18 => ?_)
        rcases hq_18 with ⟨rfl, hf_18⟩ | ⟨rfl, hf_18⟩
        ·
          refine lv_if_eq (tgt := 34) hx hb dX2_byteAt_21 (by decide) (fun c21_19 => ?_) (fun c21_19 => ?_)
          · exact absurd c21_19 (by decide)
          ·
            refine lv_iload_n hx hb dX2_byteAt_24 rfl (lv_at hl 3 rfl) ?_
            refine lv_iconst (v := 0) hx hb dX2_byteAt_25 (by decide) ?_
            refine lv_bipush (v := 23) hx hb dX2_byteAt_26 (by decide) ?_
            have hPc := hP.sub (ws' := []) [] rfl
            have hKc := hK.sub (tys' := []) [] rfl
            refine vp_callSi ((va_runS (As := [.int p2, .int 0, .int 23]) (rest := [.ref y]) ⟨hx, hb, hml, hown, hts⟩ (m_in l dC dI p2 0 23) (va_cwS 3 hts gX2_byteAt_X2_in rfl rfl rfl (by decide +kernel) ⟨Nat.le_of_ble_eq_true rfl, Nat.le_of_ble_eq_true rfl⟩) ⟨fun a U g mk q => by obtain ⟨q0, qP, qK⟩ := q; exact ⟨q0, qP, va_K.moved (u := U) (U := U.calling g mk a) (Vm.Alike.refl U.vm) qK⟩, fun U hU hW => ⟨rfl, by rw [hU]; exact hPc, va_K.moved hW.alike hKc⟩⟩ rfl rfl hl.1 rfl (lv_room (Nat.le_of_ble_eq_true rfl)) dX2_byteAt_28 ⟨Nat.le_of_ble_eq_true rfl, Nat.le_of_ble_eq_true rfl⟩)).run (fun r_20 hq_20 => ?_)
            rcases hq_20 with ⟨rfl, hf_20⟩ | ⟨rfl, hf_20⟩
            ·
              refine lv_if_ne (tgt := 38) hx hb dX2_byteAt_31 (by decide) (fun c31_21 => ?_) (fun c31_21 => ?_)
              ·
                refine lv_iconst (v := 0) hx hb dX2_byteAt_38 (by decide) ?_
                refine va_put (D := (dC, dI)) (ci := 3) (v := .int 0) (ty := .int) (C := RX2) (T := TX2) (N := 13) hx hb hts (by decide +kernel) tyX2 tyX2_ok nmX2 hown hK hP hD hS 0 rfl rfl 0 (by decide) (hts (.fieldLink RX2 32 "ThreeFilesModel" "thrown" "I") (by decide +kernel)) (fun _ h9 => h9) rfl (by decide +kernel) rfl rfl (Nat.le_of_ble_eq_true rfl) dX2_byteAt_39 (fun H locs hP hD hS => ?_)
                have hP : va_P (dC, dI) vwCl [(y, .inr (3, [.int 0, .int pv, .ref mb, .ref mz, .ref ob, .ref oz, .int 0, .int 0, .int 0, .ref fd, .ref md, .int 0, .int 0])), (mz, .inl (kz, 3, .inl (fun _ => 0)))] H := hP
                have hD : va_D A [(y, .inr (3, [.int 0, .int pv, .ref mb, .ref mz, .ref ob, .ref oz, .int 0, .int 0, .int 0, .ref fd, .ref md, .int 0, .int 0])), (mz, .inl (kz, 3, .inl (fun _ => 0)))] := hD
                refine lv_aload_n hx hb dX2_byteAt_42 rfl (lv_at hl 0 rfl) ?_
                refine va_get (D := (dC, dI)) (ci := 3) (v := .int 0) (C := RX2) (T := TX2) (N := 13) hx hb hts (by decide +kernel) hown hK hP 0 rfl rfl 0 (by decide) (hts (.fieldLink RX2 32 "ThreeFilesModel" "thrown" "I") (by decide +kernel)) (fun _ h9 => h9) rfl dX2_byteAt_43 ?_
                refine lv_if_le (tgt := 51) hx hb dX2_byteAt_46 (by decide) (fun c46_22 => ?_) (fun c46_22 => ?_)
                ·
                  refine lv_bipush (v := 24) hx hb dX2_byteAt_51 (by decide) ?_
                  refine lv_iload_n hx hb dX2_byteAt_53 rfl (lv_at hl 2 rfl) ?_
                  refine lv_imul hx hb dX2_byteAt_54 ?_
                  refine lv_topi (fun v54_23 ev54_23 => ?_)
                  refine lv_iload_n hx hb dX2_byteAt_55 rfl (lv_at hl 3 rfl) ?_
                  refine lv_iadd hx hb dX2_byteAt_56 ?_
                  refine lv_topi (fun v56_24 ev56_24 => ?_)
                  refine lv_aload_n hx hb dX2_byteAt_57 rfl (lv_at hl 0 rfl) ?_
                  refine va_get (D := (dC, dI)) (ci := 3) (v := .ref mz) (C := RX2) (T := TX2) (N := 13) hx hb hts (by decide +kernel) hown hK hP 0 rfl rfl 3 (by decide) (hts (.fieldLink RX2 13 "ThreeFilesModel" "sizes" "[I") (by decide +kernel)) (fun _ h9 => h9) rfl dX2_byteAt_58 ?_
                  refine lv_iload_n hx hb dX2_byteAt_61 rfl (lv_at hl 1 rfl) ?_
                  refine va_iald hx hb hK hP 1 0 rfl rfl (i := 1) (by unfold vp_in; decide) dX2_byteAt_62 ?_
                  refine W.eq (g2 := F0 m 63 ls [.int 0, .int v56_24]) (by rfl) ?_
                  refine lv_icmp_ge (tgt := 86) hx hb dX2_byteAt_63 (by decide) (fun c63_25 => ?_) (fun c63_25 => ?_)
                  ·
                    refine lv_iconst (v := 0) hx hb dX2_byteAt_86 (by decide) ?_
                    have hP9 := hP.sub (ws' := [(y, .inr (3, [.int 0, .int pv, .ref mb, .ref mz, .ref ob, .ref oz, .int 0, .int 0, .int 0, .ref fd, .ref md, .int 0, .int 0])), (mz, .inl (kz, 3, .inl (fun _ => 0)))]) [0, 1] rfl
                    have hD9 := hD.sub (ws' := [(y, .inr (3, [.int 0, .int pv, .ref mb, .ref mz, .ref ob, .ref oz, .int 0, .int 0, .int 0, .ref fd, .ref md, .int 0, .int 0])), (mz, .inl (kz, 3, .inl (fun _ => 0)))]) [0, 1] (by decide) rfl
                    have hK9 := hK.sub (tys' := [(kz, .int)]) [0] rfl
                    refine W.widen (k := 0) (n := 0) (by omega) (by omega) ?_
                    exact W.iret (v := 0) hx hb hr (fun t ht hW => ⟨⟨0, 0, rfl, ⟨rfl, Or.inl ⟨rfl, (by decide), q_nlt hf_18.1, q_m1 hpv hf_18.2 ev17_17, q_nlt hf_20.1, q_24 hf_20.2⟩⟩, by rw [ht]; exact hP9, va_K.moved hW.alike hK9, hD9⟩, hS.F ht⟩) hS.2.2 dX2_byteAt_87
                  · exact absurd (by rw [ev56_24, ev54_23]; exact q_place hpv hf_18.1 (q_m1 hpv hf_18.2 ev17_17) hf_20.1 hf_20.2) c63_25
                · exact absurd (by decide) c46_22
              · exact absurd c31_21 (by decide)
            ·
              refine lv_if_ne (tgt := 38) hx hb dX2_byteAt_31 (by decide) (fun c31_26 => ?_) (fun c31_26 => ?_)
              · exact absurd (by decide) c31_26
              ·
                refine lv_iconst (v := 1) hx hb dX2_byteAt_34 (by decide) ?_
                refine lv_goto (tgt := 39) hx hb dX2_byteAt_35 (by decide) ?_
                refine va_put (D := (dC, dI)) (ci := 3) (v := .int 1) (ty := .int) (C := RX2) (T := TX2) (N := 13) hx hb hts (by decide +kernel) tyX2 tyX2_ok nmX2 hown hK hP hD hS 0 rfl rfl 0 (by decide) (hts (.fieldLink RX2 32 "ThreeFilesModel" "thrown" "I") (by decide +kernel)) (fun _ h9 => h9) rfl (by decide +kernel) rfl rfl (Nat.le_of_ble_eq_true rfl) dX2_byteAt_39 (fun H locs hP hD hS => ?_)
                have hP : va_P (dC, dI) vwCl [(y, .inr (3, [.int 1, .int pv, .ref mb, .ref mz, .ref ob, .ref oz, .int 0, .int 0, .int 0, .ref fd, .ref md, .int 0, .int 0])), (mz, .inl (kz, 3, .inl (fun _ => 0)))] H := hP
                have hD : va_D A [(y, .inr (3, [.int 1, .int pv, .ref mb, .ref mz, .ref ob, .ref oz, .int 0, .int 0, .int 0, .ref fd, .ref md, .int 0, .int 0])), (mz, .inl (kz, 3, .inl (fun _ => 0)))] := hD
                refine lv_aload_n hx hb dX2_byteAt_42 rfl (lv_at hl 0 rfl) ?_
                refine va_get (D := (dC, dI)) (ci := 3) (v := .int 1) (C := RX2) (T := TX2) (N := 13) hx hb hts (by decide +kernel) hown hK hP 0 rfl rfl 0 (by decide) (hts (.fieldLink RX2 32 "ThreeFilesModel" "thrown" "I") (by decide +kernel)) (fun _ h9 => h9) rfl dX2_byteAt_43 ?_
                refine lv_if_le (tgt := 51) hx hb dX2_byteAt_46 (by decide) (fun c46_27 => ?_) (fun c46_27 => ?_)
                · exact absurd c46_27 (by decide)
                ·
                  refine lv_iconst (v := 0) hx hb dX2_byteAt_49 (by decide) ?_
                  have hP9 := hP.sub (ws' := [(y, .inr (3, [.int 1, .int pv, .ref mb, .ref mz, .ref ob, .ref oz, .int 0, .int 0, .int 0, .ref fd, .ref md, .int 0, .int 0])), (mz, .inl (kz, 3, .inl (fun _ => 0)))]) [0, 1] rfl
                  have hD9 := hD.sub (ws' := [(y, .inr (3, [.int 1, .int pv, .ref mb, .ref mz, .ref ob, .ref oz, .int 0, .int 0, .int 0, .ref fd, .ref md, .int 0, .int 0])), (mz, .inl (kz, 3, .inl (fun _ => 0)))]) [0, 1] (by decide) rfl
                  have hK9 := hK.sub (tys' := [(kz, .int)]) [0] rfl
                  refine W.widen (k := 0) (n := 0) (by omega) (by omega) ?_
                  exact W.iret (v := 0) hx hb hr (fun t ht hW => ⟨⟨0, 1, rfl, ⟨rfl, Or.inr ⟨rfl, fun q => q_m3 hf_20 q.2.2.2.1 q.2.2.2.2⟩⟩, by rw [ht]; exact hP9, va_K.moved hW.alike hK9, hD9⟩, hS.F ht⟩) hS.2.2 dX2_byteAt_50
        ·
          refine lv_if_eq (tgt := 34) hx hb dX2_byteAt_21 (by decide) (fun c21_28 => ?_) (fun c21_28 => ?_)
          ·
            refine lv_iconst (v := 1) hx hb dX2_byteAt_34 (by decide) ?_
            refine lv_goto (tgt := 39) hx hb dX2_byteAt_35 (by decide) ?_
            refine va_put (D := (dC, dI)) (ci := 3) (v := .int 1) (ty := .int) (C := RX2) (T := TX2) (N := 13) hx hb hts (by decide +kernel) tyX2 tyX2_ok nmX2 hown hK hP hD hS 0 rfl rfl 0 (by decide) (hts (.fieldLink RX2 32 "ThreeFilesModel" "thrown" "I") (by decide +kernel)) (fun _ h9 => h9) rfl (by decide +kernel) rfl rfl (Nat.le_of_ble_eq_true rfl) dX2_byteAt_39 (fun H locs hP hD hS => ?_)
            have hP : va_P (dC, dI) vwCl [(y, .inr (3, [.int 1, .int pv, .ref mb, .ref mz, .ref ob, .ref oz, .int 0, .int 0, .int 0, .ref fd, .ref md, .int 0, .int 0])), (mz, .inl (kz, 3, .inl (fun _ => 0)))] H := hP
            have hD : va_D A [(y, .inr (3, [.int 1, .int pv, .ref mb, .ref mz, .ref ob, .ref oz, .int 0, .int 0, .int 0, .ref fd, .ref md, .int 0, .int 0])), (mz, .inl (kz, 3, .inl (fun _ => 0)))] := hD
            refine lv_aload_n hx hb dX2_byteAt_42 rfl (lv_at hl 0 rfl) ?_
            refine va_get (D := (dC, dI)) (ci := 3) (v := .int 1) (C := RX2) (T := TX2) (N := 13) hx hb hts (by decide +kernel) hown hK hP 0 rfl rfl 0 (by decide) (hts (.fieldLink RX2 32 "ThreeFilesModel" "thrown" "I") (by decide +kernel)) (fun _ h9 => h9) rfl dX2_byteAt_43 ?_
            refine lv_if_le (tgt := 51) hx hb dX2_byteAt_46 (by decide) (fun c46_29 => ?_) (fun c46_29 => ?_)
            · exact absurd c46_29 (by decide)
            ·
              refine lv_iconst (v := 0) hx hb dX2_byteAt_49 (by decide) ?_
              have hP9 := hP.sub (ws' := [(y, .inr (3, [.int 1, .int pv, .ref mb, .ref mz, .ref ob, .ref oz, .int 0, .int 0, .int 0, .ref fd, .ref md, .int 0, .int 0])), (mz, .inl (kz, 3, .inl (fun _ => 0)))]) [0, 1] rfl
              have hD9 := hD.sub (ws' := [(y, .inr (3, [.int 1, .int pv, .ref mb, .ref mz, .ref ob, .ref oz, .int 0, .int 0, .int 0, .ref fd, .ref md, .int 0, .int 0])), (mz, .inl (kz, 3, .inl (fun _ => 0)))]) [0, 1] (by decide) rfl
              have hK9 := hK.sub (tys' := [(kz, .int)]) [0] rfl
              refine W.widen (k := 0) (n := 0) (by omega) (by omega) ?_
              exact W.iret (v := 0) hx hb hr (fun t ht hW => ⟨⟨0, 1, rfl, ⟨rfl, Or.inr ⟨rfl, fun q => q_m2 hpv hf_18 ev17_17 q.2.1 q.2.2.1⟩⟩, by rw [ht]; exact hP9, va_K.moved hW.alike hK9, hD9⟩, hS.F ht⟩) hS.2.2 dX2_byteAt_50
          · exact absurd (by decide) c21_28
    ·
      refine lv_if_eq (tgt := 34) hx hb dX2_byteAt_7 (by decide) (fun c7_30 => ?_) (fun c7_30 => ?_)
      · exact absurd c7_30 (by decide)
      ·
        refine lv_iload_n hx hb dX2_byteAt_10 rfl (lv_at hl 2 rfl) ?_
        refine lv_iconst (v := 0) hx hb dX2_byteAt_11 (by decide) ?_
        refine lv_aload_n hx hb dX2_byteAt_12 rfl (lv_at hl 0 rfl) ?_
        refine va_get (D := (dC, dI)) (ci := 3) (v := .int pv) (C := RX2) (T := TX2) (N := 13) hx hb hts (by decide +kernel) hown hK hP 0 rfl rfl 1 (by decide) (hts (.fieldLink RX2 28 "ThreeFilesModel" "pieces" "I") (by decide +kernel)) (fun _ h9 => h9) rfl dX2_byteAt_13 ?_
        refine lv_iconst (v := 1) hx hb dX2_byteAt_16 (by decide) ?_
        refine lv_isub hx hb dX2_byteAt_17 ?_
        refine lv_topi (fun v17_31 ev17_31 => ?_)
        have hPc := hP.sub (ws' := []) [] rfl
        have hKc := hK.sub (tys' := []) [] rfl
        refine vp_callSi ((va_runS (As := [.int p1, .int 0, .int v17_31]) (rest := [.ref y]) ⟨hx, hb, hml, hown, hts⟩ (m_in l dC dI p1 0 v17_31) (va_cwS 3 hts gX2_byteAt_X2_in rfl rfl rfl (by decide +kernel) ⟨Nat.le_of_ble_eq_true rfl, Nat.le_of_ble_eq_true rfl⟩) ⟨fun a U g mk q => by obtain ⟨q0, qP, qK⟩ := q; exact ⟨q0, qP, va_K.moved (u := U) (U := U.calling g mk a) (Vm.Alike.refl U.vm) qK⟩, fun U hU hW => ⟨rfl, by rw [hU]; exact hPc, va_K.moved hW.alike hKc⟩⟩ rfl rfl hl.1 rfl (lv_room (Nat.le_of_ble_eq_true rfl)) dX2_byteAt_18 ⟨Nat.le_of_ble_eq_true rfl, Nat.le_of_ble_eq_true rfl⟩)).run (fun r_32 hq_32 => ?_)
        rcases hq_32 with ⟨rfl, hf_32⟩ | ⟨rfl, hf_32⟩
        ·
          refine lv_if_eq (tgt := 34) hx hb dX2_byteAt_21 (by decide) (fun c21_33 => ?_) (fun c21_33 => ?_)
          · exact absurd c21_33 (by decide)
          ·
            refine lv_iload_n hx hb dX2_byteAt_24 rfl (lv_at hl 3 rfl) ?_
            refine lv_iconst (v := 0) hx hb dX2_byteAt_25 (by decide) ?_
            refine lv_bipush (v := 23) hx hb dX2_byteAt_26 (by decide) ?_
            have hPc := hP.sub (ws' := []) [] rfl
            have hKc := hK.sub (tys' := []) [] rfl
            refine vp_callSi ((va_runS (As := [.int p2, .int 0, .int 23]) (rest := [.ref y]) ⟨hx, hb, hml, hown, hts⟩ (m_in l dC dI p2 0 23) (va_cwS 3 hts gX2_byteAt_X2_in rfl rfl rfl (by decide +kernel) ⟨Nat.le_of_ble_eq_true rfl, Nat.le_of_ble_eq_true rfl⟩) ⟨fun a U g mk q => by obtain ⟨q0, qP, qK⟩ := q; exact ⟨q0, qP, va_K.moved (u := U) (U := U.calling g mk a) (Vm.Alike.refl U.vm) qK⟩, fun U hU hW => ⟨rfl, by rw [hU]; exact hPc, va_K.moved hW.alike hKc⟩⟩ rfl rfl hl.1 rfl (lv_room (Nat.le_of_ble_eq_true rfl)) dX2_byteAt_28 ⟨Nat.le_of_ble_eq_true rfl, Nat.le_of_ble_eq_true rfl⟩)).run (fun r_34 hq_34 => ?_)
            rcases hq_34 with ⟨rfl, hf_34⟩ | ⟨rfl, hf_34⟩
            ·
              refine lv_if_ne (tgt := 38) hx hb dX2_byteAt_31 (by decide) (fun c31_35 => ?_) (fun c31_35 => ?_)
              ·
                refine lv_iconst (v := 0) hx hb dX2_byteAt_38 (by decide) ?_
                refine va_put (D := (dC, dI)) (ci := 3) (v := .int 0) (ty := .int) (C := RX2) (T := TX2) (N := 13) hx hb hts (by decide +kernel) tyX2 tyX2_ok nmX2 hown hK hP hD hS 0 rfl rfl 0 (by decide) (hts (.fieldLink RX2 32 "ThreeFilesModel" "thrown" "I") (by decide +kernel)) (fun _ h9 => h9) rfl (by decide +kernel) rfl rfl (Nat.le_of_ble_eq_true rfl) dX2_byteAt_39 (fun H locs hP hD hS => ?_)
                have hP : va_P (dC, dI) vwCl [(y, .inr (3, [.int 0, .int pv, .ref mb, .ref mz, .ref ob, .ref oz, .int 0, .int 0, .int 0, .ref fd, .ref md, .int 0, .int 0])), (mz, .inl (kz, 3, .inl (fun _ => 0)))] H := hP
                have hD : va_D A [(y, .inr (3, [.int 0, .int pv, .ref mb, .ref mz, .ref ob, .ref oz, .int 0, .int 0, .int 0, .ref fd, .ref md, .int 0, .int 0])), (mz, .inl (kz, 3, .inl (fun _ => 0)))] := hD
                refine lv_aload_n hx hb dX2_byteAt_42 rfl (lv_at hl 0 rfl) ?_
                refine va_get (D := (dC, dI)) (ci := 3) (v := .int 0) (C := RX2) (T := TX2) (N := 13) hx hb hts (by decide +kernel) hown hK hP 0 rfl rfl 0 (by decide) (hts (.fieldLink RX2 32 "ThreeFilesModel" "thrown" "I") (by decide +kernel)) (fun _ h9 => h9) rfl dX2_byteAt_43 ?_
                refine lv_if_le (tgt := 51) hx hb dX2_byteAt_46 (by decide) (fun c46_36 => ?_) (fun c46_36 => ?_)
                ·
                  refine lv_bipush (v := 24) hx hb dX2_byteAt_51 (by decide) ?_
                  refine lv_iload_n hx hb dX2_byteAt_53 rfl (lv_at hl 2 rfl) ?_
                  refine lv_imul hx hb dX2_byteAt_54 ?_
                  refine lv_topi (fun v54_37 ev54_37 => ?_)
                  refine lv_iload_n hx hb dX2_byteAt_55 rfl (lv_at hl 3 rfl) ?_
                  refine lv_iadd hx hb dX2_byteAt_56 ?_
                  refine lv_topi (fun v56_38 ev56_38 => ?_)
                  refine lv_aload_n hx hb dX2_byteAt_57 rfl (lv_at hl 0 rfl) ?_
                  refine va_get (D := (dC, dI)) (ci := 3) (v := .ref mz) (C := RX2) (T := TX2) (N := 13) hx hb hts (by decide +kernel) hown hK hP 0 rfl rfl 3 (by decide) (hts (.fieldLink RX2 13 "ThreeFilesModel" "sizes" "[I") (by decide +kernel)) (fun _ h9 => h9) rfl dX2_byteAt_58 ?_
                  refine lv_iload_n hx hb dX2_byteAt_61 rfl (lv_at hl 1 rfl) ?_
                  refine va_iald hx hb hK hP 1 0 rfl rfl (i := 2) (by unfold vp_in; decide) dX2_byteAt_62 ?_
                  refine W.eq (g2 := F0 m 63 ls [.int 0, .int v56_38]) (by rfl) ?_
                  refine lv_icmp_ge (tgt := 86) hx hb dX2_byteAt_63 (by decide) (fun c63_39 => ?_) (fun c63_39 => ?_)
                  ·
                    refine lv_iconst (v := 0) hx hb dX2_byteAt_86 (by decide) ?_
                    have hP9 := hP.sub (ws' := [(y, .inr (3, [.int 0, .int pv, .ref mb, .ref mz, .ref ob, .ref oz, .int 0, .int 0, .int 0, .ref fd, .ref md, .int 0, .int 0])), (mz, .inl (kz, 3, .inl (fun _ => 0)))]) [0, 1] rfl
                    have hD9 := hD.sub (ws' := [(y, .inr (3, [.int 0, .int pv, .ref mb, .ref mz, .ref ob, .ref oz, .int 0, .int 0, .int 0, .ref fd, .ref md, .int 0, .int 0])), (mz, .inl (kz, 3, .inl (fun _ => 0)))]) [0, 1] (by decide) rfl
                    have hK9 := hK.sub (tys' := [(kz, .int)]) [0] rfl
                    refine W.widen (k := 0) (n := 0) (by omega) (by omega) ?_
                    exact W.iret (v := 0) hx hb hr (fun t ht hW => ⟨⟨0, 0, rfl, ⟨rfl, Or.inl ⟨rfl, (by decide), q_nlt hf_32.1, q_m1 hpv hf_32.2 ev17_31, q_nlt hf_34.1, q_24 hf_34.2⟩⟩, by rw [ht]; exact hP9, va_K.moved hW.alike hK9, hD9⟩, hS.F ht⟩) hS.2.2 dX2_byteAt_87
                  · exact absurd (by rw [ev56_38, ev54_37]; exact q_place hpv hf_32.1 (q_m1 hpv hf_32.2 ev17_31) hf_34.1 hf_34.2) c63_39
                · exact absurd (by decide) c46_36
              · exact absurd c31_35 (by decide)
            ·
              refine lv_if_ne (tgt := 38) hx hb dX2_byteAt_31 (by decide) (fun c31_40 => ?_) (fun c31_40 => ?_)
              · exact absurd (by decide) c31_40
              ·
                refine lv_iconst (v := 1) hx hb dX2_byteAt_34 (by decide) ?_
                refine lv_goto (tgt := 39) hx hb dX2_byteAt_35 (by decide) ?_
                refine va_put (D := (dC, dI)) (ci := 3) (v := .int 1) (ty := .int) (C := RX2) (T := TX2) (N := 13) hx hb hts (by decide +kernel) tyX2 tyX2_ok nmX2 hown hK hP hD hS 0 rfl rfl 0 (by decide) (hts (.fieldLink RX2 32 "ThreeFilesModel" "thrown" "I") (by decide +kernel)) (fun _ h9 => h9) rfl (by decide +kernel) rfl rfl (Nat.le_of_ble_eq_true rfl) dX2_byteAt_39 (fun H locs hP hD hS => ?_)
                have hP : va_P (dC, dI) vwCl [(y, .inr (3, [.int 1, .int pv, .ref mb, .ref mz, .ref ob, .ref oz, .int 0, .int 0, .int 0, .ref fd, .ref md, .int 0, .int 0])), (mz, .inl (kz, 3, .inl (fun _ => 0)))] H := hP
                have hD : va_D A [(y, .inr (3, [.int 1, .int pv, .ref mb, .ref mz, .ref ob, .ref oz, .int 0, .int 0, .int 0, .ref fd, .ref md, .int 0, .int 0])), (mz, .inl (kz, 3, .inl (fun _ => 0)))] := hD
                refine lv_aload_n hx hb dX2_byteAt_42 rfl (lv_at hl 0 rfl) ?_
                refine va_get (D := (dC, dI)) (ci := 3) (v := .int 1) (C := RX2) (T := TX2) (N := 13) hx hb hts (by decide +kernel) hown hK hP 0 rfl rfl 0 (by decide) (hts (.fieldLink RX2 32 "ThreeFilesModel" "thrown" "I") (by decide +kernel)) (fun _ h9 => h9) rfl dX2_byteAt_43 ?_
                refine lv_if_le (tgt := 51) hx hb dX2_byteAt_46 (by decide) (fun c46_41 => ?_) (fun c46_41 => ?_)
                · exact absurd c46_41 (by decide)
                ·
                  refine lv_iconst (v := 0) hx hb dX2_byteAt_49 (by decide) ?_
                  have hP9 := hP.sub (ws' := [(y, .inr (3, [.int 1, .int pv, .ref mb, .ref mz, .ref ob, .ref oz, .int 0, .int 0, .int 0, .ref fd, .ref md, .int 0, .int 0])), (mz, .inl (kz, 3, .inl (fun _ => 0)))]) [0, 1] rfl
                  have hD9 := hD.sub (ws' := [(y, .inr (3, [.int 1, .int pv, .ref mb, .ref mz, .ref ob, .ref oz, .int 0, .int 0, .int 0, .ref fd, .ref md, .int 0, .int 0])), (mz, .inl (kz, 3, .inl (fun _ => 0)))]) [0, 1] (by decide) rfl
                  have hK9 := hK.sub (tys' := [(kz, .int)]) [0] rfl
                  refine W.widen (k := 0) (n := 0) (by omega) (by omega) ?_
                  exact W.iret (v := 0) hx hb hr (fun t ht hW => ⟨⟨0, 1, rfl, ⟨rfl, Or.inr ⟨rfl, fun q => q_m3 hf_34 q.2.2.2.1 q.2.2.2.2⟩⟩, by rw [ht]; exact hP9, va_K.moved hW.alike hK9, hD9⟩, hS.F ht⟩) hS.2.2 dX2_byteAt_50
        ·
          refine lv_if_eq (tgt := 34) hx hb dX2_byteAt_21 (by decide) (fun c21_42 => ?_) (fun c21_42 => ?_)
          ·
            refine lv_iconst (v := 1) hx hb dX2_byteAt_34 (by decide) ?_
            refine lv_goto (tgt := 39) hx hb dX2_byteAt_35 (by decide) ?_
            refine va_put (D := (dC, dI)) (ci := 3) (v := .int 1) (ty := .int) (C := RX2) (T := TX2) (N := 13) hx hb hts (by decide +kernel) tyX2 tyX2_ok nmX2 hown hK hP hD hS 0 rfl rfl 0 (by decide) (hts (.fieldLink RX2 32 "ThreeFilesModel" "thrown" "I") (by decide +kernel)) (fun _ h9 => h9) rfl (by decide +kernel) rfl rfl (Nat.le_of_ble_eq_true rfl) dX2_byteAt_39 (fun H locs hP hD hS => ?_)
            have hP : va_P (dC, dI) vwCl [(y, .inr (3, [.int 1, .int pv, .ref mb, .ref mz, .ref ob, .ref oz, .int 0, .int 0, .int 0, .ref fd, .ref md, .int 0, .int 0])), (mz, .inl (kz, 3, .inl (fun _ => 0)))] H := hP
            have hD : va_D A [(y, .inr (3, [.int 1, .int pv, .ref mb, .ref mz, .ref ob, .ref oz, .int 0, .int 0, .int 0, .ref fd, .ref md, .int 0, .int 0])), (mz, .inl (kz, 3, .inl (fun _ => 0)))] := hD
            refine lv_aload_n hx hb dX2_byteAt_42 rfl (lv_at hl 0 rfl) ?_
            refine va_get (D := (dC, dI)) (ci := 3) (v := .int 1) (C := RX2) (T := TX2) (N := 13) hx hb hts (by decide +kernel) hown hK hP 0 rfl rfl 0 (by decide) (hts (.fieldLink RX2 32 "ThreeFilesModel" "thrown" "I") (by decide +kernel)) (fun _ h9 => h9) rfl dX2_byteAt_43 ?_
            refine lv_if_le (tgt := 51) hx hb dX2_byteAt_46 (by decide) (fun c46_43 => ?_) (fun c46_43 => ?_)
            · exact absurd c46_43 (by decide)
            ·
              refine lv_iconst (v := 0) hx hb dX2_byteAt_49 (by decide) ?_
              have hP9 := hP.sub (ws' := [(y, .inr (3, [.int 1, .int pv, .ref mb, .ref mz, .ref ob, .ref oz, .int 0, .int 0, .int 0, .ref fd, .ref md, .int 0, .int 0])), (mz, .inl (kz, 3, .inl (fun _ => 0)))]) [0, 1] rfl
              have hD9 := hD.sub (ws' := [(y, .inr (3, [.int 1, .int pv, .ref mb, .ref mz, .ref ob, .ref oz, .int 0, .int 0, .int 0, .ref fd, .ref md, .int 0, .int 0])), (mz, .inl (kz, 3, .inl (fun _ => 0)))]) [0, 1] (by decide) rfl
              have hK9 := hK.sub (tys' := [(kz, .int)]) [0] rfl
              refine W.widen (k := 0) (n := 0) (by omega) (by omega) ?_
              exact W.iret (v := 0) hx hb hr (fun t ht hW => ⟨⟨0, 1, rfl, ⟨rfl, Or.inr ⟨rfl, fun q => q_m2 hpv hf_32 ev17_31 q.2.1 q.2.2.1⟩⟩, by rw [ht]; exact hP9, va_K.moved hW.alike hK9, hD9⟩, hS.F ht⟩) hS.2.2 dX2_byteAt_50
          · exact absurd (by decide) c21_42
  ·
    refine lv_if_eq (tgt := 34) hx hb dX2_byteAt_7 (by decide) (fun c7_44 => ?_) (fun c7_44 => ?_)
    ·
      refine lv_iconst (v := 1) hx hb dX2_byteAt_34 (by decide) ?_
      refine lv_goto (tgt := 39) hx hb dX2_byteAt_35 (by decide) ?_
      refine va_put (D := (dC, dI)) (ci := 3) (v := .int 1) (ty := .int) (C := RX2) (T := TX2) (N := 13) hx hb hts (by decide +kernel) tyX2 tyX2_ok nmX2 hown hK hP hD hS 0 rfl rfl 0 (by decide) (hts (.fieldLink RX2 32 "ThreeFilesModel" "thrown" "I") (by decide +kernel)) (fun _ h9 => h9) rfl (by decide +kernel) rfl rfl (Nat.le_of_ble_eq_true rfl) dX2_byteAt_39 (fun H locs hP hD hS => ?_)
      have hP : va_P (dC, dI) vwCl [(y, .inr (3, [.int 1, .int pv, .ref mb, .ref mz, .ref ob, .ref oz, .int 0, .int 0, .int 0, .ref fd, .ref md, .int 0, .int 0])), (mz, .inl (kz, 3, .inl (fun _ => 0)))] H := hP
      have hD : va_D A [(y, .inr (3, [.int 1, .int pv, .ref mb, .ref mz, .ref ob, .ref oz, .int 0, .int 0, .int 0, .ref fd, .ref md, .int 0, .int 0])), (mz, .inl (kz, 3, .inl (fun _ => 0)))] := hD
      refine lv_aload_n hx hb dX2_byteAt_42 rfl (lv_at hl 0 rfl) ?_
      refine va_get (D := (dC, dI)) (ci := 3) (v := .int 1) (C := RX2) (T := TX2) (N := 13) hx hb hts (by decide +kernel) hown hK hP 0 rfl rfl 0 (by decide) (hts (.fieldLink RX2 32 "ThreeFilesModel" "thrown" "I") (by decide +kernel)) (fun _ h9 => h9) rfl dX2_byteAt_43 ?_
      refine lv_if_le (tgt := 51) hx hb dX2_byteAt_46 (by decide) (fun c46_45 => ?_) (fun c46_45 => ?_)
      · exact absurd c46_45 (by decide)
      ·
        refine lv_iconst (v := 0) hx hb dX2_byteAt_49 (by decide) ?_
        have hP9 := hP.sub (ws' := [(y, .inr (3, [.int 1, .int pv, .ref mb, .ref mz, .ref ob, .ref oz, .int 0, .int 0, .int 0, .ref fd, .ref md, .int 0, .int 0])), (mz, .inl (kz, 3, .inl (fun _ => 0)))]) [0, 1] rfl
        have hD9 := hD.sub (ws' := [(y, .inr (3, [.int 1, .int pv, .ref mb, .ref mz, .ref ob, .ref oz, .int 0, .int 0, .int 0, .ref fd, .ref md, .int 0, .int 0])), (mz, .inl (kz, 3, .inl (fun _ => 0)))]) [0, 1] (by decide) rfl
        have hK9 := hK.sub (tys' := [(kz, .int)]) [0] rfl
        refine W.widen (k := 0) (n := 0) (by omega) (by omega) ?_
        exact W.iret (v := 0) hx hb hr (fun t ht hW => ⟨⟨0, 1, rfl, ⟨rfl, Or.inr ⟨rfl, fun q => q_isfile q.1 (q_out2 hf_1)⟩⟩, by rw [ht]; exact hP9, va_K.moved hW.alike hK9, hD9⟩, hS.F ht⟩) hS.2.2 dX2_byteAt_50
    · exact absurd (by decide) c7_44
