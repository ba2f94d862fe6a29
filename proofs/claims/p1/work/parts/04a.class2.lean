set_option maxHeartbeats 4000000 in
set_option maxRecDepth 100000 in
theorem c_X0_init (l : Launch) (dC : Nat → ClassId) (dI : Nat → Nat → Nat) (sz : Nat) (f : Nat) (nu : Int32) (N : Nat) (hN : N ≤ 1536) : Met l yX0_init wsX0_init ({ frames := 1, cells := 2, slots := 3072, locals := 12 }) (va_Pc [.ref f, .int nu, .int (nI N)] (fun U => U.heap.size = sz ∧ va_P (dC, dI) vwCl [(f, .inr (1, [.int 0, .null, .null, .int 0, .int 0]))] U.heap ∧ va_K (dC, dI) vwCl [] U ∧ va_D (fun _ => True) [(f, .inr (1, [.int 0, .null, .null, .int 0, .int 0]))])) (va_Qv (fun _ : Unit => True) (fun _ t => ∃ (b r : Nat) (cB cC : ClassId), va_P (dC, dI) vwCl [(f, .inr (1, [.int nu, .ref b, .ref r, .int 0, .int 0])), (b, .inl (cB, N, .inl (fun _ => 0))), (r, .inl (cC, N, .inl (fun _ => 0)))] t.heap ∧ va_K (dC, dI) vwCl [(cB, .int), (cC, .int)] t ∧ va_D (va_A [(f, .inr (1, [.int 0, .null, .null, .int 0, .int 0]))] sz) [(f, .inr (1, [.int nu, .ref b, .ref r, .int 0, .int 0])), (b, .inl (cB, N, .inl (fun _ => 0))), (r, .inl (cC, N, .inl (fun _ => 0)))]) (va_A [(f, .inr (1, [.int 0, .null, .null, .int 0, .int 0]))] sz)) 2 3072 (va_A [(f, .inr (1, [.int 0, .null, .null, .int 0, .int 0]))] sz) := by
  refine Met.ofW (cc := cX0_init) (maxL := 3) (ret := none) (by decide) rfl ?_
  intro p e s m args below meth c s₁ B hml hv
  obtain ⟨rfl, hsz, hP, hK, hD0⟩ := hv
  have hx := B.exec
  have hb := B.bytes
  have hr := B.returns
  have hts := atoms_spec (ws := wsX0_init) B.pre
  have hown : s.vm.findClass RX0 = some m.cls := findClass_of_methodNamed B.named
  have hlocks := B.notSynchronized
  have hin : meth.name = "<init>" := (name_of_methodNamed B.named B.method).1
  subst hsz
  have hD := hD0.self (sz := s.heap.size)
  generalize hAe : va_A [(f, .inr (1, [.int 0, .null, .null, .int 0, .int 0]))] s.heap.size = A at hD ⊢
  have hA : ∀ q : Nat, s.heap.size ≤ q → A q := fun q h => by rw [← hAe]; exact Or.inr h
  have hS : va_S A s.heap s.heap [] := va_S.rf
  have hP : va_P (dC, dI) vwCl [(f, .inr (1, [.int 0, .null, .null, .int 0, .int 0]))] s.heap := hP
  have hl := lv_entry ([.ref f, .int nu, .int (nI N)]) (n := 3) (Nat.le_of_ble_eq_true rfl)
  rw [lg_entry_eq]
  generalize (lg_sl ([.ref f, .int nu, .int (nI N)]) ++ List.replicate (3 - (lg_sl ([.ref f, .int nu, .int (nI N)])).length) Slot.unset).toArray = ls at hl ⊢
  have hl : lv_has ls 3 [(0, .ref f), (1, .int nu), (2, .int (nI N))] := hl
  have hH0 : s.heap.size ≤ s.heap.size := Nat.le_refl _
  refine lv_aload_n hx hb dX0_init_0 rfl (lv_at hl 0 rfl) ?_
  refine W.objInit hx hb hown (hts (.methodLink RX0 3 objectInit) (by decide +kernel)) (hts (.instanceMethod objectInit) (by decide +kernel)) (hts (.code objectInit ⟨#[0xb1]⟩ 1 none) (by decide +kernel)) rfl (by rw [hml]; exact hl.1) rfl dX0_init_1 (Nat.le_of_ble_eq_true rfl) (Nat.le_of_ble_eq_true rfl) ?_
  refine W.eq (g2 := F0 m 4 ls []) rfl ?_
  refine lv_aload_n hx hb dX0_init_4 rfl (lv_at hl 0 rfl) ?_
  refine lv_iload_n hx hb dX0_init_5 rfl (lv_at hl 1 rfl) ?_
  refine va_putF (D := (dC, dI)) (ci := 1) (v := .int nu) (ty := .int) (C := RX0) (T := TX0) (N := 5) hx hb hts (by decide +kernel) tyX0 tyX0_ok nmX0 hown hK hP hD hS 0 rfl rfl 0 (by decide) (hts (.fieldLink RX0 9 "ThreeFiles$StoredFile" "number" "I") (by decide +kernel)) (fun _ h9 => h9) rfl hin rfl (by decide +kernel) rfl rfl (Nat.le_of_ble_eq_true rfl) dX0_init_6 (fun H locs hP hD hS => ?_)
  have hP : va_P (dC, dI) vwCl [(f, .inr (1, [.int nu, .null, .null, .int 0, .int 0]))] H := hP
  have hD : va_D A [(f, .inr (1, [.int nu, .null, .null, .int 0, .int 0]))] := hD
  refine lv_aload_n hx hb dX0_init_9 rfl (lv_at hl 0 rfl) ?_
  refine lv_iload_n hx hb dX0_init_10 rfl (lv_at hl 2 rfl) ?_
  refine va_newa (atype := .int) (N' := N) (a0 := (N, .inl (fun _ => 0))) (ty := .int) hx hb (hts (.arrayClass .int) (by decide +kernel)) rfl hK hP hD hS hA (fun _ => rfl) (nI_pos (by omega)) (nI_clamp (by omega)) (show N * 4 ≤ 536870912 by omega) (show 1 ≤ 2 by decide) (show 0 + N ≤ 3072 by omega) dX0_init_11 (fun q11_1 kq11_1 H hK hP hD hS => ?_)
  have hK : va_K (dC, dI) vwCl [(kq11_1, .int)] s := hK
  have hP : va_P (dC, dI) vwCl [(f, .inr (1, [.int nu, .null, .null, .int 0, .int 0])), (q11_1, .inl (kq11_1, N, .inl (fun _ => 0)))] H := hP
  have hD : va_D A [(f, .inr (1, [.int nu, .null, .null, .int 0, .int 0])), (q11_1, .inl (kq11_1, N, .inl (fun _ => 0)))] := hD
  refine W.widen (k := 1) (n := 1536) (by omega) (by omega) ?_
  refine va_putF (D := (dC, dI)) (ci := 1) (v := .ref q11_1) (ty := (.array .int)) (C := RX0) (T := TX0) (N := 5) hx hb hts (by decide +kernel) tyX0 tyX0_ok nmX0 hown hK hP hD hS 0 rfl rfl 1 (by decide) (hts (.fieldLink RX0 15 "ThreeFiles$StoredFile" "bytes" "[I") (by decide +kernel)) (fun _ h9 => h9) rfl hin rfl (by decide +kernel) rfl rfl (Nat.le_of_ble_eq_true rfl) dX0_init_13 (fun H locs hP hD hS => ?_)
  have hP : va_P (dC, dI) vwCl [(f, .inr (1, [.int nu, .ref q11_1, .null, .int 0, .int 0])), (q11_1, .inl (kq11_1, N, .inl (fun _ => 0)))] H := hP
  have hD : va_D A [(f, .inr (1, [.int nu, .ref q11_1, .null, .int 0, .int 0])), (q11_1, .inl (kq11_1, N, .inl (fun _ => 0)))] := hD
  refine lv_aload_n hx hb dX0_init_16 rfl (lv_at hl 0 rfl) ?_
  refine lv_iload_n hx hb dX0_init_17 rfl (lv_at hl 2 rfl) ?_
  refine va_newa (atype := .int) (N' := N) (a0 := (N, .inl (fun _ => 0))) (ty := .int) hx hb (hts (.arrayClass .int) (by decide +kernel)) rfl hK hP hD hS hA (fun _ => rfl) (nI_pos (by omega)) (nI_clamp (by omega)) (show N * 4 ≤ 536870912 by omega) (show 2 ≤ 2 by decide) (show 1536 + N ≤ 3072 by omega) dX0_init_18 (fun q18_2 kq18_2 H hK hP hD hS => ?_)
  have hK : va_K (dC, dI) vwCl [(kq11_1, .int), (kq18_2, .int)] s := hK
  have hP : va_P (dC, dI) vwCl [(f, .inr (1, [.int nu, .ref q11_1, .null, .int 0, .int 0])), (q11_1, .inl (kq11_1, N, .inl (fun _ => 0))), (q18_2, .inl (kq18_2, N, .inl (fun _ => 0)))] H := hP
  have hD : va_D A [(f, .inr (1, [.int nu, .ref q11_1, .null, .int 0, .int 0])), (q11_1, .inl (kq11_1, N, .inl (fun _ => 0))), (q18_2, .inl (kq18_2, N, .inl (fun _ => 0)))] := hD
  refine W.widen (k := 2) (n := 3072) (by omega) (by omega) ?_
  refine va_putF (D := (dC, dI)) (ci := 1) (v := .ref q18_2) (ty := (.array .int)) (C := RX0) (T := TX0) (N := 5) hx hb hts (by decide +kernel) tyX0 tyX0_ok nmX0 hown hK hP hD hS 0 rfl rfl 2 (by decide) (hts (.fieldLink RX0 19 "ThreeFiles$StoredFile" "remembered" "[I") (by decide +kernel)) (fun _ h9 => h9) rfl hin rfl (by decide +kernel) rfl rfl (Nat.le_of_ble_eq_true rfl) dX0_init_20 (fun H locs hP hD hS => ?_)
  have hP : va_P (dC, dI) vwCl [(f, .inr (1, [.int nu, .ref q11_1, .ref q18_2, .int 0, .int 0])), (q11_1, .inl (kq11_1, N, .inl (fun _ => 0))), (q18_2, .inl (kq18_2, N, .inl (fun _ => 0)))] H := hP
  have hD : va_D A [(f, .inr (1, [.int nu, .ref q11_1, .ref q18_2, .int 0, .int 0])), (q11_1, .inl (kq11_1, N, .inl (fun _ => 0))), (q18_2, .inl (kq18_2, N, .inl (fun _ => 0)))] := hD
  have hP9 := hP.sub (ws' := [(f, .inr (1, [.int nu, .ref q11_1, .ref q18_2, .int 0, .int 0])), (q11_1, .inl (kq11_1, N, .inl (fun _ => 0))), (q18_2, .inl (kq18_2, N, .inl (fun _ => 0)))]) [0, 1, 2] rfl
  have hD9 := hD.sub (ws' := [(f, .inr (1, [.int nu, .ref q11_1, .ref q18_2, .int 0, .int 0])), (q11_1, .inl (kq11_1, N, .inl (fun _ => 0))), (q18_2, .inl (kq18_2, N, .inl (fun _ => 0)))]) [0, 1, 2] (by decide) rfl
  have hK9 := hK.sub (tys' := [(kq11_1, .int), (kq18_2, .int)]) [0, 1] rfl
  refine W.widen (k := 2) (n := 3072) (by omega) (by omega) ?_
  exact W.vret hx hb hr (fun t ht hW => ⟨⟨(), rfl, trivial, q11_1, q18_2, kq11_1, kq18_2, by rw [ht]; exact hP9, va_K.moved hW.alike hK9, hD9⟩, hS.F ht⟩) hS.2.2 dX0_init_23

