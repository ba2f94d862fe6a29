set_option maxHeartbeats 4000000 in
set_option maxRecDepth 100000 in
theorem m_in (l : Launch) (dC : Nat → ClassId) (dI : Nat → Nat → Nat) (p0 p1 p2 : Int32) : Met l yX2_in wsX2_in ({ frames := 0, cells := 0, slots := 0, locals := 0 }) (va_Pc [.int p0, .int p1, .int p2] (fun U => va_P (dC, dI) vwCl [] U.heap ∧ va_K (dC, dI) vwCl [] U)) (vp_Si (fun r => (r = 1 ∧ p1 ≤ p0 ∧ p0 ≤ p2) ∨ (r = 0 ∧ (p0 < p1 ∨ p2 < p0)))) 0 0 (fun _ => False) := by
  refine Met.ofW (cc := cX2_in) (maxL := 3) (ret := (some .boolean)) (by decide) rfl ?_
  intro p e s m args below meth c s₁ B hml hv
  obtain ⟨rfl, hP, hK⟩ := hv
  have hx := B.exec
  have hb := B.bytes
  have hr := B.returns
  have hts := atoms_spec (ws := wsX2_in) B.pre
  have hown : s.vm.findClass RX2 = some m.cls := findClass_of_methodNamed B.named
  have hlocks := B.notSynchronized
  have hP : va_P (dC, dI) vwCl [] s.heap := hP
  have hl := lv_entry ([.int p0, .int p1, .int p2]) (n := 3) (Nat.le_of_ble_eq_true rfl)
  rw [lg_entry_eq]
  generalize (lg_sl ([.int p0, .int p1, .int p2]) ++ List.replicate (3 - (lg_sl ([.int p0, .int p1, .int p2])).length) Slot.unset).toArray = ls at hl ⊢
  have hl : lv_has ls 3 [(0, .int p0), (1, .int p1), (2, .int p2)] := hl
  refine lv_iload_n hx hb dX2_in_0 rfl (lv_at hl 0 rfl) ?_
  refine lv_iload_n hx hb dX2_in_1 rfl (lv_at hl 1 rfl) ?_
  refine lv_icmp_lt (tgt := 14) hx hb dX2_in_2 (by decide) (fun c2_1 => ?_) (fun c2_1 => ?_)
  ·
    refine lv_iconst (v := 0) hx hb dX2_in_14 (by decide) ?_
    exact W.zret (ty := .boolean) (v := 0) hx hb hr rfl (fun t ht hW => ⟨0, rfl, Or.inr ⟨rfl, Or.inl c2_1⟩, ht⟩) (fun _ h => absurd h List.not_mem_nil) dX2_in_15
  ·
    refine lv_iload_n hx hb dX2_in_5 rfl (lv_at hl 0 rfl) ?_
    refine lv_iload_n hx hb dX2_in_6 rfl (lv_at hl 2 rfl) ?_
    refine lv_icmp_gt (tgt := 14) hx hb dX2_in_7 (by decide) (fun c7_2 => ?_) (fun c7_2 => ?_)
    ·
      refine lv_iconst (v := 0) hx hb dX2_in_14 (by decide) ?_
      exact W.zret (ty := .boolean) (v := 0) hx hb hr rfl (fun t ht hW => ⟨0, rfl, Or.inr ⟨rfl, Or.inr c7_2⟩, ht⟩) (fun _ h => absurd h List.not_mem_nil) dX2_in_15
    ·
      refine lv_iconst (v := 1) hx hb dX2_in_10 (by decide) ?_
      refine lv_goto (tgt := 15) hx hb dX2_in_11 (by decide) ?_
      exact W.zret (ty := .boolean) (v := 1) hx hb hr rfl (fun t ht hW => ⟨1, rfl, Or.inl ⟨rfl, q_ge c2_1, q_ge c7_2⟩, ht⟩) (fun _ h => absurd h List.not_mem_nil) dX2_in_15

set_option maxHeartbeats 4000000 in
set_option maxRecDepth 100000 in
theorem m_stripes (l : Launch) (dC : Nat → ClassId) (dI : Nat → Nat → Nat) (y mb mz ob oz fd md : Nat) (kz : ClassId) (pv th : Int32) : Met l yX2_stripes wsX2_stripes ({ frames := 0, cells := 0, slots := 0, locals := 0 }) (va_Pc [.ref y] (fun U => va_P (dC, dI) vwCl [(y, .inr (3, [.int th, .int pv, .ref mb, .ref mz, .ref ob, .ref oz, .int 0, .int 0, .int 0, .ref fd, .ref md, .int 0, .int 0])), (mz, .inl (kz, 3, .inl (fun _ => 0)))] U.heap ∧ va_K (dC, dI) vwCl [(kz, .int)] U)) (vp_Si (fun r => r = 0)) 0 0 (fun _ => False) := by
  refine Met.ofW (cc := cX2_stripes) (maxL := 3) (ret := (some .int)) (by decide) rfl ?_
  intro p e s m args below meth c s₁ B hml hv
  obtain ⟨rfl, hP, hK⟩ := hv
  have hx := B.exec
  have hb := B.bytes
  have hr := B.returns
  have hts := atoms_spec (ws := wsX2_stripes) B.pre
  have hown : s.vm.findClass RX2 = some m.cls := findClass_of_methodNamed B.named
  have hlocks := B.notSynchronized
  have hP : va_P (dC, dI) vwCl [(y, .inr (3, [.int th, .int pv, .ref mb, .ref mz, .ref ob, .ref oz, .int 0, .int 0, .int 0, .ref fd, .ref md, .int 0, .int 0])), (mz, .inl (kz, 3, .inl (fun _ => 0)))] s.heap := hP
  have hl := lv_entry ([.ref y]) (n := 3) (Nat.le_of_ble_eq_true rfl)
  rw [lg_entry_eq]
  generalize (lg_sl ([.ref y]) ++ List.replicate (3 - (lg_sl ([.ref y])).length) Slot.unset).toArray = ls at hl ⊢
  have hl : lv_has ls 3 [(0, .ref y)] := hl
  refine lv_iconst (v := 0) hx hb dX2_stripes_0 (by decide) ?_
  refine lv_istore_n (lv' := [(1, .int 0), (0, .ref y)]) hx hb dX2_stripes_1 rfl hl (by decide) rfl (fun ls hl => ?_)
  refine lv_iconst (v := 0) hx hb dX2_stripes_2 (by decide) ?_
  refine lv_istore_n (lv' := [(2, .int 0), (1, .int 0), (0, .ref y)]) hx hb dX2_stripes_3 rfl hl (by decide) rfl (fun ls hl => ?_)
  refine lv_iload_n hx hb dX2_stripes_4 rfl (lv_at hl 0 rfl) ?_
  refine lv_iconst (v := 3) hx hb dX2_stripes_5 (by decide) ?_
  refine lv_icmp_ge (tgt := 42) hx hb dX2_stripes_6 (by decide) (fun c6_1 => ?_) (fun c6_1 => ?_)
  · exact absurd c6_1 (by decide)
  ·
    refine lv_aload_n hx hb dX2_stripes_9 rfl (lv_at hl 2 rfl) ?_
    refine va_get (D := (dC, dI)) (ci := 3) (v := .ref mz) (C := RX2) (T := TX2) (N := 13) hx hb hts (by decide +kernel) hown hK hP 0 rfl rfl 3 (by decide) (hts (.fieldLink RX2 13 "ThreeFilesModel" "sizes" "[I") (by decide +kernel)) (fun _ h9 => h9) rfl dX2_stripes_10 ?_
    refine lv_iload_n hx hb dX2_stripes_13 rfl (lv_at hl 0 rfl) ?_
    refine va_iald hx hb hK hP 1 0 rfl rfl (i := 0) (by unfold vp_in; decide) dX2_stripes_14 ?_
    refine W.eq (g2 := F0 m 15 ls [.int 0]) (by rfl) ?_
    refine lv_bipush (v := 24) hx hb dX2_stripes_15 (by decide) ?_
    refine lv_idiv hx hb dX2_stripes_17 (by decide) ?_
    refine W.eq (g2 := F0 m 18 ls [.int 0]) (by rfl) ?_
    refine lv_iload_n hx hb dX2_stripes_18 rfl (lv_at hl 1 rfl) ?_
    refine lv_icmp_le (tgt := 34) hx hb dX2_stripes_19 (by decide) (fun c19_2 => ?_) (fun c19_2 => ?_)
    ·
      refine lv_iload_n hx hb dX2_stripes_34 rfl (lv_at hl 1 rfl) ?_
      refine lv_istore_n (lv' := [(1, .int 0), (2, .int 0), (0, .ref y)]) hx hb dX2_stripes_35 rfl hl (by decide) rfl (fun ls hl => ?_)
      refine lv_iinc (v := 1) (lv' := [(2, .int 1), (1, .int 0), (0, .ref y)]) hx hb dX2_stripes_36 hl (k := 1) rfl (by decide) (by decide) rfl (fun ls hl => ?_)
      refine lv_goto (tgt := 4) hx hb dX2_stripes_39 (by decide) ?_
      refine lv_iload_n hx hb dX2_stripes_4 rfl (lv_at hl 0 rfl) ?_
      refine lv_iconst (v := 3) hx hb dX2_stripes_5 (by decide) ?_
      refine lv_icmp_ge (tgt := 42) hx hb dX2_stripes_6 (by decide) (fun c6_3 => ?_) (fun c6_3 => ?_)
      · exact absurd c6_3 (by decide)
      ·
        refine lv_aload_n hx hb dX2_stripes_9 rfl (lv_at hl 2 rfl) ?_
        refine va_get (D := (dC, dI)) (ci := 3) (v := .ref mz) (C := RX2) (T := TX2) (N := 13) hx hb hts (by decide +kernel) hown hK hP 0 rfl rfl 3 (by decide) (hts (.fieldLink RX2 13 "ThreeFilesModel" "sizes" "[I") (by decide +kernel)) (fun _ h9 => h9) rfl dX2_stripes_10 ?_
        refine lv_iload_n hx hb dX2_stripes_13 rfl (lv_at hl 0 rfl) ?_
        refine va_iald hx hb hK hP 1 0 rfl rfl (i := 1) (by unfold vp_in; decide) dX2_stripes_14 ?_
        refine W.eq (g2 := F0 m 15 ls [.int 0]) (by rfl) ?_
        refine lv_bipush (v := 24) hx hb dX2_stripes_15 (by decide) ?_
        refine lv_idiv hx hb dX2_stripes_17 (by decide) ?_
        refine W.eq (g2 := F0 m 18 ls [.int 0]) (by rfl) ?_
        refine lv_iload_n hx hb dX2_stripes_18 rfl (lv_at hl 1 rfl) ?_
        refine lv_icmp_le (tgt := 34) hx hb dX2_stripes_19 (by decide) (fun c19_4 => ?_) (fun c19_4 => ?_)
        ·
          refine lv_iload_n hx hb dX2_stripes_34 rfl (lv_at hl 1 rfl) ?_
          refine lv_istore_n (lv' := [(1, .int 0), (2, .int 1), (0, .ref y)]) hx hb dX2_stripes_35 rfl hl (by decide) rfl (fun ls hl => ?_)
          refine lv_iinc (v := 2) (lv' := [(2, .int 2), (1, .int 0), (0, .ref y)]) hx hb dX2_stripes_36 hl (k := 1) rfl (by decide) (by decide) rfl (fun ls hl => ?_)
          refine lv_goto (tgt := 4) hx hb dX2_stripes_39 (by decide) ?_
          refine lv_iload_n hx hb dX2_stripes_4 rfl (lv_at hl 0 rfl) ?_
          refine lv_iconst (v := 3) hx hb dX2_stripes_5 (by decide) ?_
          refine lv_icmp_ge (tgt := 42) hx hb dX2_stripes_6 (by decide) (fun c6_5 => ?_) (fun c6_5 => ?_)
          · exact absurd c6_5 (by decide)
          ·
            refine lv_aload_n hx hb dX2_stripes_9 rfl (lv_at hl 2 rfl) ?_
            refine va_get (D := (dC, dI)) (ci := 3) (v := .ref mz) (C := RX2) (T := TX2) (N := 13) hx hb hts (by decide +kernel) hown hK hP 0 rfl rfl 3 (by decide) (hts (.fieldLink RX2 13 "ThreeFilesModel" "sizes" "[I") (by decide +kernel)) (fun _ h9 => h9) rfl dX2_stripes_10 ?_
            refine lv_iload_n hx hb dX2_stripes_13 rfl (lv_at hl 0 rfl) ?_
            refine va_iald hx hb hK hP 1 0 rfl rfl (i := 2) (by unfold vp_in; decide) dX2_stripes_14 ?_
            refine W.eq (g2 := F0 m 15 ls [.int 0]) (by rfl) ?_
            refine lv_bipush (v := 24) hx hb dX2_stripes_15 (by decide) ?_
            refine lv_idiv hx hb dX2_stripes_17 (by decide) ?_
            refine W.eq (g2 := F0 m 18 ls [.int 0]) (by rfl) ?_
            refine lv_iload_n hx hb dX2_stripes_18 rfl (lv_at hl 1 rfl) ?_
            refine lv_icmp_le (tgt := 34) hx hb dX2_stripes_19 (by decide) (fun c19_6 => ?_) (fun c19_6 => ?_)
            ·
              refine lv_iload_n hx hb dX2_stripes_34 rfl (lv_at hl 1 rfl) ?_
              refine lv_istore_n (lv' := [(1, .int 0), (2, .int 2), (0, .ref y)]) hx hb dX2_stripes_35 rfl hl (by decide) rfl (fun ls hl => ?_)
              refine lv_iinc (v := 3) (lv' := [(2, .int 3), (1, .int 0), (0, .ref y)]) hx hb dX2_stripes_36 hl (k := 1) rfl (by decide) (by decide) rfl (fun ls hl => ?_)
              refine lv_goto (tgt := 4) hx hb dX2_stripes_39 (by decide) ?_
              refine lv_iload_n hx hb dX2_stripes_4 rfl (lv_at hl 0 rfl) ?_
              refine lv_iconst (v := 3) hx hb dX2_stripes_5 (by decide) ?_
              refine lv_icmp_ge (tgt := 42) hx hb dX2_stripes_6 (by decide) (fun c6_7 => ?_) (fun c6_7 => ?_)
              ·
                refine lv_iload_n hx hb dX2_stripes_42 rfl (lv_at hl 1 rfl) ?_
                exact W.iret (v := 0) hx hb hr (fun t ht hW => ⟨0, rfl, rfl, ht⟩) (fun _ h => absurd h List.not_mem_nil) dX2_stripes_43
              · exact absurd (by decide) c6_7
            · exact absurd (by decide) c19_6
        · exact absurd (by decide) c19_4
    · exact absurd (by decide) c19_2

set_option maxHeartbeats 4000000 in
set_option maxRecDepth 100000 in
theorem m_feed (l : Launch) (dC : Nat → ClassId) (dI : Nat → Nat → Nat) (sz : Nat) (y mb mz ob oz fd md : Nat) (kz : ClassId) (pv th : Int32) (kf : ClassId) (p0 : Int32) : Met l yX2_feed wsX2_feed ({ frames := 1, cells := 0, slots := 0, locals := 22 }) (va_Pc [.ref y, .int p0] (fun U => U.heap.size = sz ∧ va_P (dC, dI) vwCl [(y, .inr (3, [.int th, .int pv, .ref mb, .ref mz, .ref ob, .ref oz, .int 0, .int 0, .int 0, .ref fd, .ref md, .int 0, .int 0])), (fd, .inl (kf, 16, .inl (fun _ => 0)))] U.heap ∧ va_K (dC, dI) vwCl [(kf, .int)] U ∧ va_D (fun _ => True) [(y, .inr (3, [.int th, .int pv, .ref mb, .ref mz, .ref ob, .ref oz, .int 0, .int 0, .int 0, .ref fd, .ref md, .int 0, .int 0])), (fd, .inl (kf, 16, .inl (fun _ => 0)))])) (va_Qi (fun r (_ : Unit) => r = (if 0 ≤ p0 ∧ p0 ≤ 255 then 1 else 0)) (fun _ _ => True) (va_A [(y, .inr (3, [.int th, .int pv, .ref mb, .ref mz, .ref ob, .ref oz, .int 0, .int 0, .int 0, .ref fd, .ref md, .int 0, .int 0])), (fd, .inl (kf, 16, .inl (fun _ => 0)))] sz)) 0 0 (va_A [(y, .inr (3, [.int th, .int pv, .ref mb, .ref mz, .ref ob, .ref oz, .int 0, .int 0, .int 0, .ref fd, .ref md, .int 0, .int 0])), (fd, .inl (kf, 16, .inl (fun _ => 0)))] sz) := by
  refine Met.ofW (cc := cX2_feed) (maxL := 2) (ret := (some .boolean)) (by decide) rfl ?_
  intro p e s m args below meth c s₁ B hml hv
  obtain ⟨rfl, hsz, hP, hK, hD0⟩ := hv
  have hx := B.exec
  have hb := B.bytes
  have hr := B.returns
  have hts := atoms_spec (ws := wsX2_feed) B.pre
  have hown : s.vm.findClass RX2 = some m.cls := findClass_of_methodNamed B.named
  have hlocks := B.notSynchronized
  subst hsz
  have hD := hD0.self (sz := s.heap.size)
  generalize hAe : va_A [(y, .inr (3, [.int th, .int pv, .ref mb, .ref mz, .ref ob, .ref oz, .int 0, .int 0, .int 0, .ref fd, .ref md, .int 0, .int 0])), (fd, .inl (kf, 16, .inl (fun _ => 0)))] s.heap.size = A at hD ⊢
  have hA : ∀ q : Nat, s.heap.size ≤ q → A q := fun q h => by rw [← hAe]; exact Or.inr h
  have hS : va_S A s.heap s.heap [] := va_S.rf
  have hP : va_P (dC, dI) vwCl [(y, .inr (3, [.int th, .int pv, .ref mb, .ref mz, .ref ob, .ref oz, .int 0, .int 0, .int 0, .ref fd, .ref md, .int 0, .int 0])), (fd, .inl (kf, 16, .inl (fun _ => 0)))] s.heap := hP
  have hl := lv_entry ([.ref y, .int p0]) (n := 2) (Nat.le_of_ble_eq_true rfl)
  rw [lg_entry_eq]
  generalize (lg_sl ([.ref y, .int p0]) ++ List.replicate (2 - (lg_sl ([.ref y, .int p0])).length) Slot.unset).toArray = ls at hl ⊢
  have hl : lv_has ls 2 [(0, .ref y), (1, .int p0)] := hl
  have hH0 : s.heap.size ≤ s.heap.size := Nat.le_refl _
  refine lv_aload_n hx hb dX2_feed_0 rfl (lv_at hl 0 rfl) ?_
  refine lv_iconst (v := 0) hx hb dX2_feed_1 (by decide) ?_
  refine va_put (D := (dC, dI)) (ci := 3) (v := .int 0) (ty := .int) (C := RX2) (T := TX2) (N := 13) hx hb hts (by decide +kernel) tyX2 tyX2_ok nmX2 hown hK hP hD hS 0 rfl rfl 0 (by decide) (hts (.fieldLink RX2 32 "ThreeFilesModel" "thrown" "I") (by decide +kernel)) (fun _ h9 => h9) rfl (by decide +kernel) rfl rfl (Nat.le_of_ble_eq_true rfl) dX2_feed_2 (fun H locs hP hD hS => ?_)
  have hP : va_P (dC, dI) vwCl [(y, .inr (3, [.int 0, .int pv, .ref mb, .ref mz, .ref ob, .ref oz, .int 0, .int 0, .int 0, .ref fd, .ref md, .int 0, .int 0])), (fd, .inl (kf, 16, .inl (fun _ => 0)))] H := hP
  have hD : va_D A [(y, .inr (3, [.int 0, .int pv, .ref mb, .ref mz, .ref ob, .ref oz, .int 0, .int 0, .int 0, .ref fd, .ref md, .int 0, .int 0])), (fd, .inl (kf, 16, .inl (fun _ => 0)))] := hD
  refine lv_iload_n hx hb dX2_feed_5 rfl (lv_at hl 1 rfl) ?_
  refine lv_iconst (v := 0) hx hb dX2_feed_6 (by decide) ?_
  refine lv_sipush (v := 255) hx hb dX2_feed_7 (by decide) ?_
  have hPc := hP.sub (ws' := []) [] rfl
  have hKc := hK.sub (tys' := []) [] rfl
  refine vp_callSi ((va_runS (As := [.int p0, .int 0, .int 255]) (rest := []) ⟨hx, hb, hml, hown, hts⟩ (m_in l dC dI p0 0 255) (va_cwS 3 hts gX2_feed_X2_in rfl rfl rfl (by decide +kernel) ⟨Nat.le_of_ble_eq_true rfl, Nat.le_of_ble_eq_true rfl⟩) ⟨fun a U g mk q => by obtain ⟨q0, qP, qK⟩ := q; exact ⟨q0, qP, va_K.moved (u := U) (U := U.calling g mk a) (Vm.Alike.refl U.vm) qK⟩, fun U hU hW => ⟨rfl, by rw [hU]; exact hPc, va_K.moved hW.alike hKc⟩⟩ rfl rfl hl.1 rfl (lv_room (Nat.le_of_ble_eq_true rfl)) dX2_feed_10 ⟨Nat.le_of_ble_eq_true rfl, Nat.le_of_ble_eq_true rfl⟩)).run (fun r_1 hq_1 => ?_)
  rcases hq_1 with ⟨rfl, hf_1⟩ | ⟨rfl, hf_1⟩
  ·
    refine lv_if_eq (tgt := 25) hx hb dX2_feed_13 (by decide) (fun c13_2 => ?_) (fun c13_2 => ?_)
    · exact absurd c13_2 (by decide)
    ·
      refine lv_aload_n hx hb dX2_feed_16 rfl (lv_at hl 0 rfl) ?_
      refine va_get (D := (dC, dI)) (ci := 3) (v := .int 0) (C := RX2) (T := TX2) (N := 13) hx hb hts (by decide +kernel) hown hK hP 0 rfl rfl 8 (by decide) (hts (.fieldLink RX2 65 "ThreeFilesModel" "fed" "I") (by decide +kernel)) (fun _ h9 => h9) rfl dX2_feed_17 ?_
      refine lv_bipush (v := 16) hx hb dX2_feed_20 (by decide) ?_
      refine lv_icmp_ne (tgt := 27) hx hb dX2_feed_22 (by decide) (fun c22_3 => ?_) (fun c22_3 => ?_)
      ·
        refine lv_aload_n hx hb dX2_feed_27 rfl (lv_at hl 0 rfl) ?_
        refine va_get (D := (dC, dI)) (ci := 3) (v := .ref fd) (C := RX2) (T := TX2) (N := 13) hx hb hts (by decide +kernel) hown hK hP 0 rfl rfl 9 (by decide) (hts (.fieldLink RX2 22 "ThreeFilesModel" "feeds" "[I") (by decide +kernel)) (fun _ h9 => h9) rfl dX2_feed_28 ?_
        refine lv_aload_n hx hb dX2_feed_31 rfl (lv_at hl 0 rfl) ?_
        refine va_get (D := (dC, dI)) (ci := 3) (v := .int 0) (C := RX2) (T := TX2) (N := 13) hx hb hts (by decide +kernel) hown hK hP 0 rfl rfl 8 (by decide) (hts (.fieldLink RX2 65 "ThreeFilesModel" "fed" "I") (by decide +kernel)) (fun _ h9 => h9) rfl dX2_feed_32 ?_
        refine lv_iload_n hx hb dX2_feed_35 rfl (lv_at hl 1 rfl) ?_
        refine va_iast hx hb hK hP hD hS 1 0 rfl rfl (i := 0) (x := p0) (by unfold vp_in; decide) dX2_feed_36 (fun H locs hP hD hS => ?_)
        have hP : va_P (dC, dI) vwCl [(y, .inr (3, [.int 0, .int pv, .ref mb, .ref mz, .ref ob, .ref oz, .int 0, .int 0, .int 0, .ref fd, .ref md, .int 0, .int 0])), (fd, .inl (kf, 16, .inl (upd (fun _ => 0) 0 p0)))] H := hP
        have hD : va_D A [(y, .inr (3, [.int 0, .int pv, .ref mb, .ref mz, .ref ob, .ref oz, .int 0, .int 0, .int 0, .ref fd, .ref md, .int 0, .int 0])), (fd, .inl (kf, 16, .inl (upd (fun _ => 0) 0 p0)))] := hD
        refine lv_aload_n hx hb dX2_feed_37 rfl (lv_at hl 0 rfl) ?_
        refine lv_dup hx hb dX2_feed_38 rfl ?_
        refine va_get (D := (dC, dI)) (ci := 3) (v := .int 0) (C := RX2) (T := TX2) (N := 13) hx hb hts (by decide +kernel) hown hK hP 0 rfl rfl 8 (by decide) (hts (.fieldLink RX2 65 "ThreeFilesModel" "fed" "I") (by decide +kernel)) (fun _ h9 => h9) rfl dX2_feed_39 ?_
        refine lv_iconst (v := 1) hx hb dX2_feed_42 (by decide) ?_
        refine lv_iadd hx hb dX2_feed_43 ?_
        refine W.eq (g2 := F0 m 44 ls [.int 1, .ref y]) (by rfl) ?_
        refine va_put (D := (dC, dI)) (ci := 3) (v := .int 1) (ty := .int) (C := RX2) (T := TX2) (N := 13) hx hb hts (by decide +kernel) tyX2 tyX2_ok nmX2 hown hK hP hD hS 0 rfl rfl 8 (by decide) (hts (.fieldLink RX2 65 "ThreeFilesModel" "fed" "I") (by decide +kernel)) (fun _ h9 => h9) rfl (by decide +kernel) rfl rfl (Nat.le_of_ble_eq_true rfl) dX2_feed_44 (fun H locs hP hD hS => ?_)
        have hP : va_P (dC, dI) vwCl [(y, .inr (3, [.int 0, .int pv, .ref mb, .ref mz, .ref ob, .ref oz, .int 0, .int 0, .int 1, .ref fd, .ref md, .int 0, .int 0])), (fd, .inl (kf, 16, .inl (upd (fun _ => 0) 0 p0)))] H := hP
        have hD : va_D A [(y, .inr (3, [.int 0, .int pv, .ref mb, .ref mz, .ref ob, .ref oz, .int 0, .int 0, .int 1, .ref fd, .ref md, .int 0, .int 0])), (fd, .inl (kf, 16, .inl (upd (fun _ => 0) 0 p0)))] := hD
        refine lv_iconst (v := 1) hx hb dX2_feed_47 (by decide) ?_
        exact W.zret (ty := .boolean) (v := 1) hx hb hr rfl (fun t ht hW => ⟨⟨1, (), rfl, (if_pos hf_1).symm, trivial⟩, hS.F ht⟩) hS.2.2 dX2_feed_48
      · exact absurd c22_3 (by decide)
  ·
    refine lv_if_eq (tgt := 25) hx hb dX2_feed_13 (by decide) (fun c13_4 => ?_) (fun c13_4 => ?_)
    ·
      refine lv_iconst (v := 0) hx hb dX2_feed_25 (by decide) ?_
      exact W.zret (ty := .boolean) (v := 0) hx hb hr rfl (fun t ht hW => ⟨⟨0, (), rfl, (if_neg (q_out hf_1)).symm, trivial⟩, hS.F ht⟩) hS.2.2 dX2_feed_26
    · exact absurd (by decide) c13_4

set_option maxHeartbeats 4000000 in
set_option maxRecDepth 100000 in
theorem m_row (l : Launch) (dC : Nat → ClassId) (dI : Nat → Nat → Nat) (sz : Nat) (y mb mz ob oz fd md : Nat) (kz : ClassId) (pv th : Int32) (p0 : Int32) : Met l yX2_row wsX2_row ({ frames := 0, cells := 0, slots := 0, locals := 0 }) (va_Pc [.ref y, .int p0] (fun U => U.heap.size = sz ∧ va_P (dC, dI) vwCl [(y, .inr (3, [.int th, .int pv, .ref mb, .ref mz, .ref ob, .ref oz, .int 0, .int 0, .int 0, .ref fd, .ref md, .int 0, .int 0])), (mz, .inl (kz, 3, .inl (fun _ => 0)))] U.heap ∧ va_K (dC, dI) vwCl [(kz, .int)] U ∧ va_D (fun _ => True) [(y, .inr (3, [.int th, .int pv, .ref mb, .ref mz, .ref ob, .ref oz, .int 0, .int 0, .int 0, .ref fd, .ref md, .int 0, .int 0])), (mz, .inl (kz, 3, .inl (fun _ => 0)))])) (va_Qi (fun r (_ : Unit) => r = (-1)) (fun _ _ => True) (va_A [(y, .inr (3, [.int th, .int pv, .ref mb, .ref mz, .ref ob, .ref oz, .int 0, .int 0, .int 0, .ref fd, .ref md, .int 0, .int 0])), (mz, .inl (kz, 3, .inl (fun _ => 0)))] sz)) 0 0 (va_A [(y, .inr (3, [.int th, .int pv, .ref mb, .ref mz, .ref ob, .ref oz, .int 0, .int 0, .int 0, .ref fd, .ref md, .int 0, .int 0])), (mz, .inl (kz, 3, .inl (fun _ => 0)))] sz) := by
  refine Met.ofW (cc := cX2_row) (maxL := 6) (ret := (some .int)) (by decide) rfl ?_
  intro p e s m args below meth c s₁ B hml hv
  obtain ⟨rfl, hsz, hP, hK, hD0⟩ := hv
  have hx := B.exec
  have hb := B.bytes
  have hr := B.returns
  have hts := atoms_spec (ws := wsX2_row) B.pre
  have hown : s.vm.findClass RX2 = some m.cls := findClass_of_methodNamed B.named
  have hlocks := B.notSynchronized
  subst hsz
  have hD := hD0.self (sz := s.heap.size)
  generalize hAe : va_A [(y, .inr (3, [.int th, .int pv, .ref mb, .ref mz, .ref ob, .ref oz, .int 0, .int 0, .int 0, .ref fd, .ref md, .int 0, .int 0])), (mz, .inl (kz, 3, .inl (fun _ => 0)))] s.heap.size = A at hD ⊢
  have hA : ∀ q : Nat, s.heap.size ≤ q → A q := fun q h => by rw [← hAe]; exact Or.inr h
  have hS : va_S A s.heap s.heap [] := va_S.rf
  have hP : va_P (dC, dI) vwCl [(y, .inr (3, [.int th, .int pv, .ref mb, .ref mz, .ref ob, .ref oz, .int 0, .int 0, .int 0, .ref fd, .ref md, .int 0, .int 0])), (mz, .inl (kz, 3, .inl (fun _ => 0)))] s.heap := hP
  have hl := lv_entry ([.ref y, .int p0]) (n := 6) (Nat.le_of_ble_eq_true rfl)
  rw [lg_entry_eq]
  generalize (lg_sl ([.ref y, .int p0]) ++ List.replicate (6 - (lg_sl ([.ref y, .int p0])).length) Slot.unset).toArray = ls at hl ⊢
  have hl : lv_has ls 6 [(0, .ref y), (1, .int p0)] := hl
  have hH0 : s.heap.size ≤ s.heap.size := Nat.le_refl _
  refine lv_aload_n hx hb dX2_row_0 rfl (lv_at hl 0 rfl) ?_
  refine lv_iconst (v := 0) hx hb dX2_row_1 (by decide) ?_
  refine va_put (D := (dC, dI)) (ci := 3) (v := .int 0) (ty := .int) (C := RX2) (T := TX2) (N := 13) hx hb hts (by decide +kernel) tyX2 tyX2_ok nmX2 hown hK hP hD hS 0 rfl rfl 0 (by decide) (hts (.fieldLink RX2 32 "ThreeFilesModel" "thrown" "I") (by decide +kernel)) (fun _ h9 => h9) rfl (by decide +kernel) rfl rfl (Nat.le_of_ble_eq_true rfl) dX2_row_2 (fun H locs hP hD hS => ?_)
  have hP : va_P (dC, dI) vwCl [(y, .inr (3, [.int 0, .int pv, .ref mb, .ref mz, .ref ob, .ref oz, .int 0, .int 0, .int 0, .ref fd, .ref md, .int 0, .int 0])), (mz, .inl (kz, 3, .inl (fun _ => 0)))] H := hP
  have hD : va_D A [(y, .inr (3, [.int 0, .int pv, .ref mb, .ref mz, .ref ob, .ref oz, .int 0, .int 0, .int 0, .ref fd, .ref md, .int 0, .int 0])), (mz, .inl (kz, 3, .inl (fun _ => 0)))] := hD
  refine lv_aload_n hx hb dX2_row_5 rfl (lv_at hl 0 rfl) ?_
  refine va_get (D := (dC, dI)) (ci := 3) (v := .int 0) (C := RX2) (T := TX2) (N := 13) hx hb hts (by decide +kernel) hown hK hP 0 rfl rfl 7 (by decide) (hts (.fieldLink RX2 72 "ThreeFilesModel" "closed" "Z") (by decide +kernel)) (fun _ h9 => h9) rfl dX2_row_6 ?_
  refine lv_if_ne (tgt := 29) hx hb dX2_row_9 (by decide) (fun c9_1 => ?_) (fun c9_1 => ?_)
  · exact absurd (by decide) c9_1
  ·
    refine lv_aload_n hx hb dX2_row_12 rfl (lv_at hl 0 rfl) ?_
    refine va_get (D := (dC, dI)) (ci := 3) (v := .int 0) (C := RX2) (T := TX2) (N := 13) hx hb hts (by decide +kernel) hown hK hP 0 rfl rfl 8 (by decide) (hts (.fieldLink RX2 65 "ThreeFilesModel" "fed" "I") (by decide +kernel)) (fun _ h9 => h9) rfl dX2_row_13 ?_
    refine lv_if_eq (tgt := 29) hx hb dX2_row_16 (by decide) (fun c16_2 => ?_) (fun c16_2 => ?_)
    ·
      refine lv_iconst (v := (-1)) hx hb dX2_row_29 (by decide) ?_
      exact W.iret (v := (-1)) hx hb hr (fun t ht hW => ⟨⟨(-1), (), rfl, rfl, trivial⟩, hS.F ht⟩) hS.2.2 dX2_row_30
    · exact absurd (by decide) c16_2

set_option maxHeartbeats 4000000 in
set_option maxRecDepth 100000 in
theorem m_find (l : Launch) (dC : Nat → ClassId) (dI : Nat → Nat → Nat) (sz : Nat) (y mb mz ob oz fd md : Nat) (kz : ClassId) (pv th : Int32) (p0 : Int32) (p1 : Int32) : Met l yX2_find wsX2_find ({ frames := 1, cells := 0, slots := 0, locals := 22 }) (va_Pc [.ref y, .int p0, .int p1] (fun U => U.heap.size = sz ∧ va_P (dC, dI) vwCl [(y, .inr (3, [.int th, .int pv, .ref mb, .ref mz, .ref ob, .ref oz, .int 0, .int 0, .int 0, .ref fd, .ref md, .int 0, .int 0])), (mz, .inl (kz, 3, .inl (fun _ => 0)))] U.heap ∧ va_K (dC, dI) vwCl [(kz, .int)] U ∧ va_D (fun _ => True) [(y, .inr (3, [.int th, .int pv, .ref mb, .ref mz, .ref ob, .ref oz, .int 0, .int 0, .int 0, .ref fd, .ref md, .int 0, .int 0])), (mz, .inl (kz, 3, .inl (fun _ => 0)))])) (va_Qi (fun r (_ : Unit) => r = (-1)) (fun _ _ => True) (va_A [(y, .inr (3, [.int th, .int pv, .ref mb, .ref mz, .ref ob, .ref oz, .int 0, .int 0, .int 0, .ref fd, .ref md, .int 0, .int 0])), (mz, .inl (kz, 3, .inl (fun _ => 0)))] sz)) 0 0 (va_A [(y, .inr (3, [.int th, .int pv, .ref mb, .ref mz, .ref ob, .ref oz, .int 0, .int 0, .int 0, .ref fd, .ref md, .int 0, .int 0])), (mz, .inl (kz, 3, .inl (fun _ => 0)))] sz) := by
  refine Met.ofW (cc := cX2_find) (maxL := 3) (ret := (some .int)) (by decide) rfl ?_
  intro p e s m args below meth c s₁ B hml hv
  obtain ⟨rfl, hsz, hP, hK, hD0⟩ := hv
  have hx := B.exec
  have hb := B.bytes
  have hr := B.returns
  have hts := atoms_spec (ws := wsX2_find) B.pre
  have hown : s.vm.findClass RX2 = some m.cls := findClass_of_methodNamed B.named
  have hlocks := B.notSynchronized
  subst hsz
  have hD := hD0.self (sz := s.heap.size)
  generalize hAe : va_A [(y, .inr (3, [.int th, .int pv, .ref mb, .ref mz, .ref ob, .ref oz, .int 0, .int 0, .int 0, .ref fd, .ref md, .int 0, .int 0])), (mz, .inl (kz, 3, .inl (fun _ => 0)))] s.heap.size = A at hD ⊢
  have hA : ∀ q : Nat, s.heap.size ≤ q → A q := fun q h => by rw [← hAe]; exact Or.inr h
  have hS : va_S A s.heap s.heap [] := va_S.rf
  have hP : va_P (dC, dI) vwCl [(y, .inr (3, [.int th, .int pv, .ref mb, .ref mz, .ref ob, .ref oz, .int 0, .int 0, .int 0, .ref fd, .ref md, .int 0, .int 0])), (mz, .inl (kz, 3, .inl (fun _ => 0)))] s.heap := hP
  have hl := lv_entry ([.ref y, .int p0, .int p1]) (n := 3) (Nat.le_of_ble_eq_true rfl)
  rw [lg_entry_eq]
  generalize (lg_sl ([.ref y, .int p0, .int p1]) ++ List.replicate (3 - (lg_sl ([.ref y, .int p0, .int p1])).length) Slot.unset).toArray = ls at hl ⊢
  have hl : lv_has ls 3 [(0, .ref y), (1, .int p0), (2, .int p1)] := hl
  have hH0 : s.heap.size ≤ s.heap.size := Nat.le_refl _
  refine lv_aload_n hx hb dX2_find_0 rfl (lv_at hl 0 rfl) ?_
  refine lv_iconst (v := 0) hx hb dX2_find_1 (by decide) ?_
  refine va_put (D := (dC, dI)) (ci := 3) (v := .int 0) (ty := .int) (C := RX2) (T := TX2) (N := 13) hx hb hts (by decide +kernel) tyX2 tyX2_ok nmX2 hown hK hP hD hS 0 rfl rfl 0 (by decide) (hts (.fieldLink RX2 32 "ThreeFilesModel" "thrown" "I") (by decide +kernel)) (fun _ h9 => h9) rfl (by decide +kernel) rfl rfl (Nat.le_of_ble_eq_true rfl) dX2_find_2 (fun H locs hP hD hS => ?_)
  have hP : va_P (dC, dI) vwCl [(y, .inr (3, [.int 0, .int pv, .ref mb, .ref mz, .ref ob, .ref oz, .int 0, .int 0, .int 0, .ref fd, .ref md, .int 0, .int 0])), (mz, .inl (kz, 3, .inl (fun _ => 0)))] H := hP
  have hD : va_D A [(y, .inr (3, [.int 0, .int pv, .ref mb, .ref mz, .ref ob, .ref oz, .int 0, .int 0, .int 0, .ref fd, .ref md, .int 0, .int 0])), (mz, .inl (kz, 3, .inl (fun _ => 0)))] := hD
  refine lv_iload_n hx hb dX2_find_5 rfl (lv_at hl 1 rfl) ?_
  refine lv_if_lt (tgt := 43) hx hb dX2_find_6 (by decide) (fun c6_1 => ?_) (fun c6_1 => ?_)
  ·
    refine lv_iconst (v := (-1)) hx hb dX2_find_43 (by decide) ?_
    exact W.iret (v := (-1)) hx hb hr (fun t ht hW => ⟨⟨(-1), (), rfl, rfl, trivial⟩, hS.F ht⟩) hS.2.2 dX2_find_44
  ·
    refine lv_iload_n hx hb dX2_find_9 rfl (lv_at hl 1 rfl) ?_
    refine lv_iconst (v := 2) hx hb dX2_find_10 (by decide) ?_
    refine lv_idiv hx hb dX2_find_11 (by decide) ?_
    refine lv_topi (fun v11_2 ev11_2 => ?_)
    refine lv_aload_n hx hb dX2_find_12 rfl (lv_at hl 0 rfl) ?_
    have hPc := hP.sub (ws' := [(y, .inr (3, [.int 0, .int pv, .ref mb, .ref mz, .ref ob, .ref oz, .int 0, .int 0, .int 0, .ref fd, .ref md, .int 0, .int 0])), (mz, .inl (kz, 3, .inl (fun _ => 0)))]) [0, 1] rfl
    have hKc := hK.sub (tys' := [(kz, .int)]) [0] rfl
    refine vp_callSi ((va_runV (As := []) (rest := [.int v11_2]) ⟨hx, hb, hml, hown, hts⟩ (m_stripes l dC dI y mb mz ob oz fd md kz pv 0) (cwV 0 hts gX2_find_X2_stripes rfl rfl rfl (by decide +kernel) ⟨Nat.le_of_ble_eq_true rfl, Nat.le_of_ble_eq_true rfl⟩) ⟨fun a U g mk q => by obtain ⟨q0, qP, qK⟩ := q; exact ⟨q0, qP, va_K.moved (u := U) (U := U.calling g mk a) (Vm.Alike.refl U.vm) qK⟩, va_recv hKc hPc (ci := 3) (q0 := 0) rfl rfl, fun U hU hW => ⟨rfl, by rw [hU]; exact hPc, va_K.moved hW.alike hKc⟩⟩ rfl rfl hl.1 rfl (lv_room (Nat.le_of_ble_eq_true rfl)) dX2_find_13 ⟨Nat.le_of_ble_eq_true rfl, Nat.le_of_ble_eq_true rfl⟩)).run (fun r_3 hq_3 => ?_)
    obtain rfl : r_3 = 0 := hq_3
    refine lv_icmp_ge (tgt := 43) hx hb dX2_find_16 (by decide) (fun c16_4 => ?_) (fun c16_4 => ?_)
    ·
      refine lv_iconst (v := (-1)) hx hb dX2_find_43 (by decide) ?_
      exact W.iret (v := (-1)) hx hb hr (fun t ht hW => ⟨⟨(-1), (), rfl, rfl, trivial⟩, hS.F ht⟩) hS.2.2 dX2_find_44
    · exact absurd (by rw [ev11_2]; exact q_ge (q_div2 c6_1)) c16_4

set_option maxHeartbeats 4000000 in
set_option maxRecDepth 100000 in
theorem m_rows (l : Launch) (dC : Nat → ClassId) (dI : Nat → Nat → Nat) (sz : Nat) (y mb mz ob oz fd md : Nat) (kz : ClassId) (pv th : Int32) (p0 : Int32) : Met l yX2_rows wsX2_rows ({ frames := 1, cells := 0, slots := 0, locals := 22 }) (va_Pc [.ref y, .int p0] (fun U => U.heap.size = sz ∧ va_P (dC, dI) vwCl [(y, .inr (3, [.int th, .int pv, .ref mb, .ref mz, .ref ob, .ref oz, .int 0, .int 0, .int 0, .ref fd, .ref md, .int 0, .int 0])), (mz, .inl (kz, 3, .inl (fun _ => 0)))] U.heap ∧ va_K (dC, dI) vwCl [(kz, .int)] U ∧ va_D (fun _ => True) [(y, .inr (3, [.int th, .int pv, .ref mb, .ref mz, .ref ob, .ref oz, .int 0, .int 0, .int 0, .ref fd, .ref md, .int 0, .int 0])), (mz, .inl (kz, 3, .inl (fun _ => 0)))])) (va_Qi (fun r (_ : Unit) => r = 0) (fun _ _ => True) (va_A [(y, .inr (3, [.int th, .int pv, .ref mb, .ref mz, .ref ob, .ref oz, .int 0, .int 0, .int 0, .ref fd, .ref md, .int 0, .int 0])), (mz, .inl (kz, 3, .inl (fun _ => 0)))] sz)) 0 0 (va_A [(y, .inr (3, [.int th, .int pv, .ref mb, .ref mz, .ref ob, .ref oz, .int 0, .int 0, .int 0, .ref fd, .ref md, .int 0, .int 0])), (mz, .inl (kz, 3, .inl (fun _ => 0)))] sz) := by
  refine Met.ofW (cc := cX2_rows) (maxL := 4) (ret := (some .int)) (by decide) rfl ?_
  intro p e s m args below meth c s₁ B hml hv
  obtain ⟨rfl, hsz, hP, hK, hD0⟩ := hv
  have hx := B.exec
  have hb := B.bytes
  have hr := B.returns
  have hts := atoms_spec (ws := wsX2_rows) B.pre
  have hown : s.vm.findClass RX2 = some m.cls := findClass_of_methodNamed B.named
  have hlocks := B.notSynchronized
  subst hsz
  have hD := hD0.self (sz := s.heap.size)
  generalize hAe : va_A [(y, .inr (3, [.int th, .int pv, .ref mb, .ref mz, .ref ob, .ref oz, .int 0, .int 0, .int 0, .ref fd, .ref md, .int 0, .int 0])), (mz, .inl (kz, 3, .inl (fun _ => 0)))] s.heap.size = A at hD ⊢
  have hA : ∀ q : Nat, s.heap.size ≤ q → A q := fun q h => by rw [← hAe]; exact Or.inr h
  have hS : va_S A s.heap s.heap [] := va_S.rf
  have hP : va_P (dC, dI) vwCl [(y, .inr (3, [.int th, .int pv, .ref mb, .ref mz, .ref ob, .ref oz, .int 0, .int 0, .int 0, .ref fd, .ref md, .int 0, .int 0])), (mz, .inl (kz, 3, .inl (fun _ => 0)))] s.heap := hP
  have hl := lv_entry ([.ref y, .int p0]) (n := 4) (Nat.le_of_ble_eq_true rfl)
  rw [lg_entry_eq]
  generalize (lg_sl ([.ref y, .int p0]) ++ List.replicate (4 - (lg_sl ([.ref y, .int p0])).length) Slot.unset).toArray = ls at hl ⊢
  have hl : lv_has ls 4 [(0, .ref y), (1, .int p0)] := hl
  have hH0 : s.heap.size ≤ s.heap.size := Nat.le_refl _
  refine lv_aload_n hx hb dX2_rows_0 rfl (lv_at hl 0 rfl) ?_
  refine lv_iconst (v := 0) hx hb dX2_rows_1 (by decide) ?_
  refine va_put (D := (dC, dI)) (ci := 3) (v := .int 0) (ty := .int) (C := RX2) (T := TX2) (N := 13) hx hb hts (by decide +kernel) tyX2 tyX2_ok nmX2 hown hK hP hD hS 0 rfl rfl 0 (by decide) (hts (.fieldLink RX2 32 "ThreeFilesModel" "thrown" "I") (by decide +kernel)) (fun _ h9 => h9) rfl (by decide +kernel) rfl rfl (Nat.le_of_ble_eq_true rfl) dX2_rows_2 (fun H locs hP hD hS => ?_)
  have hP : va_P (dC, dI) vwCl [(y, .inr (3, [.int 0, .int pv, .ref mb, .ref mz, .ref ob, .ref oz, .int 0, .int 0, .int 0, .ref fd, .ref md, .int 0, .int 0])), (mz, .inl (kz, 3, .inl (fun _ => 0)))] H := hP
  have hD : va_D A [(y, .inr (3, [.int 0, .int pv, .ref mb, .ref mz, .ref ob, .ref oz, .int 0, .int 0, .int 0, .ref fd, .ref md, .int 0, .int 0])), (mz, .inl (kz, 3, .inl (fun _ => 0)))] := hD
  refine lv_iconst (v := 0) hx hb dX2_rows_5 (by decide) ?_
  refine lv_istore_n (lv' := [(2, .int 0), (0, .ref y), (1, .int p0)]) hx hb dX2_rows_6 rfl hl (by decide) rfl (fun ls hl => ?_)
  refine lv_iconst (v := 0) hx hb dX2_rows_7 (by decide) ?_
  refine lv_istore_n (lv' := [(3, .int 0), (2, .int 0), (0, .ref y), (1, .int p0)]) hx hb dX2_rows_8 rfl hl (by decide) rfl (fun ls hl => ?_)
  refine lv_iload_n hx hb dX2_rows_9 rfl (lv_at hl 0 rfl) ?_
  refine lv_iconst (v := 2) hx hb dX2_rows_10 (by decide) ?_
  refine lv_aload_n hx hb dX2_rows_11 rfl (lv_at hl 2 rfl) ?_
  have hPc := hP.sub (ws' := [(y, .inr (3, [.int 0, .int pv, .ref mb, .ref mz, .ref ob, .ref oz, .int 0, .int 0, .int 0, .ref fd, .ref md, .int 0, .int 0])), (mz, .inl (kz, 3, .inl (fun _ => 0)))]) [0, 1] rfl
  have hKc := hK.sub (tys' := [(kz, .int)]) [0] rfl
  refine vp_callSi ((va_runV (As := []) (rest := [.int 2, .int 0]) ⟨hx, hb, hml, hown, hts⟩ (m_stripes l dC dI y mb mz ob oz fd md kz pv 0) (cwV 0 hts gX2_rows_X2_stripes rfl rfl rfl (by decide +kernel) ⟨Nat.le_of_ble_eq_true rfl, Nat.le_of_ble_eq_true rfl⟩) ⟨fun a U g mk q => by obtain ⟨q0, qP, qK⟩ := q; exact ⟨q0, qP, va_K.moved (u := U) (U := U.calling g mk a) (Vm.Alike.refl U.vm) qK⟩, va_recv hKc hPc (ci := 3) (q0 := 0) rfl rfl, fun U hU hW => ⟨rfl, by rw [hU]; exact hPc, va_K.moved hW.alike hKc⟩⟩ rfl rfl hl.1 rfl (lv_room (Nat.le_of_ble_eq_true rfl)) dX2_rows_12 ⟨Nat.le_of_ble_eq_true rfl, Nat.le_of_ble_eq_true rfl⟩)).run (fun r_1 hq_1 => ?_)
  obtain rfl : r_1 = 0 := hq_1
  refine lv_imul hx hb dX2_rows_15 ?_
  refine W.eq (g2 := F0 m 16 ls [.int 0, .int 0]) (by rfl) ?_
  refine lv_icmp_ge (tgt := 67) hx hb dX2_rows_16 (by decide) (fun c16_2 => ?_) (fun c16_2 => ?_)
  ·
    refine lv_iload_n hx hb dX2_rows_67 rfl (lv_at hl 1 rfl) ?_
    exact W.iret (v := 0) hx hb hr (fun t ht hW => ⟨⟨0, (), rfl, rfl, trivial⟩, hS.F ht⟩) hS.2.2 dX2_rows_68
  · exact absurd (by decide) c16_2

set_option maxHeartbeats 4000000 in
set_option maxRecDepth 100000 in
theorem m_drop (l : Launch) (dC : Nat → ClassId) (dI : Nat → Nat → Nat) (sz : Nat) (y mb mz ob oz fd md : Nat) (kz : ClassId) (pv th : Int32) (p0 : Int32) : Met l yX2_drop wsX2_drop ({ frames := 1, cells := 0, slots := 0, locals := 22 }) (va_Pc [.ref y, .int p0] (fun U => U.heap.size = sz ∧ va_P (dC, dI) vwCl [(y, .inr (3, [.int th, .int pv, .ref mb, .ref mz, .ref ob, .ref oz, .int 0, .int 0, .int 0, .ref fd, .ref md, .int 0, .int 0])), (mz, .inl (kz, 3, .inl (fun _ => 0)))] U.heap ∧ va_K (dC, dI) vwCl [(kz, .int)] U ∧ va_D (fun _ => True) [(y, .inr (3, [.int th, .int pv, .ref mb, .ref mz, .ref ob, .ref oz, .int 0, .int 0, .int 0, .ref fd, .ref md, .int 0, .int 0])), (mz, .inl (kz, 3, .inl (fun _ => 0)))])) (va_Qi (fun r (_ : Unit) => r = 0) (fun _ _ => True) (va_A [(y, .inr (3, [.int th, .int pv, .ref mb, .ref mz, .ref ob, .ref oz, .int 0, .int 0, .int 0, .ref fd, .ref md, .int 0, .int 0])), (mz, .inl (kz, 3, .inl (fun _ => 0)))] sz)) 0 0 (va_A [(y, .inr (3, [.int th, .int pv, .ref mb, .ref mz, .ref ob, .ref oz, .int 0, .int 0, .int 0, .ref fd, .ref md, .int 0, .int 0])), (mz, .inl (kz, 3, .inl (fun _ => 0)))] sz) := by
  refine Met.ofW (cc := cX2_drop) (maxL := 7) (ret := (some .boolean)) (by decide) rfl ?_
  intro p e s m args below meth c s₁ B hml hv
  obtain ⟨rfl, hsz, hP, hK, hD0⟩ := hv
  have hx := B.exec
  have hb := B.bytes
  have hr := B.returns
  have hts := atoms_spec (ws := wsX2_drop) B.pre
  have hown : s.vm.findClass RX2 = some m.cls := findClass_of_methodNamed B.named
  have hlocks := B.notSynchronized
  subst hsz
  have hD := hD0.self (sz := s.heap.size)
  generalize hAe : va_A [(y, .inr (3, [.int th, .int pv, .ref mb, .ref mz, .ref ob, .ref oz, .int 0, .int 0, .int 0, .ref fd, .ref md, .int 0, .int 0])), (mz, .inl (kz, 3, .inl (fun _ => 0)))] s.heap.size = A at hD ⊢
  have hA : ∀ q : Nat, s.heap.size ≤ q → A q := fun q h => by rw [← hAe]; exact Or.inr h
  have hS : va_S A s.heap s.heap [] := va_S.rf
  have hP : va_P (dC, dI) vwCl [(y, .inr (3, [.int th, .int pv, .ref mb, .ref mz, .ref ob, .ref oz, .int 0, .int 0, .int 0, .ref fd, .ref md, .int 0, .int 0])), (mz, .inl (kz, 3, .inl (fun _ => 0)))] s.heap := hP
  have hl := lv_entry ([.ref y, .int p0]) (n := 7) (Nat.le_of_ble_eq_true rfl)
  rw [lg_entry_eq]
  generalize (lg_sl ([.ref y, .int p0]) ++ List.replicate (7 - (lg_sl ([.ref y, .int p0])).length) Slot.unset).toArray = ls at hl ⊢
  have hl : lv_has ls 7 [(0, .ref y), (1, .int p0)] := hl
  have hH0 : s.heap.size ≤ s.heap.size := Nat.le_refl _
  refine lv_aload_n hx hb dX2_drop_0 rfl (lv_at hl 0 rfl) ?_
  refine lv_iconst (v := 0) hx hb dX2_drop_1 (by decide) ?_
  refine va_put (D := (dC, dI)) (ci := 3) (v := .int 0) (ty := .int) (C := RX2) (T := TX2) (N := 13) hx hb hts (by decide +kernel) tyX2 tyX2_ok nmX2 hown hK hP hD hS 0 rfl rfl 0 (by decide) (hts (.fieldLink RX2 32 "ThreeFilesModel" "thrown" "I") (by decide +kernel)) (fun _ h9 => h9) rfl (by decide +kernel) rfl rfl (Nat.le_of_ble_eq_true rfl) dX2_drop_2 (fun H locs hP hD hS => ?_)
  have hP : va_P (dC, dI) vwCl [(y, .inr (3, [.int 0, .int pv, .ref mb, .ref mz, .ref ob, .ref oz, .int 0, .int 0, .int 0, .ref fd, .ref md, .int 0, .int 0])), (mz, .inl (kz, 3, .inl (fun _ => 0)))] H := hP
  have hD : va_D A [(y, .inr (3, [.int 0, .int pv, .ref mb, .ref mz, .ref ob, .ref oz, .int 0, .int 0, .int 0, .ref fd, .ref md, .int 0, .int 0])), (mz, .inl (kz, 3, .inl (fun _ => 0)))] := hD
  refine lv_aload_n hx hb dX2_drop_5 rfl (lv_at hl 0 rfl) ?_
  refine va_get (D := (dC, dI)) (ci := 3) (v := .int 0) (C := RX2) (T := TX2) (N := 13) hx hb hts (by decide +kernel) hown hK hP 0 rfl rfl 7 (by decide) (hts (.fieldLink RX2 72 "ThreeFilesModel" "closed" "Z") (by decide +kernel)) (fun _ h9 => h9) rfl dX2_drop_6 ?_
  refine lv_if_ne (tgt := 22) hx hb dX2_drop_9 (by decide) (fun c9_1 => ?_) (fun c9_1 => ?_)
  · exact absurd (by decide) c9_1
  ·
    refine lv_iload_n hx hb dX2_drop_12 rfl (lv_at hl 1 rfl) ?_
    refine lv_iconst (v := 1) hx hb dX2_drop_13 (by decide) ?_
    refine lv_bipush (v := 100) hx hb dX2_drop_14 (by decide) ?_
    have hPc := hP.sub (ws' := []) [] rfl
    have hKc := hK.sub (tys' := []) [] rfl
    refine vp_callSi ((va_runS (As := [.int p0, .int 1, .int 100]) (rest := []) ⟨hx, hb, hml, hown, hts⟩ (m_in l dC dI p0 1 100) (va_cwS 3 hts gX2_drop_X2_in rfl rfl rfl (by decide +kernel) ⟨Nat.le_of_ble_eq_true rfl, Nat.le_of_ble_eq_true rfl⟩) ⟨fun a U g mk q => by obtain ⟨q0, qP, qK⟩ := q; exact ⟨q0, qP, va_K.moved (u := U) (U := U.calling g mk a) (Vm.Alike.refl U.vm) qK⟩, fun U hU hW => ⟨rfl, by rw [hU]; exact hPc, va_K.moved hW.alike hKc⟩⟩ rfl rfl hl.1 rfl (lv_room (Nat.le_of_ble_eq_true rfl)) dX2_drop_16 ⟨Nat.le_of_ble_eq_true rfl, Nat.le_of_ble_eq_true rfl⟩)).run (fun r_2 hq_2 => ?_)
    rcases hq_2 with ⟨rfl, hf_2⟩ | ⟨rfl, hf_2⟩
    ·
      refine lv_if_ne (tgt := 24) hx hb dX2_drop_19 (by decide) (fun c19_3 => ?_) (fun c19_3 => ?_)
      ·
        refine lv_iconst (v := 0) hx hb dX2_drop_24 (by decide) ?_
        refine lv_istore_n (lv' := [(2, .int 0), (0, .ref y), (1, .int p0)]) hx hb dX2_drop_25 rfl hl (by decide) rfl (fun ls hl => ?_)
        refine lv_iconst (v := 0) hx hb dX2_drop_26 (by decide) ?_
        refine lv_istore_n (lv' := [(3, .int 0), (2, .int 0), (0, .ref y), (1, .int p0)]) hx hb dX2_drop_27 rfl hl (by decide) rfl (fun ls hl => ?_)
        refine lv_iload_n hx hb dX2_drop_28 rfl (lv_at hl 0 rfl) ?_
        refine lv_aload_n hx hb dX2_drop_29 rfl (lv_at hl 2 rfl) ?_
        have hPc := hP.sub (ws' := [(y, .inr (3, [.int 0, .int pv, .ref mb, .ref mz, .ref ob, .ref oz, .int 0, .int 0, .int 0, .ref fd, .ref md, .int 0, .int 0])), (mz, .inl (kz, 3, .inl (fun _ => 0)))]) [0, 1] rfl
        have hKc := hK.sub (tys' := [(kz, .int)]) [0] rfl
        refine vp_callSi ((va_runV (As := []) (rest := [.int 0]) ⟨hx, hb, hml, hown, hts⟩ (m_stripes l dC dI y mb mz ob oz fd md kz pv 0) (cwV 0 hts gX2_drop_X2_stripes rfl rfl rfl (by decide +kernel) ⟨Nat.le_of_ble_eq_true rfl, Nat.le_of_ble_eq_true rfl⟩) ⟨fun a U g mk q => by obtain ⟨q0, qP, qK⟩ := q; exact ⟨q0, qP, va_K.moved (u := U) (U := U.calling g mk a) (Vm.Alike.refl U.vm) qK⟩, va_recv hKc hPc (ci := 3) (q0 := 0) rfl rfl, fun U hU hW => ⟨rfl, by rw [hU]; exact hPc, va_K.moved hW.alike hKc⟩⟩ rfl rfl hl.1 rfl (lv_room (Nat.le_of_ble_eq_true rfl)) dX2_drop_30 ⟨Nat.le_of_ble_eq_true rfl, Nat.le_of_ble_eq_true rfl⟩)).run (fun r_4 hq_4 => ?_)
        obtain rfl : r_4 = 0 := hq_4
        refine lv_icmp_ge (tgt := 170) hx hb dX2_drop_33 (by decide) (fun c33_5 => ?_) (fun c33_5 => ?_)
        ·
          refine lv_iload_n hx hb dX2_drop_170 rfl (lv_at hl 1 rfl) ?_
          exact W.zret (ty := .boolean) (v := 0) hx hb hr rfl (fun t ht hW => ⟨⟨0, (), rfl, rfl, trivial⟩, hS.F ht⟩) hS.2.2 dX2_drop_171
        · exact absurd (by decide) c33_5
      · exact absurd c19_3 (by decide)
    ·
      refine lv_if_ne (tgt := 24) hx hb dX2_drop_19 (by decide) (fun c19_6 => ?_) (fun c19_6 => ?_)
      · exact absurd (by decide) c19_6
      ·
        refine lv_iconst (v := 0) hx hb dX2_drop_22 (by decide) ?_
        exact W.zret (ty := .boolean) (v := 0) hx hb hr rfl (fun t ht hW => ⟨⟨0, (), rfl, rfl, trivial⟩, hS.F ht⟩) hS.2.2 dX2_drop_23

set_option maxHeartbeats 4000000 in
set_option maxRecDepth 100000 in
theorem m_crash (l : Launch) (dC : Nat → ClassId) (dI : Nat → Nat → Nat) (sz : Nat) (y mb mz ob oz fd md : Nat) (kz : ClassId) (pv th : Int32) (p0 : Int32) (p1 : Int32) : Met l yX2_crash wsX2_crash ({ frames := 1, cells := 0, slots := 0, locals := 22 }) (va_Pc [.ref y, .int p0, .int p1] (fun U => U.heap.size = sz ∧ va_P (dC, dI) vwCl [(y, .inr (3, [.int th, .int pv, .ref mb, .ref mz, .ref ob, .ref oz, .int 0, .int 0, .int 0, .ref fd, .ref md, .int 0, .int 0])), (mz, .inl (kz, 3, .inl (fun _ => 0)))] U.heap ∧ va_K (dC, dI) vwCl [(kz, .int)] U ∧ va_D (fun _ => True) [(y, .inr (3, [.int th, .int pv, .ref mb, .ref mz, .ref ob, .ref oz, .int 0, .int 0, .int 0, .ref fd, .ref md, .int 0, .int 0])), (mz, .inl (kz, 3, .inl (fun _ => 0)))])) (va_Qi (fun r (_ : Unit) => r = 0) (fun _ _ => True) (va_A [(y, .inr (3, [.int th, .int pv, .ref mb, .ref mz, .ref ob, .ref oz, .int 0, .int 0, .int 0, .ref fd, .ref md, .int 0, .int 0])), (mz, .inl (kz, 3, .inl (fun _ => 0)))] sz)) 0 0 (va_A [(y, .inr (3, [.int th, .int pv, .ref mb, .ref mz, .ref ob, .ref oz, .int 0, .int 0, .int 0, .ref fd, .ref md, .int 0, .int 0])), (mz, .inl (kz, 3, .inl (fun _ => 0)))] sz) := by
  refine Met.ofW (cc := cX2_crash) (maxL := 3) (ret := (some .boolean)) (by decide) rfl ?_
  intro p e s m args below meth c s₁ B hml hv
  obtain ⟨rfl, hsz, hP, hK, hD0⟩ := hv
  have hx := B.exec
  have hb := B.bytes
  have hr := B.returns
  have hts := atoms_spec (ws := wsX2_crash) B.pre
  have hown : s.vm.findClass RX2 = some m.cls := findClass_of_methodNamed B.named
  have hlocks := B.notSynchronized
  subst hsz
  have hD := hD0.self (sz := s.heap.size)
  generalize hAe : va_A [(y, .inr (3, [.int th, .int pv, .ref mb, .ref mz, .ref ob, .ref oz, .int 0, .int 0, .int 0, .ref fd, .ref md, .int 0, .int 0])), (mz, .inl (kz, 3, .inl (fun _ => 0)))] s.heap.size = A at hD ⊢
  have hA : ∀ q : Nat, s.heap.size ≤ q → A q := fun q h => by rw [← hAe]; exact Or.inr h
  have hS : va_S A s.heap s.heap [] := va_S.rf
  have hP : va_P (dC, dI) vwCl [(y, .inr (3, [.int th, .int pv, .ref mb, .ref mz, .ref ob, .ref oz, .int 0, .int 0, .int 0, .ref fd, .ref md, .int 0, .int 0])), (mz, .inl (kz, 3, .inl (fun _ => 0)))] s.heap := hP
  have hl := lv_entry ([.ref y, .int p0, .int p1]) (n := 3) (Nat.le_of_ble_eq_true rfl)
  rw [lg_entry_eq]
  generalize (lg_sl ([.ref y, .int p0, .int p1]) ++ List.replicate (3 - (lg_sl ([.ref y, .int p0, .int p1])).length) Slot.unset).toArray = ls at hl ⊢
  have hl : lv_has ls 3 [(0, .ref y), (1, .int p0), (2, .int p1)] := hl
  have hH0 : s.heap.size ≤ s.heap.size := Nat.le_refl _
  refine lv_aload_n hx hb dX2_crash_0 rfl (lv_at hl 0 rfl) ?_
  refine lv_iconst (v := 0) hx hb dX2_crash_1 (by decide) ?_
  refine va_put (D := (dC, dI)) (ci := 3) (v := .int 0) (ty := .int) (C := RX2) (T := TX2) (N := 13) hx hb hts (by decide +kernel) tyX2 tyX2_ok nmX2 hown hK hP hD hS 0 rfl rfl 0 (by decide) (hts (.fieldLink RX2 32 "ThreeFilesModel" "thrown" "I") (by decide +kernel)) (fun _ h9 => h9) rfl (by decide +kernel) rfl rfl (Nat.le_of_ble_eq_true rfl) dX2_crash_2 (fun H locs hP hD hS => ?_)
  have hP : va_P (dC, dI) vwCl [(y, .inr (3, [.int 0, .int pv, .ref mb, .ref mz, .ref ob, .ref oz, .int 0, .int 0, .int 0, .ref fd, .ref md, .int 0, .int 0])), (mz, .inl (kz, 3, .inl (fun _ => 0)))] H := hP
  have hD : va_D A [(y, .inr (3, [.int 0, .int pv, .ref mb, .ref mz, .ref ob, .ref oz, .int 0, .int 0, .int 0, .ref fd, .ref md, .int 0, .int 0])), (mz, .inl (kz, 3, .inl (fun _ => 0)))] := hD
  refine lv_iload_n hx hb dX2_crash_5 rfl (lv_at hl 1 rfl) ?_
  refine lv_iconst (v := 0) hx hb dX2_crash_6 (by decide) ?_
  refine lv_iconst (v := 2) hx hb dX2_crash_7 (by decide) ?_
  have hPc := hP.sub (ws' := []) [] rfl
  have hKc := hK.sub (tys' := []) [] rfl
  refine vp_callSi ((va_runS (As := [.int p0, .int 0, .int 2]) (rest := []) ⟨hx, hb, hml, hown, hts⟩ (m_in l dC dI p0 0 2) (va_cwS 3 hts gX2_crash_X2_in rfl rfl rfl (by decide +kernel) ⟨Nat.le_of_ble_eq_true rfl, Nat.le_of_ble_eq_true rfl⟩) ⟨fun a U g mk q => by obtain ⟨q0, qP, qK⟩ := q; exact ⟨q0, qP, va_K.moved (u := U) (U := U.calling g mk a) (Vm.Alike.refl U.vm) qK⟩, fun U hU hW => ⟨rfl, by rw [hU]; exact hPc, va_K.moved hW.alike hKc⟩⟩ rfl rfl hl.1 rfl (lv_room (Nat.le_of_ble_eq_true rfl)) dX2_crash_8 ⟨Nat.le_of_ble_eq_true rfl, Nat.le_of_ble_eq_true rfl⟩)).run (fun r_1 hq_1 => ?_)
  rcases hq_1 with ⟨rfl, hf_1⟩ | ⟨rfl, hf_1⟩
  ·
    rcases q_in2 hf_1 with rfl | rfl | rfl
    ·
      refine lv_if_eq (tgt := 28) hx hb dX2_crash_11 (by decide) (fun c11_2 => ?_) (fun c11_2 => ?_)
      · exact absurd c11_2 (by decide)
      ·
        refine lv_iload_n hx hb dX2_crash_14 rfl (lv_at hl 2 rfl) ?_
        refine lv_if_lt (tgt := 28) hx hb dX2_crash_15 (by decide) (fun c15_3 => ?_) (fun c15_3 => ?_)
        ·
          refine lv_iconst (v := 0) hx hb dX2_crash_28 (by decide) ?_
          exact W.zret (ty := .boolean) (v := 0) hx hb hr rfl (fun t ht hW => ⟨⟨0, (), rfl, rfl, trivial⟩, hS.F ht⟩) hS.2.2 dX2_crash_29
        ·
          refine lv_iload_n hx hb dX2_crash_18 rfl (lv_at hl 2 rfl) ?_
          refine lv_aload_n hx hb dX2_crash_19 rfl (lv_at hl 0 rfl) ?_
          refine va_get (D := (dC, dI)) (ci := 3) (v := .ref mz) (C := RX2) (T := TX2) (N := 13) hx hb hts (by decide +kernel) hown hK hP 0 rfl rfl 3 (by decide) (hts (.fieldLink RX2 13 "ThreeFilesModel" "sizes" "[I") (by decide +kernel)) (fun _ h9 => h9) rfl dX2_crash_20 ?_
          refine lv_iload_n hx hb dX2_crash_23 rfl (lv_at hl 1 rfl) ?_
          refine va_iald hx hb hK hP 1 0 rfl rfl (i := 0) (by unfold vp_in; decide) dX2_crash_24 ?_
          refine W.eq (g2 := F0 m 25 ls [.int 0, .int p1]) (by rfl) ?_
          refine lv_icmp_lt (tgt := 30) hx hb dX2_crash_25 (by decide) (fun c25_4 => ?_) (fun c25_4 => ?_)
          · exact absurd c25_4 c15_3
          ·
            refine lv_iconst (v := 0) hx hb dX2_crash_28 (by decide) ?_
            exact W.zret (ty := .boolean) (v := 0) hx hb hr rfl (fun t ht hW => ⟨⟨0, (), rfl, rfl, trivial⟩, hS.F ht⟩) hS.2.2 dX2_crash_29
    ·
      refine lv_if_eq (tgt := 28) hx hb dX2_crash_11 (by decide) (fun c11_5 => ?_) (fun c11_5 => ?_)
      · exact absurd c11_5 (by decide)
      ·
        refine lv_iload_n hx hb dX2_crash_14 rfl (lv_at hl 2 rfl) ?_
        refine lv_if_lt (tgt := 28) hx hb dX2_crash_15 (by decide) (fun c15_6 => ?_) (fun c15_6 => ?_)
        ·
          refine lv_iconst (v := 0) hx hb dX2_crash_28 (by decide) ?_
          exact W.zret (ty := .boolean) (v := 0) hx hb hr rfl (fun t ht hW => ⟨⟨0, (), rfl, rfl, trivial⟩, hS.F ht⟩) hS.2.2 dX2_crash_29
        ·
          refine lv_iload_n hx hb dX2_crash_18 rfl (lv_at hl 2 rfl) ?_
          refine lv_aload_n hx hb dX2_crash_19 rfl (lv_at hl 0 rfl) ?_
          refine va_get (D := (dC, dI)) (ci := 3) (v := .ref mz) (C := RX2) (T := TX2) (N := 13) hx hb hts (by decide +kernel) hown hK hP 0 rfl rfl 3 (by decide) (hts (.fieldLink RX2 13 "ThreeFilesModel" "sizes" "[I") (by decide +kernel)) (fun _ h9 => h9) rfl dX2_crash_20 ?_
          refine lv_iload_n hx hb dX2_crash_23 rfl (lv_at hl 1 rfl) ?_
          refine va_iald hx hb hK hP 1 0 rfl rfl (i := 1) (by unfold vp_in; decide) dX2_crash_24 ?_
          refine W.eq (g2 := F0 m 25 ls [.int 0, .int p1]) (by rfl) ?_
          refine lv_icmp_lt (tgt := 30) hx hb dX2_crash_25 (by decide) (fun c25_7 => ?_) (fun c25_7 => ?_)
          · exact absurd c25_7 c15_6
          ·
            refine lv_iconst (v := 0) hx hb dX2_crash_28 (by decide) ?_
            exact W.zret (ty := .boolean) (v := 0) hx hb hr rfl (fun t ht hW => ⟨⟨0, (), rfl, rfl, trivial⟩, hS.F ht⟩) hS.2.2 dX2_crash_29
    ·
      refine lv_if_eq (tgt := 28) hx hb dX2_crash_11 (by decide) (fun c11_8 => ?_) (fun c11_8 => ?_)
      · exact absurd c11_8 (by decide)
      ·
        refine lv_iload_n hx hb dX2_crash_14 rfl (lv_at hl 2 rfl) ?_
        refine lv_if_lt (tgt := 28) hx hb dX2_crash_15 (by decide) (fun c15_9 => ?_) (fun c15_9 => ?_)
        ·
          refine lv_iconst (v := 0) hx hb dX2_crash_28 (by decide) ?_
          exact W.zret (ty := .boolean) (v := 0) hx hb hr rfl (fun t ht hW => ⟨⟨0, (), rfl, rfl, trivial⟩, hS.F ht⟩) hS.2.2 dX2_crash_29
        ·
          refine lv_iload_n hx hb dX2_crash_18 rfl (lv_at hl 2 rfl) ?_
          refine lv_aload_n hx hb dX2_crash_19 rfl (lv_at hl 0 rfl) ?_
          refine va_get (D := (dC, dI)) (ci := 3) (v := .ref mz) (C := RX2) (T := TX2) (N := 13) hx hb hts (by decide +kernel) hown hK hP 0 rfl rfl 3 (by decide) (hts (.fieldLink RX2 13 "ThreeFilesModel" "sizes" "[I") (by decide +kernel)) (fun _ h9 => h9) rfl dX2_crash_20 ?_
          refine lv_iload_n hx hb dX2_crash_23 rfl (lv_at hl 1 rfl) ?_
          refine va_iald hx hb hK hP 1 0 rfl rfl (i := 2) (by unfold vp_in; decide) dX2_crash_24 ?_
          refine W.eq (g2 := F0 m 25 ls [.int 0, .int p1]) (by rfl) ?_
          refine lv_icmp_lt (tgt := 30) hx hb dX2_crash_25 (by decide) (fun c25_10 => ?_) (fun c25_10 => ?_)
          · exact absurd c25_10 c15_9
          ·
            refine lv_iconst (v := 0) hx hb dX2_crash_28 (by decide) ?_
            exact W.zret (ty := .boolean) (v := 0) hx hb hr rfl (fun t ht hW => ⟨⟨0, (), rfl, rfl, trivial⟩, hS.F ht⟩) hS.2.2 dX2_crash_29
  ·
    refine lv_if_eq (tgt := 28) hx hb dX2_crash_11 (by decide) (fun c11_11 => ?_) (fun c11_11 => ?_)
    ·
      refine lv_iconst (v := 0) hx hb dX2_crash_28 (by decide) ?_
      exact W.zret (ty := .boolean) (v := 0) hx hb hr rfl (fun t ht hW => ⟨⟨0, (), rfl, rfl, trivial⟩, hS.F ht⟩) hS.2.2 dX2_crash_29
    · exact absurd (by decide) c11_11

set_option maxHeartbeats 4000000 in
set_option maxRecDepth 100000 in
theorem m_lose (l : Launch) (dC : Nat → ClassId) (dI : Nat → Nat → Nat) (sz : Nat) (y mb mz ob oz fd md : Nat) (kz : ClassId) (pv th : Int32) (p0 : Int32) : Met l yX2_lose wsX2_lose ({ frames := 1, cells := 0, slots := 0, locals := 22 }) (va_Pc [.ref y, .int p0] (fun U => U.heap.size = sz ∧ va_P (dC, dI) vwCl [(y, .inr (3, [.int th, .int pv, .ref mb, .ref mz, .ref ob, .ref oz, .int 0, .int 0, .int 0, .ref fd, .ref md, .int 0, .int 0])), (mz, .inl (kz, 3, .inl (fun _ => 0)))] U.heap ∧ va_K (dC, dI) vwCl [(kz, .int)] U ∧ va_D (fun _ => True) [(y, .inr (3, [.int th, .int pv, .ref mb, .ref mz, .ref ob, .ref oz, .int 0, .int 0, .int 0, .ref fd, .ref md, .int 0, .int 0])), (mz, .inl (kz, 3, .inl (fun _ => 0)))])) (va_Qi (fun r (_ : Unit) => r = 0) (fun _ _ => True) (va_A [(y, .inr (3, [.int th, .int pv, .ref mb, .ref mz, .ref ob, .ref oz, .int 0, .int 0, .int 0, .ref fd, .ref md, .int 0, .int 0])), (mz, .inl (kz, 3, .inl (fun _ => 0)))] sz)) 0 0 (va_A [(y, .inr (3, [.int th, .int pv, .ref mb, .ref mz, .ref ob, .ref oz, .int 0, .int 0, .int 0, .ref fd, .ref md, .int 0, .int 0])), (mz, .inl (kz, 3, .inl (fun _ => 0)))] sz) := by
  refine Met.ofW (cc := cX2_lose) (maxL := 2) (ret := (some .boolean)) (by decide) rfl ?_
  intro p e s m args below meth c s₁ B hml hv
  obtain ⟨rfl, hsz, hP, hK, hD0⟩ := hv
  have hx := B.exec
  have hb := B.bytes
  have hr := B.returns
  have hts := atoms_spec (ws := wsX2_lose) B.pre
  have hown : s.vm.findClass RX2 = some m.cls := findClass_of_methodNamed B.named
  have hlocks := B.notSynchronized
  subst hsz
  have hD := hD0.self (sz := s.heap.size)
  generalize hAe : va_A [(y, .inr (3, [.int th, .int pv, .ref mb, .ref mz, .ref ob, .ref oz, .int 0, .int 0, .int 0, .ref fd, .ref md, .int 0, .int 0])), (mz, .inl (kz, 3, .inl (fun _ => 0)))] s.heap.size = A at hD ⊢
  have hA : ∀ q : Nat, s.heap.size ≤ q → A q := fun q h => by rw [← hAe]; exact Or.inr h
  have hS : va_S A s.heap s.heap [] := va_S.rf
  have hP : va_P (dC, dI) vwCl [(y, .inr (3, [.int th, .int pv, .ref mb, .ref mz, .ref ob, .ref oz, .int 0, .int 0, .int 0, .ref fd, .ref md, .int 0, .int 0])), (mz, .inl (kz, 3, .inl (fun _ => 0)))] s.heap := hP
  have hl := lv_entry ([.ref y, .int p0]) (n := 2) (Nat.le_of_ble_eq_true rfl)
  rw [lg_entry_eq]
  generalize (lg_sl ([.ref y, .int p0]) ++ List.replicate (2 - (lg_sl ([.ref y, .int p0])).length) Slot.unset).toArray = ls at hl ⊢
  have hl : lv_has ls 2 [(0, .ref y), (1, .int p0)] := hl
  have hH0 : s.heap.size ≤ s.heap.size := Nat.le_refl _
  refine lv_aload_n hx hb dX2_lose_0 rfl (lv_at hl 0 rfl) ?_
  refine lv_iconst (v := 0) hx hb dX2_lose_1 (by decide) ?_
  refine va_put (D := (dC, dI)) (ci := 3) (v := .int 0) (ty := .int) (C := RX2) (T := TX2) (N := 13) hx hb hts (by decide +kernel) tyX2 tyX2_ok nmX2 hown hK hP hD hS 0 rfl rfl 0 (by decide) (hts (.fieldLink RX2 32 "ThreeFilesModel" "thrown" "I") (by decide +kernel)) (fun _ h9 => h9) rfl (by decide +kernel) rfl rfl (Nat.le_of_ble_eq_true rfl) dX2_lose_2 (fun H locs hP hD hS => ?_)
  have hP : va_P (dC, dI) vwCl [(y, .inr (3, [.int 0, .int pv, .ref mb, .ref mz, .ref ob, .ref oz, .int 0, .int 0, .int 0, .ref fd, .ref md, .int 0, .int 0])), (mz, .inl (kz, 3, .inl (fun _ => 0)))] H := hP
  have hD : va_D A [(y, .inr (3, [.int 0, .int pv, .ref mb, .ref mz, .ref ob, .ref oz, .int 0, .int 0, .int 0, .ref fd, .ref md, .int 0, .int 0])), (mz, .inl (kz, 3, .inl (fun _ => 0)))] := hD
  refine lv_iload_n hx hb dX2_lose_5 rfl (lv_at hl 1 rfl) ?_
  refine lv_iconst (v := 0) hx hb dX2_lose_6 (by decide) ?_
  refine lv_iconst (v := 2) hx hb dX2_lose_7 (by decide) ?_
  have hPc := hP.sub (ws' := []) [] rfl
  have hKc := hK.sub (tys' := []) [] rfl
  refine vp_callSi ((va_runS (As := [.int p0, .int 0, .int 2]) (rest := []) ⟨hx, hb, hml, hown, hts⟩ (m_in l dC dI p0 0 2) (va_cwS 3 hts gX2_lose_X2_in rfl rfl rfl (by decide +kernel) ⟨Nat.le_of_ble_eq_true rfl, Nat.le_of_ble_eq_true rfl⟩) ⟨fun a U g mk q => by obtain ⟨q0, qP, qK⟩ := q; exact ⟨q0, qP, va_K.moved (u := U) (U := U.calling g mk a) (Vm.Alike.refl U.vm) qK⟩, fun U hU hW => ⟨rfl, by rw [hU]; exact hPc, va_K.moved hW.alike hKc⟩⟩ rfl rfl hl.1 rfl (lv_room (Nat.le_of_ble_eq_true rfl)) dX2_lose_8 ⟨Nat.le_of_ble_eq_true rfl, Nat.le_of_ble_eq_true rfl⟩)).run (fun r_1 hq_1 => ?_)
  rcases hq_1 with ⟨rfl, hf_1⟩ | ⟨rfl, hf_1⟩
  ·
    rcases q_in2 hf_1 with rfl | rfl | rfl
    ·
      refine lv_if_eq (tgt := 23) hx hb dX2_lose_11 (by decide) (fun c11_2 => ?_) (fun c11_2 => ?_)
      · exact absurd c11_2 (by decide)
      ·
        refine lv_aload_n hx hb dX2_lose_14 rfl (lv_at hl 0 rfl) ?_
        refine va_get (D := (dC, dI)) (ci := 3) (v := .ref mz) (C := RX2) (T := TX2) (N := 13) hx hb hts (by decide +kernel) hown hK hP 0 rfl rfl 3 (by decide) (hts (.fieldLink RX2 13 "ThreeFilesModel" "sizes" "[I") (by decide +kernel)) (fun _ h9 => h9) rfl dX2_lose_15 ?_
        refine lv_iload_n hx hb dX2_lose_18 rfl (lv_at hl 1 rfl) ?_
        refine va_iald hx hb hK hP 1 0 rfl rfl (i := 0) (by unfold vp_in; decide) dX2_lose_19 ?_
        refine W.eq (g2 := F0 m 20 ls [.int 0]) (by rfl) ?_
        refine lv_if_ne (tgt := 25) hx hb dX2_lose_20 (by decide) (fun c20_3 => ?_) (fun c20_3 => ?_)
        · exact absurd (by decide) c20_3
        ·
          refine lv_iconst (v := 0) hx hb dX2_lose_23 (by decide) ?_
          exact W.zret (ty := .boolean) (v := 0) hx hb hr rfl (fun t ht hW => ⟨⟨0, (), rfl, rfl, trivial⟩, hS.F ht⟩) hS.2.2 dX2_lose_24
    ·
      refine lv_if_eq (tgt := 23) hx hb dX2_lose_11 (by decide) (fun c11_4 => ?_) (fun c11_4 => ?_)
      · exact absurd c11_4 (by decide)
      ·
        refine lv_aload_n hx hb dX2_lose_14 rfl (lv_at hl 0 rfl) ?_
        refine va_get (D := (dC, dI)) (ci := 3) (v := .ref mz) (C := RX2) (T := TX2) (N := 13) hx hb hts (by decide +kernel) hown hK hP 0 rfl rfl 3 (by decide) (hts (.fieldLink RX2 13 "ThreeFilesModel" "sizes" "[I") (by decide +kernel)) (fun _ h9 => h9) rfl dX2_lose_15 ?_
        refine lv_iload_n hx hb dX2_lose_18 rfl (lv_at hl 1 rfl) ?_
        refine va_iald hx hb hK hP 1 0 rfl rfl (i := 1) (by unfold vp_in; decide) dX2_lose_19 ?_
        refine W.eq (g2 := F0 m 20 ls [.int 0]) (by rfl) ?_
        refine lv_if_ne (tgt := 25) hx hb dX2_lose_20 (by decide) (fun c20_5 => ?_) (fun c20_5 => ?_)
        · exact absurd (by decide) c20_5
        ·
          refine lv_iconst (v := 0) hx hb dX2_lose_23 (by decide) ?_
          exact W.zret (ty := .boolean) (v := 0) hx hb hr rfl (fun t ht hW => ⟨⟨0, (), rfl, rfl, trivial⟩, hS.F ht⟩) hS.2.2 dX2_lose_24
    ·
      refine lv_if_eq (tgt := 23) hx hb dX2_lose_11 (by decide) (fun c11_6 => ?_) (fun c11_6 => ?_)
      · exact absurd c11_6 (by decide)
      ·
        refine lv_aload_n hx hb dX2_lose_14 rfl (lv_at hl 0 rfl) ?_
        refine va_get (D := (dC, dI)) (ci := 3) (v := .ref mz) (C := RX2) (T := TX2) (N := 13) hx hb hts (by decide +kernel) hown hK hP 0 rfl rfl 3 (by decide) (hts (.fieldLink RX2 13 "ThreeFilesModel" "sizes" "[I") (by decide +kernel)) (fun _ h9 => h9) rfl dX2_lose_15 ?_
        refine lv_iload_n hx hb dX2_lose_18 rfl (lv_at hl 1 rfl) ?_
        refine va_iald hx hb hK hP 1 0 rfl rfl (i := 2) (by unfold vp_in; decide) dX2_lose_19 ?_
        refine W.eq (g2 := F0 m 20 ls [.int 0]) (by rfl) ?_
        refine lv_if_ne (tgt := 25) hx hb dX2_lose_20 (by decide) (fun c20_7 => ?_) (fun c20_7 => ?_)
        · exact absurd (by decide) c20_7
        ·
          refine lv_iconst (v := 0) hx hb dX2_lose_23 (by decide) ?_
          exact W.zret (ty := .boolean) (v := 0) hx hb hr rfl (fun t ht hW => ⟨⟨0, (), rfl, rfl, trivial⟩, hS.F ht⟩) hS.2.2 dX2_lose_24
  ·
    refine lv_if_eq (tgt := 23) hx hb dX2_lose_11 (by decide) (fun c11_8 => ?_) (fun c11_8 => ?_)
    ·
      refine lv_iconst (v := 0) hx hb dX2_lose_23 (by decide) ?_
      exact W.zret (ty := .boolean) (v := 0) hx hb hr rfl (fun t ht hW => ⟨⟨0, (), rfl, rfl, trivial⟩, hS.F ht⟩) hS.2.2 dX2_lose_24
    · exact absurd (by decide) c11_8

set_option maxHeartbeats 4000000 in
set_option maxRecDepth 100000 in
theorem m_poke (l : Launch) (dC : Nat → ClassId) (dI : Nat → Nat → Nat) (sz : Nat) (y mb mz ob oz fd md : Nat) (kz : ClassId) (pv th : Int32) (p0 : Int32) (p1 : Int32) (p2 : Int32) : Met l yX2_poke wsX2_poke ({ frames := 1, cells := 0, slots := 0, locals := 22 }) (va_Pc [.ref y, .int p0, .int p1, .int p2] (fun U => U.heap.size = sz ∧ va_P (dC, dI) vwCl [(y, .inr (3, [.int th, .int pv, .ref mb, .ref mz, .ref ob, .ref oz, .int 0, .int 0, .int 0, .ref fd, .ref md, .int 0, .int 0])), (mz, .inl (kz, 3, .inl (fun _ => 0)))] U.heap ∧ va_K (dC, dI) vwCl [(kz, .int)] U ∧ va_D (fun _ => True) [(y, .inr (3, [.int th, .int pv, .ref mb, .ref mz, .ref ob, .ref oz, .int 0, .int 0, .int 0, .ref fd, .ref md, .int 0, .int 0])), (mz, .inl (kz, 3, .inl (fun _ => 0)))])) (va_Qi (fun r (_ : Unit) => r = 0) (fun _ _ => True) (va_A [(y, .inr (3, [.int th, .int pv, .ref mb, .ref mz, .ref ob, .ref oz, .int 0, .int 0, .int 0, .ref fd, .ref md, .int 0, .int 0])), (mz, .inl (kz, 3, .inl (fun _ => 0)))] sz)) 0 0 (va_A [(y, .inr (3, [.int th, .int pv, .ref mb, .ref mz, .ref ob, .ref oz, .int 0, .int 0, .int 0, .ref fd, .ref md, .int 0, .int 0])), (mz, .inl (kz, 3, .inl (fun _ => 0)))] sz) := by
  refine Met.ofW (cc := cX2_poke) (maxL := 4) (ret := (some .boolean)) (by decide) rfl ?_
  intro p e s m args below meth c s₁ B hml hv
  obtain ⟨rfl, hsz, hP, hK, hD0⟩ := hv
  have hx := B.exec
  have hb := B.bytes
  have hr := B.returns
  have hts := atoms_spec (ws := wsX2_poke) B.pre
  have hown : s.vm.findClass RX2 = some m.cls := findClass_of_methodNamed B.named
  have hlocks := B.notSynchronized
  subst hsz
  have hD := hD0.self (sz := s.heap.size)
  generalize hAe : va_A [(y, .inr (3, [.int th, .int pv, .ref mb, .ref mz, .ref ob, .ref oz, .int 0, .int 0, .int 0, .ref fd, .ref md, .int 0, .int 0])), (mz, .inl (kz, 3, .inl (fun _ => 0)))] s.heap.size = A at hD ⊢
  have hA : ∀ q : Nat, s.heap.size ≤ q → A q := fun q h => by rw [← hAe]; exact Or.inr h
  have hS : va_S A s.heap s.heap [] := va_S.rf
  have hP : va_P (dC, dI) vwCl [(y, .inr (3, [.int th, .int pv, .ref mb, .ref mz, .ref ob, .ref oz, .int 0, .int 0, .int 0, .ref fd, .ref md, .int 0, .int 0])), (mz, .inl (kz, 3, .inl (fun _ => 0)))] s.heap := hP
  have hl := lv_entry ([.ref y, .int p0, .int p1, .int p2]) (n := 4) (Nat.le_of_ble_eq_true rfl)
  rw [lg_entry_eq]
  generalize (lg_sl ([.ref y, .int p0, .int p1, .int p2]) ++ List.replicate (4 - (lg_sl ([.ref y, .int p0, .int p1, .int p2])).length) Slot.unset).toArray = ls at hl ⊢
  have hl : lv_has ls 4 [(0, .ref y), (1, .int p0), (2, .int p1), (3, .int p2)] := hl
  have hH0 : s.heap.size ≤ s.heap.size := Nat.le_refl _
  refine lv_aload_n hx hb dX2_poke_0 rfl (lv_at hl 0 rfl) ?_
  refine lv_iconst (v := 0) hx hb dX2_poke_1 (by decide) ?_
  refine va_put (D := (dC, dI)) (ci := 3) (v := .int 0) (ty := .int) (C := RX2) (T := TX2) (N := 13) hx hb hts (by decide +kernel) tyX2 tyX2_ok nmX2 hown hK hP hD hS 0 rfl rfl 0 (by decide) (hts (.fieldLink RX2 32 "ThreeFilesModel" "thrown" "I") (by decide +kernel)) (fun _ h9 => h9) rfl (by decide +kernel) rfl rfl (Nat.le_of_ble_eq_true rfl) dX2_poke_2 (fun H locs hP hD hS => ?_)
  have hP : va_P (dC, dI) vwCl [(y, .inr (3, [.int 0, .int pv, .ref mb, .ref mz, .ref ob, .ref oz, .int 0, .int 0, .int 0, .ref fd, .ref md, .int 0, .int 0])), (mz, .inl (kz, 3, .inl (fun _ => 0)))] H := hP
  have hD : va_D A [(y, .inr (3, [.int 0, .int pv, .ref mb, .ref mz, .ref ob, .ref oz, .int 0, .int 0, .int 0, .ref fd, .ref md, .int 0, .int 0])), (mz, .inl (kz, 3, .inl (fun _ => 0)))] := hD
  refine lv_iload_n hx hb dX2_poke_5 rfl (lv_at hl 1 rfl) ?_
  refine lv_iconst (v := 0) hx hb dX2_poke_6 (by decide) ?_
  refine lv_iconst (v := 2) hx hb dX2_poke_7 (by decide) ?_
  have hPc := hP.sub (ws' := []) [] rfl
  have hKc := hK.sub (tys' := []) [] rfl
  refine vp_callSi ((va_runS (As := [.int p0, .int 0, .int 2]) (rest := []) ⟨hx, hb, hml, hown, hts⟩ (m_in l dC dI p0 0 2) (va_cwS 3 hts gX2_poke_X2_in rfl rfl rfl (by decide +kernel) ⟨Nat.le_of_ble_eq_true rfl, Nat.le_of_ble_eq_true rfl⟩) ⟨fun a U g mk q => by obtain ⟨q0, qP, qK⟩ := q; exact ⟨q0, qP, va_K.moved (u := U) (U := U.calling g mk a) (Vm.Alike.refl U.vm) qK⟩, fun U hU hW => ⟨rfl, by rw [hU]; exact hPc, va_K.moved hW.alike hKc⟩⟩ rfl rfl hl.1 rfl (lv_room (Nat.le_of_ble_eq_true rfl)) dX2_poke_8 ⟨Nat.le_of_ble_eq_true rfl, Nat.le_of_ble_eq_true rfl⟩)).run (fun r_1 hq_1 => ?_)
  rcases hq_1 with ⟨rfl, hf_1⟩ | ⟨rfl, hf_1⟩
  ·
    rcases q_in2 hf_1 with rfl | rfl | rfl
    ·
      refine lv_if_eq (tgt := 39) hx hb dX2_poke_11 (by decide) (fun c11_2 => ?_) (fun c11_2 => ?_)
      · exact absurd c11_2 (by decide)
      ·
        refine lv_iload_n hx hb dX2_poke_14 rfl (lv_at hl 3 rfl) ?_
        refine lv_iconst (v := 1) hx hb dX2_poke_15 (by decide) ?_
        refine lv_sipush (v := 255) hx hb dX2_poke_16 (by decide) ?_
        have hPc := hP.sub (ws' := []) [] rfl
        have hKc := hK.sub (tys' := []) [] rfl
        refine vp_callSi ((va_runS (As := [.int p2, .int 1, .int 255]) (rest := []) ⟨hx, hb, hml, hown, hts⟩ (m_in l dC dI p2 1 255) (va_cwS 3 hts gX2_poke_X2_in rfl rfl rfl (by decide +kernel) ⟨Nat.le_of_ble_eq_true rfl, Nat.le_of_ble_eq_true rfl⟩) ⟨fun a U g mk q => by obtain ⟨q0, qP, qK⟩ := q; exact ⟨q0, qP, va_K.moved (u := U) (U := U.calling g mk a) (Vm.Alike.refl U.vm) qK⟩, fun U hU hW => ⟨rfl, by rw [hU]; exact hPc, va_K.moved hW.alike hKc⟩⟩ rfl rfl hl.1 rfl (lv_room (Nat.le_of_ble_eq_true rfl)) dX2_poke_19 ⟨Nat.le_of_ble_eq_true rfl, Nat.le_of_ble_eq_true rfl⟩)).run (fun r_3 hq_3 => ?_)
        rcases hq_3 with ⟨rfl, hf_3⟩ | ⟨rfl, hf_3⟩
        ·
          refine lv_if_eq (tgt := 39) hx hb dX2_poke_22 (by decide) (fun c22_4 => ?_) (fun c22_4 => ?_)
          · exact absurd c22_4 (by decide)
          ·
            refine lv_iload_n hx hb dX2_poke_25 rfl (lv_at hl 2 rfl) ?_
            refine lv_if_lt (tgt := 39) hx hb dX2_poke_26 (by decide) (fun c26_5 => ?_) (fun c26_5 => ?_)
            ·
              refine lv_iconst (v := 0) hx hb dX2_poke_39 (by decide) ?_
              exact W.zret (ty := .boolean) (v := 0) hx hb hr rfl (fun t ht hW => ⟨⟨0, (), rfl, rfl, trivial⟩, hS.F ht⟩) hS.2.2 dX2_poke_40
            ·
              refine lv_iload_n hx hb dX2_poke_29 rfl (lv_at hl 2 rfl) ?_
              refine lv_aload_n hx hb dX2_poke_30 rfl (lv_at hl 0 rfl) ?_
              refine va_get (D := (dC, dI)) (ci := 3) (v := .ref mz) (C := RX2) (T := TX2) (N := 13) hx hb hts (by decide +kernel) hown hK hP 0 rfl rfl 3 (by decide) (hts (.fieldLink RX2 13 "ThreeFilesModel" "sizes" "[I") (by decide +kernel)) (fun _ h9 => h9) rfl dX2_poke_31 ?_
              refine lv_iload_n hx hb dX2_poke_34 rfl (lv_at hl 1 rfl) ?_
              refine va_iald hx hb hK hP 1 0 rfl rfl (i := 0) (by unfold vp_in; decide) dX2_poke_35 ?_
              refine W.eq (g2 := F0 m 36 ls [.int 0, .int p1]) (by rfl) ?_
              refine lv_icmp_lt (tgt := 41) hx hb dX2_poke_36 (by decide) (fun c36_6 => ?_) (fun c36_6 => ?_)
              · exact absurd c36_6 c26_5
              ·
                refine lv_iconst (v := 0) hx hb dX2_poke_39 (by decide) ?_
                exact W.zret (ty := .boolean) (v := 0) hx hb hr rfl (fun t ht hW => ⟨⟨0, (), rfl, rfl, trivial⟩, hS.F ht⟩) hS.2.2 dX2_poke_40
        ·
          refine lv_if_eq (tgt := 39) hx hb dX2_poke_22 (by decide) (fun c22_7 => ?_) (fun c22_7 => ?_)
          ·
            refine lv_iconst (v := 0) hx hb dX2_poke_39 (by decide) ?_
            exact W.zret (ty := .boolean) (v := 0) hx hb hr rfl (fun t ht hW => ⟨⟨0, (), rfl, rfl, trivial⟩, hS.F ht⟩) hS.2.2 dX2_poke_40
          · exact absurd (by decide) c22_7
    ·
      refine lv_if_eq (tgt := 39) hx hb dX2_poke_11 (by decide) (fun c11_8 => ?_) (fun c11_8 => ?_)
      · exact absurd c11_8 (by decide)
      ·
        refine lv_iload_n hx hb dX2_poke_14 rfl (lv_at hl 3 rfl) ?_
        refine lv_iconst (v := 1) hx hb dX2_poke_15 (by decide) ?_
        refine lv_sipush (v := 255) hx hb dX2_poke_16 (by decide) ?_
        have hPc := hP.sub (ws' := []) [] rfl
        have hKc := hK.sub (tys' := []) [] rfl
        refine vp_callSi ((va_runS (As := [.int p2, .int 1, .int 255]) (rest := []) ⟨hx, hb, hml, hown, hts⟩ (m_in l dC dI p2 1 255) (va_cwS 3 hts gX2_poke_X2_in rfl rfl rfl (by decide +kernel) ⟨Nat.le_of_ble_eq_true rfl, Nat.le_of_ble_eq_true rfl⟩) ⟨fun a U g mk q => by obtain ⟨q0, qP, qK⟩ := q; exact ⟨q0, qP, va_K.moved (u := U) (U := U.calling g mk a) (Vm.Alike.refl U.vm) qK⟩, fun U hU hW => ⟨rfl, by rw [hU]; exact hPc, va_K.moved hW.alike hKc⟩⟩ rfl rfl hl.1 rfl (lv_room (Nat.le_of_ble_eq_true rfl)) dX2_poke_19 ⟨Nat.le_of_ble_eq_true rfl, Nat.le_of_ble_eq_true rfl⟩)).run (fun r_9 hq_9 => ?_)
        rcases hq_9 with ⟨rfl, hf_9⟩ | ⟨rfl, hf_9⟩
        ·
          refine lv_if_eq (tgt := 39) hx hb dX2_poke_22 (by decide) (fun c22_10 => ?_) (fun c22_10 => ?_)
          · exact absurd c22_10 (by decide)
          ·
            refine lv_iload_n hx hb dX2_poke_25 rfl (lv_at hl 2 rfl) ?_
            refine lv_if_lt (tgt := 39) hx hb dX2_poke_26 (by decide) (fun c26_11 => ?_) (fun c26_11 => ?_)
            ·
              refine lv_iconst (v := 0) hx hb dX2_poke_39 (by decide) ?_
              exact W.zret (ty := .boolean) (v := 0) hx hb hr rfl (fun t ht hW => ⟨⟨0, (), rfl, rfl, trivial⟩, hS.F ht⟩) hS.2.2 dX2_poke_40
            ·
              refine lv_iload_n hx hb dX2_poke_29 rfl (lv_at hl 2 rfl) ?_
              refine lv_aload_n hx hb dX2_poke_30 rfl (lv_at hl 0 rfl) ?_
              refine va_get (D := (dC, dI)) (ci := 3) (v := .ref mz) (C := RX2) (T := TX2) (N := 13) hx hb hts (by decide +kernel) hown hK hP 0 rfl rfl 3 (by decide) (hts (.fieldLink RX2 13 "ThreeFilesModel" "sizes" "[I") (by decide +kernel)) (fun _ h9 => h9) rfl dX2_poke_31 ?_
              refine lv_iload_n hx hb dX2_poke_34 rfl (lv_at hl 1 rfl) ?_
              refine va_iald hx hb hK hP 1 0 rfl rfl (i := 1) (by unfold vp_in; decide) dX2_poke_35 ?_
              refine W.eq (g2 := F0 m 36 ls [.int 0, .int p1]) (by rfl) ?_
              refine lv_icmp_lt (tgt := 41) hx hb dX2_poke_36 (by decide) (fun c36_12 => ?_) (fun c36_12 => ?_)
              · exact absurd c36_12 c26_11
              ·
                refine lv_iconst (v := 0) hx hb dX2_poke_39 (by decide) ?_
                exact W.zret (ty := .boolean) (v := 0) hx hb hr rfl (fun t ht hW => ⟨⟨0, (), rfl, rfl, trivial⟩, hS.F ht⟩) hS.2.2 dX2_poke_40
        ·
          refine lv_if_eq (tgt := 39) hx hb dX2_poke_22 (by decide) (fun c22_13 => ?_) (fun c22_13 => ?_)
          ·
            refine lv_iconst (v := 0) hx hb dX2_poke_39 (by decide) ?_
            exact W.zret (ty := .boolean) (v := 0) hx hb hr rfl (fun t ht hW => ⟨⟨0, (), rfl, rfl, trivial⟩, hS.F ht⟩) hS.2.2 dX2_poke_40
          · exact absurd (by decide) c22_13
    ·
      refine lv_if_eq (tgt := 39) hx hb dX2_poke_11 (by decide) (fun c11_14 => ?_) (fun c11_14 => ?_)
      · exact absurd c11_14 (by decide)
      ·
        refine lv_iload_n hx hb dX2_poke_14 rfl (lv_at hl 3 rfl) ?_
        refine lv_iconst (v := 1) hx hb dX2_poke_15 (by decide) ?_
        refine lv_sipush (v := 255) hx hb dX2_poke_16 (by decide) ?_
        have hPc := hP.sub (ws' := []) [] rfl
        have hKc := hK.sub (tys' := []) [] rfl
        refine vp_callSi ((va_runS (As := [.int p2, .int 1, .int 255]) (rest := []) ⟨hx, hb, hml, hown, hts⟩ (m_in l dC dI p2 1 255) (va_cwS 3 hts gX2_poke_X2_in rfl rfl rfl (by decide +kernel) ⟨Nat.le_of_ble_eq_true rfl, Nat.le_of_ble_eq_true rfl⟩) ⟨fun a U g mk q => by obtain ⟨q0, qP, qK⟩ := q; exact ⟨q0, qP, va_K.moved (u := U) (U := U.calling g mk a) (Vm.Alike.refl U.vm) qK⟩, fun U hU hW => ⟨rfl, by rw [hU]; exact hPc, va_K.moved hW.alike hKc⟩⟩ rfl rfl hl.1 rfl (lv_room (Nat.le_of_ble_eq_true rfl)) dX2_poke_19 ⟨Nat.le_of_ble_eq_true rfl, Nat.le_of_ble_eq_true rfl⟩)).run (fun r_15 hq_15 => ?_)
        rcases hq_15 with ⟨rfl, hf_15⟩ | ⟨rfl, hf_15⟩
        ·
          refine lv_if_eq (tgt := 39) hx hb dX2_poke_22 (by decide) (fun c22_16 => ?_) (fun c22_16 => ?_)
          · exact absurd c22_16 (by decide)
          ·
            refine lv_iload_n hx hb dX2_poke_25 rfl (lv_at hl 2 rfl) ?_
            refine lv_if_lt (tgt := 39) hx hb dX2_poke_26 (by decide) (fun c26_17 => ?_) (fun c26_17 => ?_)
            ·
              refine lv_iconst (v := 0) hx hb dX2_poke_39 (by decide) ?_
              exact W.zret (ty := .boolean) (v := 0) hx hb hr rfl (fun t ht hW => ⟨⟨0, (), rfl, rfl, trivial⟩, hS.F ht⟩) hS.2.2 dX2_poke_40
            ·
              refine lv_iload_n hx hb dX2_poke_29 rfl (lv_at hl 2 rfl) ?_
              refine lv_aload_n hx hb dX2_poke_30 rfl (lv_at hl 0 rfl) ?_
              refine va_get (D := (dC, dI)) (ci := 3) (v := .ref mz) (C := RX2) (T := TX2) (N := 13) hx hb hts (by decide +kernel) hown hK hP 0 rfl rfl 3 (by decide) (hts (.fieldLink RX2 13 "ThreeFilesModel" "sizes" "[I") (by decide +kernel)) (fun _ h9 => h9) rfl dX2_poke_31 ?_
              refine lv_iload_n hx hb dX2_poke_34 rfl (lv_at hl 1 rfl) ?_
              refine va_iald hx hb hK hP 1 0 rfl rfl (i := 2) (by unfold vp_in; decide) dX2_poke_35 ?_
              refine W.eq (g2 := F0 m 36 ls [.int 0, .int p1]) (by rfl) ?_
              refine lv_icmp_lt (tgt := 41) hx hb dX2_poke_36 (by decide) (fun c36_18 => ?_) (fun c36_18 => ?_)
              · exact absurd c36_18 c26_17
              ·
                refine lv_iconst (v := 0) hx hb dX2_poke_39 (by decide) ?_
                exact W.zret (ty := .boolean) (v := 0) hx hb hr rfl (fun t ht hW => ⟨⟨0, (), rfl, rfl, trivial⟩, hS.F ht⟩) hS.2.2 dX2_poke_40
        ·
          refine lv_if_eq (tgt := 39) hx hb dX2_poke_22 (by decide) (fun c22_19 => ?_) (fun c22_19 => ?_)
          ·
            refine lv_iconst (v := 0) hx hb dX2_poke_39 (by decide) ?_
            exact W.zret (ty := .boolean) (v := 0) hx hb hr rfl (fun t ht hW => ⟨⟨0, (), rfl, rfl, trivial⟩, hS.F ht⟩) hS.2.2 dX2_poke_40
          · exact absurd (by decide) c22_19
  ·
    refine lv_if_eq (tgt := 39) hx hb dX2_poke_11 (by decide) (fun c11_20 => ?_) (fun c11_20 => ?_)
    ·
      refine lv_iconst (v := 0) hx hb dX2_poke_39 (by decide) ?_
      exact W.zret (ty := .boolean) (v := 0) hx hb hr rfl (fun t ht hW => ⟨⟨0, (), rfl, rfl, trivial⟩, hS.F ht⟩) hS.2.2 dX2_poke_40
    · exact absurd (by decide) c11_20

set_option maxHeartbeats 4000000 in
set_option maxRecDepth 100000 in
theorem m_reopen (l : Launch) (dC : Nat → ClassId) (dI : Nat → Nat → Nat) (sz : Nat) (y mb mz ob oz fd md : Nat) (kz : ClassId) (pv th : Int32) : Met l yX2_reopen wsX2_reopen ({ frames := 1, cells := 0, slots := 0, locals := 22 }) (va_Pc [.ref y] (fun U => U.heap.size = sz ∧ va_P (dC, dI) vwCl [(y, .inr (3, [.int th, .int pv, .ref mb, .ref mz, .ref ob, .ref oz, .int 0, .int 0, .int 0, .ref fd, .ref md, .int 0, .int 0])), (mz, .inl (kz, 3, .inl (fun _ => 0)))] U.heap ∧ va_K (dC, dI) vwCl [(kz, .int)] U ∧ va_D (fun _ => True) [(y, .inr (3, [.int th, .int pv, .ref mb, .ref mz, .ref ob, .ref oz, .int 0, .int 0, .int 0, .ref fd, .ref md, .int 0, .int 0])), (mz, .inl (kz, 3, .inl (fun _ => 0)))])) (va_Qi (fun r (_ : Unit) => r = 0) (fun _ _ => True) (va_A [(y, .inr (3, [.int th, .int pv, .ref mb, .ref mz, .ref ob, .ref oz, .int 0, .int 0, .int 0, .ref fd, .ref md, .int 0, .int 0])), (mz, .inl (kz, 3, .inl (fun _ => 0)))] sz)) 0 0 (va_A [(y, .inr (3, [.int th, .int pv, .ref mb, .ref mz, .ref ob, .ref oz, .int 0, .int 0, .int 0, .ref fd, .ref md, .int 0, .int 0])), (mz, .inl (kz, 3, .inl (fun _ => 0)))] sz) := by
  refine Met.ofW (cc := cX2_reopen) (maxL := 5) (ret := (some .int)) (by decide) rfl ?_
  intro p e s m args below meth c s₁ B hml hv
  obtain ⟨rfl, hsz, hP, hK, hD0⟩ := hv
  have hx := B.exec
  have hb := B.bytes
  have hr := B.returns
  have hts := atoms_spec (ws := wsX2_reopen) B.pre
  have hown : s.vm.findClass RX2 = some m.cls := findClass_of_methodNamed B.named
  have hlocks := B.notSynchronized
  subst hsz
  have hD := hD0.self (sz := s.heap.size)
  generalize hAe : va_A [(y, .inr (3, [.int th, .int pv, .ref mb, .ref mz, .ref ob, .ref oz, .int 0, .int 0, .int 0, .ref fd, .ref md, .int 0, .int 0])), (mz, .inl (kz, 3, .inl (fun _ => 0)))] s.heap.size = A at hD ⊢
  have hA : ∀ q : Nat, s.heap.size ≤ q → A q := fun q h => by rw [← hAe]; exact Or.inr h
  have hS : va_S A s.heap s.heap [] := va_S.rf
  have hP : va_P (dC, dI) vwCl [(y, .inr (3, [.int th, .int pv, .ref mb, .ref mz, .ref ob, .ref oz, .int 0, .int 0, .int 0, .ref fd, .ref md, .int 0, .int 0])), (mz, .inl (kz, 3, .inl (fun _ => 0)))] s.heap := hP
  have hl := lv_entry ([.ref y]) (n := 5) (Nat.le_of_ble_eq_true rfl)
  rw [lg_entry_eq]
  generalize (lg_sl ([.ref y]) ++ List.replicate (5 - (lg_sl ([.ref y])).length) Slot.unset).toArray = ls at hl ⊢
  have hl : lv_has ls 5 [(0, .ref y)] := hl
  have hH0 : s.heap.size ≤ s.heap.size := Nat.le_refl _
  refine lv_aload_n hx hb dX2_reopen_0 rfl (lv_at hl 0 rfl) ?_
  refine lv_iconst (v := 0) hx hb dX2_reopen_1 (by decide) ?_
  refine va_put (D := (dC, dI)) (ci := 3) (v := .int 0) (ty := .int) (C := RX2) (T := TX2) (N := 13) hx hb hts (by decide +kernel) tyX2 tyX2_ok nmX2 hown hK hP hD hS 0 rfl rfl 0 (by decide) (hts (.fieldLink RX2 32 "ThreeFilesModel" "thrown" "I") (by decide +kernel)) (fun _ h9 => h9) rfl (by decide +kernel) rfl rfl (Nat.le_of_ble_eq_true rfl) dX2_reopen_2 (fun H locs hP hD hS => ?_)
  have hP : va_P (dC, dI) vwCl [(y, .inr (3, [.int 0, .int pv, .ref mb, .ref mz, .ref ob, .ref oz, .int 0, .int 0, .int 0, .ref fd, .ref md, .int 0, .int 0])), (mz, .inl (kz, 3, .inl (fun _ => 0)))] H := hP
  have hD : va_D A [(y, .inr (3, [.int 0, .int pv, .ref mb, .ref mz, .ref ob, .ref oz, .int 0, .int 0, .int 0, .ref fd, .ref md, .int 0, .int 0])), (mz, .inl (kz, 3, .inl (fun _ => 0)))] := hD
  refine lv_aload_n hx hb dX2_reopen_5 rfl (lv_at hl 0 rfl) ?_
  have hPc := hP.sub (ws' := [(y, .inr (3, [.int 0, .int pv, .ref mb, .ref mz, .ref ob, .ref oz, .int 0, .int 0, .int 0, .ref fd, .ref md, .int 0, .int 0])), (mz, .inl (kz, 3, .inl (fun _ => 0)))]) [0, 1] rfl
  have hKc := hK.sub (tys' := [(kz, .int)]) [0] rfl
  refine vp_callSi ((va_runV (As := []) (rest := []) ⟨hx, hb, hml, hown, hts⟩ (m_stripes l dC dI y mb mz ob oz fd md kz pv 0) (cwV 0 hts gX2_reopen_X2_stripes rfl rfl rfl (by decide +kernel) ⟨Nat.le_of_ble_eq_true rfl, Nat.le_of_ble_eq_true rfl⟩) ⟨fun a U g mk q => by obtain ⟨q0, qP, qK⟩ := q; exact ⟨q0, qP, va_K.moved (u := U) (U := U.calling g mk a) (Vm.Alike.refl U.vm) qK⟩, va_recv hKc hPc (ci := 3) (q0 := 0) rfl rfl, fun U hU hW => ⟨rfl, by rw [hU]; exact hPc, va_K.moved hW.alike hKc⟩⟩ rfl rfl hl.1 rfl (lv_room (Nat.le_of_ble_eq_true rfl)) dX2_reopen_6 ⟨Nat.le_of_ble_eq_true rfl, Nat.le_of_ble_eq_true rfl⟩)).run (fun r_1 hq_1 => ?_)
  obtain rfl : r_1 = 0 := hq_1
  refine lv_istore_n (lv' := [(1, .int 0), (0, .ref y)]) hx hb dX2_reopen_9 rfl hl (by decide) rfl (fun ls hl => ?_)
  refine lv_iconst (v := 0) hx hb dX2_reopen_10 (by decide) ?_
  refine lv_istore_n (lv' := [(2, .int 0), (1, .int 0), (0, .ref y)]) hx hb dX2_reopen_11 rfl hl (by decide) rfl (fun ls hl => ?_)
  refine lv_iload_n hx hb dX2_reopen_12 rfl (lv_at hl 0 rfl) ?_
  refine lv_iload_n hx hb dX2_reopen_13 rfl (lv_at hl 1 rfl) ?_
  refine lv_icmp_ge (tgt := 44) hx hb dX2_reopen_14 (by decide) (fun c14_2 => ?_) (fun c14_2 => ?_)
  ·
    refine lv_iconst (v := 0) hx hb dX2_reopen_44 (by decide) ?_
    refine lv_istore_n (lv' := [(2, .int 0), (1, .int 0), (0, .ref y)]) hx hb dX2_reopen_45 rfl hl (by decide) rfl (fun ls hl => ?_)
    refine lv_iload_n hx hb dX2_reopen_46 rfl (lv_at hl 0 rfl) ?_
    refine lv_iconst (v := 3) hx hb dX2_reopen_47 (by decide) ?_
    refine lv_icmp_ge (tgt := 101) hx hb dX2_reopen_48 (by decide) (fun c48_3 => ?_) (fun c48_3 => ?_)
    · exact absurd c48_3 (by decide)
    ·
      refine lv_aload_n hx hb dX2_reopen_51 rfl (lv_at hl 2 rfl) ?_
      refine va_get (D := (dC, dI)) (ci := 3) (v := .ref mz) (C := RX2) (T := TX2) (N := 13) hx hb hts (by decide +kernel) hown hK hP 0 rfl rfl 3 (by decide) (hts (.fieldLink RX2 13 "ThreeFilesModel" "sizes" "[I") (by decide +kernel)) (fun _ h9 => h9) rfl dX2_reopen_52 ?_
      refine lv_iload_n hx hb dX2_reopen_55 rfl (lv_at hl 0 rfl) ?_
      refine va_iald hx hb hK hP 1 0 rfl rfl (i := 0) (by unfold vp_in; decide) dX2_reopen_56 ?_
      refine W.eq (g2 := F0 m 57 ls [.int 0]) (by rfl) ?_
      refine lv_istore_n (lv' := [(3, .int 0), (2, .int 0), (1, .int 0), (0, .ref y)]) hx hb dX2_reopen_57 rfl hl (by decide) rfl (fun ls hl => ?_)
      refine lv_iload_n hx hb dX2_reopen_58 rfl (lv_at hl 0 rfl) ?_
      refine lv_bipush (v := 24) hx hb dX2_reopen_59 (by decide) ?_
      refine lv_iload_n hx hb dX2_reopen_61 rfl (lv_at hl 2 rfl) ?_
      refine lv_imul hx hb dX2_reopen_62 ?_
      refine W.eq (g2 := F0 m 63 ls [.int 0, .int 0]) (by rfl) ?_
      refine lv_icmp_ge (tgt := 85) hx hb dX2_reopen_63 (by decide) (fun c63_4 => ?_) (fun c63_4 => ?_)
      ·
        refine lv_aload_n hx hb dX2_reopen_85 rfl (lv_at hl 3 rfl) ?_
        refine va_get (D := (dC, dI)) (ci := 3) (v := .ref mz) (C := RX2) (T := TX2) (N := 13) hx hb hts (by decide +kernel) hown hK hP 0 rfl rfl 3 (by decide) (hts (.fieldLink RX2 13 "ThreeFilesModel" "sizes" "[I") (by decide +kernel)) (fun _ h9 => h9) rfl dX2_reopen_86 ?_
        refine lv_iload_n hx hb dX2_reopen_89 rfl (lv_at hl 1 rfl) ?_
        refine lv_bipush (v := 24) hx hb dX2_reopen_90 (by decide) ?_
        refine lv_iload_n hx hb dX2_reopen_92 rfl (lv_at hl 2 rfl) ?_
        refine lv_imul hx hb dX2_reopen_93 ?_
        refine W.eq (g2 := F0 m 94 ls [.int 0, .int 0, .ref mz]) (by rfl) ?_
        refine va_iast hx hb hK hP hD hS 1 0 rfl rfl (i := 0) (x := 0) (by unfold vp_in; decide) dX2_reopen_94 (fun H locs hP hD hS => ?_)
        have hP : va_P (dC, dI) vwCl [(y, .inr (3, [.int 0, .int pv, .ref mb, .ref mz, .ref ob, .ref oz, .int 0, .int 0, .int 0, .ref fd, .ref md, .int 0, .int 0])), (mz, .inl (kz, 3, .inl (upd (fun _ => 0) 0 0)))] H := hP
        have hD : va_D A [(y, .inr (3, [.int 0, .int pv, .ref mb, .ref mz, .ref ob, .ref oz, .int 0, .int 0, .int 0, .ref fd, .ref md, .int 0, .int 0])), (mz, .inl (kz, 3, .inl (upd (fun _ => 0) 0 0)))] := hD
        refine lv_iinc (v := 1) (lv' := [(2, .int 1), (3, .int 0), (1, .int 0), (0, .ref y)]) hx hb dX2_reopen_95 hl (k := 1) rfl (by decide) (by decide) rfl (fun ls hl => ?_)
        refine lv_goto (tgt := 46) hx hb dX2_reopen_98 (by decide) ?_
        refine lv_iload_n hx hb dX2_reopen_46 rfl (lv_at hl 0 rfl) ?_
        refine lv_iconst (v := 3) hx hb dX2_reopen_47 (by decide) ?_
        refine lv_icmp_ge (tgt := 101) hx hb dX2_reopen_48 (by decide) (fun c48_5 => ?_) (fun c48_5 => ?_)
        · exact absurd c48_5 (by decide)
        ·
          refine lv_aload_n hx hb dX2_reopen_51 rfl (lv_at hl 3 rfl) ?_
          refine va_get (D := (dC, dI)) (ci := 3) (v := .ref mz) (C := RX2) (T := TX2) (N := 13) hx hb hts (by decide +kernel) hown hK hP 0 rfl rfl 3 (by decide) (hts (.fieldLink RX2 13 "ThreeFilesModel" "sizes" "[I") (by decide +kernel)) (fun _ h9 => h9) rfl dX2_reopen_52 ?_
          refine lv_iload_n hx hb dX2_reopen_55 rfl (lv_at hl 0 rfl) ?_
          refine va_iald hx hb hK hP 1 0 rfl rfl (i := 1) (by unfold vp_in; decide) dX2_reopen_56 ?_
          refine W.eq (g2 := F0 m 57 ls [.int 0]) (by rfl) ?_
          refine lv_istore_n (lv' := [(3, .int 0), (2, .int 1), (1, .int 0), (0, .ref y)]) hx hb dX2_reopen_57 rfl hl (by decide) rfl (fun ls hl => ?_)
          refine lv_iload_n hx hb dX2_reopen_58 rfl (lv_at hl 0 rfl) ?_
          refine lv_bipush (v := 24) hx hb dX2_reopen_59 (by decide) ?_
          refine lv_iload_n hx hb dX2_reopen_61 rfl (lv_at hl 2 rfl) ?_
          refine lv_imul hx hb dX2_reopen_62 ?_
          refine W.eq (g2 := F0 m 63 ls [.int 0, .int 0]) (by rfl) ?_
          refine lv_icmp_ge (tgt := 85) hx hb dX2_reopen_63 (by decide) (fun c63_6 => ?_) (fun c63_6 => ?_)
          ·
            refine lv_aload_n hx hb dX2_reopen_85 rfl (lv_at hl 3 rfl) ?_
            refine va_get (D := (dC, dI)) (ci := 3) (v := .ref mz) (C := RX2) (T := TX2) (N := 13) hx hb hts (by decide +kernel) hown hK hP 0 rfl rfl 3 (by decide) (hts (.fieldLink RX2 13 "ThreeFilesModel" "sizes" "[I") (by decide +kernel)) (fun _ h9 => h9) rfl dX2_reopen_86 ?_
            refine lv_iload_n hx hb dX2_reopen_89 rfl (lv_at hl 1 rfl) ?_
            refine lv_bipush (v := 24) hx hb dX2_reopen_90 (by decide) ?_
            refine lv_iload_n hx hb dX2_reopen_92 rfl (lv_at hl 2 rfl) ?_
            refine lv_imul hx hb dX2_reopen_93 ?_
            refine W.eq (g2 := F0 m 94 ls [.int 0, .int 1, .ref mz]) (by rfl) ?_
            refine va_iast hx hb hK hP hD hS 1 0 rfl rfl (i := 1) (x := 0) (by unfold vp_in; decide) dX2_reopen_94 (fun H locs hP hD hS => ?_)
            have hP : va_P (dC, dI) vwCl [(y, .inr (3, [.int 0, .int pv, .ref mb, .ref mz, .ref ob, .ref oz, .int 0, .int 0, .int 0, .ref fd, .ref md, .int 0, .int 0])), (mz, .inl (kz, 3, .inl (upd (upd (fun _ => 0) 0 0) 1 0)))] H := hP
            have hD : va_D A [(y, .inr (3, [.int 0, .int pv, .ref mb, .ref mz, .ref ob, .ref oz, .int 0, .int 0, .int 0, .ref fd, .ref md, .int 0, .int 0])), (mz, .inl (kz, 3, .inl (upd (upd (fun _ => 0) 0 0) 1 0)))] := hD
            refine lv_iinc (v := 2) (lv' := [(2, .int 2), (3, .int 0), (1, .int 0), (0, .ref y)]) hx hb dX2_reopen_95 hl (k := 1) rfl (by decide) (by decide) rfl (fun ls hl => ?_)
            refine lv_goto (tgt := 46) hx hb dX2_reopen_98 (by decide) ?_
            refine lv_iload_n hx hb dX2_reopen_46 rfl (lv_at hl 0 rfl) ?_
            refine lv_iconst (v := 3) hx hb dX2_reopen_47 (by decide) ?_
            refine lv_icmp_ge (tgt := 101) hx hb dX2_reopen_48 (by decide) (fun c48_7 => ?_) (fun c48_7 => ?_)
            · exact absurd c48_7 (by decide)
            ·
              refine lv_aload_n hx hb dX2_reopen_51 rfl (lv_at hl 3 rfl) ?_
              refine va_get (D := (dC, dI)) (ci := 3) (v := .ref mz) (C := RX2) (T := TX2) (N := 13) hx hb hts (by decide +kernel) hown hK hP 0 rfl rfl 3 (by decide) (hts (.fieldLink RX2 13 "ThreeFilesModel" "sizes" "[I") (by decide +kernel)) (fun _ h9 => h9) rfl dX2_reopen_52 ?_
              refine lv_iload_n hx hb dX2_reopen_55 rfl (lv_at hl 0 rfl) ?_
              refine va_iald hx hb hK hP 1 0 rfl rfl (i := 2) (by unfold vp_in; decide) dX2_reopen_56 ?_
              refine W.eq (g2 := F0 m 57 ls [.int 0]) (by rfl) ?_
              refine lv_istore_n (lv' := [(3, .int 0), (2, .int 2), (1, .int 0), (0, .ref y)]) hx hb dX2_reopen_57 rfl hl (by decide) rfl (fun ls hl => ?_)
              refine lv_iload_n hx hb dX2_reopen_58 rfl (lv_at hl 0 rfl) ?_
              refine lv_bipush (v := 24) hx hb dX2_reopen_59 (by decide) ?_
              refine lv_iload_n hx hb dX2_reopen_61 rfl (lv_at hl 2 rfl) ?_
              refine lv_imul hx hb dX2_reopen_62 ?_
              refine W.eq (g2 := F0 m 63 ls [.int 0, .int 0]) (by rfl) ?_
              refine lv_icmp_ge (tgt := 85) hx hb dX2_reopen_63 (by decide) (fun c63_8 => ?_) (fun c63_8 => ?_)
              ·
                refine lv_aload_n hx hb dX2_reopen_85 rfl (lv_at hl 3 rfl) ?_
                refine va_get (D := (dC, dI)) (ci := 3) (v := .ref mz) (C := RX2) (T := TX2) (N := 13) hx hb hts (by decide +kernel) hown hK hP 0 rfl rfl 3 (by decide) (hts (.fieldLink RX2 13 "ThreeFilesModel" "sizes" "[I") (by decide +kernel)) (fun _ h9 => h9) rfl dX2_reopen_86 ?_
                refine lv_iload_n hx hb dX2_reopen_89 rfl (lv_at hl 1 rfl) ?_
                refine lv_bipush (v := 24) hx hb dX2_reopen_90 (by decide) ?_
                refine lv_iload_n hx hb dX2_reopen_92 rfl (lv_at hl 2 rfl) ?_
                refine lv_imul hx hb dX2_reopen_93 ?_
                refine W.eq (g2 := F0 m 94 ls [.int 0, .int 2, .ref mz]) (by rfl) ?_
                refine va_iast hx hb hK hP hD hS 1 0 rfl rfl (i := 2) (x := 0) (by unfold vp_in; decide) dX2_reopen_94 (fun H locs hP hD hS => ?_)
                have hP : va_P (dC, dI) vwCl [(y, .inr (3, [.int 0, .int pv, .ref mb, .ref mz, .ref ob, .ref oz, .int 0, .int 0, .int 0, .ref fd, .ref md, .int 0, .int 0])), (mz, .inl (kz, 3, .inl (upd (upd (upd (fun _ => 0) 0 0) 1 0) 2 0)))] H := hP
                have hD : va_D A [(y, .inr (3, [.int 0, .int pv, .ref mb, .ref mz, .ref ob, .ref oz, .int 0, .int 0, .int 0, .ref fd, .ref md, .int 0, .int 0])), (mz, .inl (kz, 3, .inl (upd (upd (upd (fun _ => 0) 0 0) 1 0) 2 0)))] := hD
                refine lv_iinc (v := 3) (lv' := [(2, .int 3), (3, .int 0), (1, .int 0), (0, .ref y)]) hx hb dX2_reopen_95 hl (k := 1) rfl (by decide) (by decide) rfl (fun ls hl => ?_)
                refine lv_goto (tgt := 46) hx hb dX2_reopen_98 (by decide) ?_
                refine lv_iload_n hx hb dX2_reopen_46 rfl (lv_at hl 0 rfl) ?_
                refine lv_iconst (v := 3) hx hb dX2_reopen_47 (by decide) ?_
                refine lv_icmp_ge (tgt := 101) hx hb dX2_reopen_48 (by decide) (fun c48_9 => ?_) (fun c48_9 => ?_)
                ·
                  refine lv_aload_n hx hb dX2_reopen_101 rfl (lv_at hl 3 rfl) ?_
                  refine lv_iconst (v := 0) hx hb dX2_reopen_102 (by decide) ?_
                  refine va_put (D := (dC, dI)) (ci := 3) (v := .int 0) (ty := .boolean) (C := RX2) (T := TX2) (N := 13) hx hb hts (by decide +kernel) tyX2 tyX2_ok nmX2 hown hK hP hD hS 0 rfl rfl 7 (by decide) (hts (.fieldLink RX2 72 "ThreeFilesModel" "closed" "Z") (by decide +kernel)) (fun _ h9 => h9) rfl (by decide +kernel) rfl rfl (Nat.le_of_ble_eq_true rfl) dX2_reopen_103 (fun H locs hP hD hS => ?_)
                  have hP : va_P (dC, dI) vwCl [(y, .inr (3, [.int 0, .int pv, .ref mb, .ref mz, .ref ob, .ref oz, .int 0, .int 0, .int 0, .ref fd, .ref md, .int 0, .int 0])), (mz, .inl (kz, 3, .inl (upd (upd (upd (fun _ => 0) 0 0) 1 0) 2 0)))] H := hP
                  have hD : va_D A [(y, .inr (3, [.int 0, .int pv, .ref mb, .ref mz, .ref ob, .ref oz, .int 0, .int 0, .int 0, .ref fd, .ref md, .int 0, .int 0])), (mz, .inl (kz, 3, .inl (upd (upd (upd (fun _ => 0) 0 0) 1 0) 2 0)))] := hD
                  refine lv_iconst (v := 0) hx hb dX2_reopen_106 (by decide) ?_
                  refine lv_istore_n (lv' := [(2, .int 0), (3, .int 0), (1, .int 0), (0, .ref y)]) hx hb dX2_reopen_107 rfl hl (by decide) rfl (fun ls hl => ?_)
                  refine lv_iconst (v := 0) hx hb dX2_reopen_108 (by decide) ?_
                  refine lv_istore_n (lv' := [(3, .int 0), (2, .int 0), (1, .int 0), (0, .ref y)]) hx hb dX2_reopen_109 rfl hl (by decide) rfl (fun ls hl => ?_)
                  refine lv_iload_n hx hb dX2_reopen_110 rfl (lv_at hl 0 rfl) ?_
                  refine lv_iconst (v := 2) hx hb dX2_reopen_111 (by decide) ?_
                  refine lv_iload_n hx hb dX2_reopen_112 rfl (lv_at hl 2 rfl) ?_
                  refine lv_imul hx hb dX2_reopen_113 ?_
                  refine W.eq (g2 := F0 m 114 ls [.int 0, .int 0]) (by rfl) ?_
                  refine lv_icmp_ge (tgt := 154) hx hb dX2_reopen_114 (by decide) (fun c114_10 => ?_) (fun c114_10 => ?_)
                  ·
                    refine lv_iload_n hx hb dX2_reopen_154 rfl (lv_at hl 1 rfl) ?_
                    exact W.iret (v := 0) hx hb hr (fun t ht hW => ⟨⟨0, (), rfl, rfl, trivial⟩, hS.F ht⟩) hS.2.2 dX2_reopen_155
                  · exact absurd (by decide) c114_10
                · exact absurd (by decide) c48_9
              · exact absurd (by decide) c63_8
          · exact absurd (by decide) c63_6
      · exact absurd (by decide) c63_4
  · exact absurd (by decide) c14_2

set_option maxHeartbeats 4000000 in
set_option maxRecDepth 100000 in
theorem m_scrub (l : Launch) (dC : Nat → ClassId) (dI : Nat → Nat → Nat) (sz : Nat) (y mb mz ob oz fd md : Nat) (kz : ClassId) (pv th : Int32) (p0 : Int32) : Met l yX2_scrub wsX2_scrub ({ frames := 1, cells := 0, slots := 0, locals := 22 }) (va_Pc [.ref y, .int p0] (fun U => U.heap.size = sz ∧ va_P (dC, dI) vwCl [(y, .inr (3, [.int th, .int pv, .ref mb, .ref mz, .ref ob, .ref oz, .int 0, .int 0, .int 0, .ref fd, .ref md, .int 0, .int 0])), (mz, .inl (kz, 3, .inl (fun _ => 0)))] U.heap ∧ va_K (dC, dI) vwCl [(kz, .int)] U ∧ va_D (fun _ => True) [(y, .inr (3, [.int th, .int pv, .ref mb, .ref mz, .ref ob, .ref oz, .int 0, .int 0, .int 0, .ref fd, .ref md, .int 0, .int 0])), (mz, .inl (kz, 3, .inl (fun _ => 0)))])) (va_Qi (fun r (_ : Unit) => r = (if p0 < 1 then (-1) else 0)) (fun _ _ => True) (va_A [(y, .inr (3, [.int th, .int pv, .ref mb, .ref mz, .ref ob, .ref oz, .int 0, .int 0, .int 0, .ref fd, .ref md, .int 0, .int 0])), (mz, .inl (kz, 3, .inl (fun _ => 0)))] sz)) 0 0 (va_A [(y, .inr (3, [.int th, .int pv, .ref mb, .ref mz, .ref ob, .ref oz, .int 0, .int 0, .int 0, .ref fd, .ref md, .int 0, .int 0])), (mz, .inl (kz, 3, .inl (fun _ => 0)))] sz) := by
  refine Met.ofW (cc := cX2_scrub) (maxL := 7) (ret := (some .int)) (by decide) rfl ?_
  intro p e s m args below meth c s₁ B hml hv
  obtain ⟨rfl, hsz, hP, hK, hD0⟩ := hv
  have hx := B.exec
  have hb := B.bytes
  have hr := B.returns
  have hts := atoms_spec (ws := wsX2_scrub) B.pre
  have hown : s.vm.findClass RX2 = some m.cls := findClass_of_methodNamed B.named
  have hlocks := B.notSynchronized
  subst hsz
  have hD := hD0.self (sz := s.heap.size)
  generalize hAe : va_A [(y, .inr (3, [.int th, .int pv, .ref mb, .ref mz, .ref ob, .ref oz, .int 0, .int 0, .int 0, .ref fd, .ref md, .int 0, .int 0])), (mz, .inl (kz, 3, .inl (fun _ => 0)))] s.heap.size = A at hD ⊢
  have hA : ∀ q : Nat, s.heap.size ≤ q → A q := fun q h => by rw [← hAe]; exact Or.inr h
  have hS : va_S A s.heap s.heap [] := va_S.rf
  have hP : va_P (dC, dI) vwCl [(y, .inr (3, [.int th, .int pv, .ref mb, .ref mz, .ref ob, .ref oz, .int 0, .int 0, .int 0, .ref fd, .ref md, .int 0, .int 0])), (mz, .inl (kz, 3, .inl (fun _ => 0)))] s.heap := hP
  have hl := lv_entry ([.ref y, .int p0]) (n := 7) (Nat.le_of_ble_eq_true rfl)
  rw [lg_entry_eq]
  generalize (lg_sl ([.ref y, .int p0]) ++ List.replicate (7 - (lg_sl ([.ref y, .int p0])).length) Slot.unset).toArray = ls at hl ⊢
  have hl : lv_has ls 7 [(0, .ref y), (1, .int p0)] := hl
  have hH0 : s.heap.size ≤ s.heap.size := Nat.le_refl _
  refine lv_aload_n hx hb dX2_scrub_0 rfl (lv_at hl 0 rfl) ?_
  refine lv_iconst (v := 0) hx hb dX2_scrub_1 (by decide) ?_
  refine va_put (D := (dC, dI)) (ci := 3) (v := .int 0) (ty := .int) (C := RX2) (T := TX2) (N := 13) hx hb hts (by decide +kernel) tyX2 tyX2_ok nmX2 hown hK hP hD hS 0 rfl rfl 0 (by decide) (hts (.fieldLink RX2 32 "ThreeFilesModel" "thrown" "I") (by decide +kernel)) (fun _ h9 => h9) rfl (by decide +kernel) rfl rfl (Nat.le_of_ble_eq_true rfl) dX2_scrub_2 (fun H locs hP hD hS => ?_)
  have hP : va_P (dC, dI) vwCl [(y, .inr (3, [.int 0, .int pv, .ref mb, .ref mz, .ref ob, .ref oz, .int 0, .int 0, .int 0, .ref fd, .ref md, .int 0, .int 0])), (mz, .inl (kz, 3, .inl (fun _ => 0)))] H := hP
  have hD : va_D A [(y, .inr (3, [.int 0, .int pv, .ref mb, .ref mz, .ref ob, .ref oz, .int 0, .int 0, .int 0, .ref fd, .ref md, .int 0, .int 0])), (mz, .inl (kz, 3, .inl (fun _ => 0)))] := hD
  refine lv_iconst (v := 3) hx hb dX2_scrub_5 (by decide) ?_
  refine lv_aload_n hx hb dX2_scrub_6 rfl (lv_at hl 0 rfl) ?_
  have hPc := hP.sub (ws' := [(y, .inr (3, [.int 0, .int pv, .ref mb, .ref mz, .ref ob, .ref oz, .int 0, .int 0, .int 0, .ref fd, .ref md, .int 0, .int 0])), (mz, .inl (kz, 3, .inl (fun _ => 0)))]) [0, 1] rfl
  have hKc := hK.sub (tys' := [(kz, .int)]) [0] rfl
  refine vp_callSi ((va_runV (As := []) (rest := [.int 3]) ⟨hx, hb, hml, hown, hts⟩ (m_stripes l dC dI y mb mz ob oz fd md kz pv 0) (cwV 0 hts gX2_scrub_X2_stripes rfl rfl rfl (by decide +kernel) ⟨Nat.le_of_ble_eq_true rfl, Nat.le_of_ble_eq_true rfl⟩) ⟨fun a U g mk q => by obtain ⟨q0, qP, qK⟩ := q; exact ⟨q0, qP, va_K.moved (u := U) (U := U.calling g mk a) (Vm.Alike.refl U.vm) qK⟩, va_recv hKc hPc (ci := 3) (q0 := 0) rfl rfl, fun U hU hW => ⟨rfl, by rw [hU]; exact hPc, va_K.moved hW.alike hKc⟩⟩ rfl rfl hl.1 rfl (lv_room (Nat.le_of_ble_eq_true rfl)) dX2_scrub_7 ⟨Nat.le_of_ble_eq_true rfl, Nat.le_of_ble_eq_true rfl⟩)).run (fun r_1 hq_1 => ?_)
  obtain rfl : r_1 = 0 := hq_1
  refine lv_imul hx hb dX2_scrub_10 ?_
  refine W.eq (g2 := F0 m 11 ls [.int 0]) (by rfl) ?_
  refine lv_istore_n (lv' := [(2, .int 0), (0, .ref y), (1, .int p0)]) hx hb dX2_scrub_11 rfl hl (by decide) rfl (fun ls hl => ?_)
  refine lv_iconst (v := 1) hx hb dX2_scrub_12 (by decide) ?_
  refine lv_istore_n (lv' := [(3, .int 1), (2, .int 0), (0, .ref y), (1, .int p0)]) hx hb dX2_scrub_13 rfl hl (by decide) rfl (fun ls hl => ?_)
  refine lv_iconst (v := 0) hx hb dX2_scrub_14 (by decide) ?_
  refine lv_istore (lv' := [(4, .int 0), (3, .int 1), (2, .int 0), (0, .ref y), (1, .int p0)]) hx hb dX2_scrub_15 hl (by decide) rfl (fun ls hl => ?_)
  refine lv_iload hx hb dX2_scrub_17 (lv_at hl 0 rfl) ?_
  refine lv_iconst (v := 3) hx hb dX2_scrub_19 (by decide) ?_
  refine lv_icmp_ge (tgt := 55) hx hb dX2_scrub_20 (by decide) (fun c20_2 => ?_) (fun c20_2 => ?_)
  · exact absurd c20_2 (by decide)
  ·
    refine lv_iload_n hx hb dX2_scrub_23 rfl (lv_at hl 1 rfl) ?_
    refine lv_if_eq (tgt := 47) hx hb dX2_scrub_24 (by decide) (fun c24_3 => ?_) (fun c24_3 => ?_)
    · exact absurd c24_3 (by decide)
    ·
      refine lv_iconst (v := 3) hx hb dX2_scrub_27 (by decide) ?_
      refine lv_aload_n hx hb dX2_scrub_28 rfl (lv_at hl 3 rfl) ?_
      refine va_get (D := (dC, dI)) (ci := 3) (v := .ref mz) (C := RX2) (T := TX2) (N := 13) hx hb hts (by decide +kernel) hown hK hP 0 rfl rfl 3 (by decide) (hts (.fieldLink RX2 13 "ThreeFilesModel" "sizes" "[I") (by decide +kernel)) (fun _ h9 => h9) rfl dX2_scrub_29 ?_
      refine lv_iload hx hb dX2_scrub_32 (lv_at hl 0 rfl) ?_
      refine va_iald hx hb hK hP 1 0 rfl rfl (i := 0) (by unfold vp_in; decide) dX2_scrub_34 ?_
      refine W.eq (g2 := F0 m 35 ls [.int 0, .int 3]) (by rfl) ?_
      refine lv_imul hx hb dX2_scrub_35 ?_
      refine W.eq (g2 := F0 m 36 ls [.int 0]) (by rfl) ?_
      refine lv_bipush (v := 24) hx hb dX2_scrub_36 (by decide) ?_
      refine lv_iload_n hx hb dX2_scrub_38 rfl (lv_at hl 2 rfl) ?_
      refine lv_imul hx hb dX2_scrub_39 ?_
      refine W.eq (g2 := F0 m 40 ls [.int 0, .int 0]) (by rfl) ?_
      refine lv_icmp_ne (tgt := 47) hx hb dX2_scrub_40 (by decide) (fun c40_4 => ?_) (fun c40_4 => ?_)
      · exact absurd (by decide) c40_4
      ·
        refine lv_iconst (v := 1) hx hb dX2_scrub_43 (by decide) ?_
        refine lv_goto (tgt := 48) hx hb dX2_scrub_44 (by decide) ?_
        refine lv_istore_n (lv' := [(3, .int 1), (4, .int 0), (2, .int 0), (0, .ref y), (1, .int p0)]) hx hb dX2_scrub_48 rfl hl (by decide) rfl (fun ls hl => ?_)
        refine lv_iinc (v := 1) (lv' := [(4, .int 1), (3, .int 1), (2, .int 0), (0, .ref y), (1, .int p0)]) hx hb dX2_scrub_49 hl (k := 1) rfl (by decide) (by decide) rfl (fun ls hl => ?_)
        refine lv_goto (tgt := 17) hx hb dX2_scrub_52 (by decide) ?_
        refine lv_iload hx hb dX2_scrub_17 (lv_at hl 0 rfl) ?_
        refine lv_iconst (v := 3) hx hb dX2_scrub_19 (by decide) ?_
        refine lv_icmp_ge (tgt := 55) hx hb dX2_scrub_20 (by decide) (fun c20_5 => ?_) (fun c20_5 => ?_)
        · exact absurd c20_5 (by decide)
        ·
          refine lv_iload_n hx hb dX2_scrub_23 rfl (lv_at hl 1 rfl) ?_
          refine lv_if_eq (tgt := 47) hx hb dX2_scrub_24 (by decide) (fun c24_6 => ?_) (fun c24_6 => ?_)
          · exact absurd c24_6 (by decide)
          ·
            refine lv_iconst (v := 3) hx hb dX2_scrub_27 (by decide) ?_
            refine lv_aload_n hx hb dX2_scrub_28 rfl (lv_at hl 3 rfl) ?_
            refine va_get (D := (dC, dI)) (ci := 3) (v := .ref mz) (C := RX2) (T := TX2) (N := 13) hx hb hts (by decide +kernel) hown hK hP 0 rfl rfl 3 (by decide) (hts (.fieldLink RX2 13 "ThreeFilesModel" "sizes" "[I") (by decide +kernel)) (fun _ h9 => h9) rfl dX2_scrub_29 ?_
            refine lv_iload hx hb dX2_scrub_32 (lv_at hl 0 rfl) ?_
            refine va_iald hx hb hK hP 1 0 rfl rfl (i := 1) (by unfold vp_in; decide) dX2_scrub_34 ?_
            refine W.eq (g2 := F0 m 35 ls [.int 0, .int 3]) (by rfl) ?_
            refine lv_imul hx hb dX2_scrub_35 ?_
            refine W.eq (g2 := F0 m 36 ls [.int 0]) (by rfl) ?_
            refine lv_bipush (v := 24) hx hb dX2_scrub_36 (by decide) ?_
            refine lv_iload_n hx hb dX2_scrub_38 rfl (lv_at hl 2 rfl) ?_
            refine lv_imul hx hb dX2_scrub_39 ?_
            refine W.eq (g2 := F0 m 40 ls [.int 0, .int 0]) (by rfl) ?_
            refine lv_icmp_ne (tgt := 47) hx hb dX2_scrub_40 (by decide) (fun c40_7 => ?_) (fun c40_7 => ?_)
            · exact absurd (by decide) c40_7
            ·
              refine lv_iconst (v := 1) hx hb dX2_scrub_43 (by decide) ?_
              refine lv_goto (tgt := 48) hx hb dX2_scrub_44 (by decide) ?_
              refine lv_istore_n (lv' := [(3, .int 1), (4, .int 1), (2, .int 0), (0, .ref y), (1, .int p0)]) hx hb dX2_scrub_48 rfl hl (by decide) rfl (fun ls hl => ?_)
              refine lv_iinc (v := 2) (lv' := [(4, .int 2), (3, .int 1), (2, .int 0), (0, .ref y), (1, .int p0)]) hx hb dX2_scrub_49 hl (k := 1) rfl (by decide) (by decide) rfl (fun ls hl => ?_)
              refine lv_goto (tgt := 17) hx hb dX2_scrub_52 (by decide) ?_
              refine lv_iload hx hb dX2_scrub_17 (lv_at hl 0 rfl) ?_
              refine lv_iconst (v := 3) hx hb dX2_scrub_19 (by decide) ?_
              refine lv_icmp_ge (tgt := 55) hx hb dX2_scrub_20 (by decide) (fun c20_8 => ?_) (fun c20_8 => ?_)
              · exact absurd c20_8 (by decide)
              ·
                refine lv_iload_n hx hb dX2_scrub_23 rfl (lv_at hl 1 rfl) ?_
                refine lv_if_eq (tgt := 47) hx hb dX2_scrub_24 (by decide) (fun c24_9 => ?_) (fun c24_9 => ?_)
                · exact absurd c24_9 (by decide)
                ·
                  refine lv_iconst (v := 3) hx hb dX2_scrub_27 (by decide) ?_
                  refine lv_aload_n hx hb dX2_scrub_28 rfl (lv_at hl 3 rfl) ?_
                  refine va_get (D := (dC, dI)) (ci := 3) (v := .ref mz) (C := RX2) (T := TX2) (N := 13) hx hb hts (by decide +kernel) hown hK hP 0 rfl rfl 3 (by decide) (hts (.fieldLink RX2 13 "ThreeFilesModel" "sizes" "[I") (by decide +kernel)) (fun _ h9 => h9) rfl dX2_scrub_29 ?_
                  refine lv_iload hx hb dX2_scrub_32 (lv_at hl 0 rfl) ?_
                  refine va_iald hx hb hK hP 1 0 rfl rfl (i := 2) (by unfold vp_in; decide) dX2_scrub_34 ?_
                  refine W.eq (g2 := F0 m 35 ls [.int 0, .int 3]) (by rfl) ?_
                  refine lv_imul hx hb dX2_scrub_35 ?_
                  refine W.eq (g2 := F0 m 36 ls [.int 0]) (by rfl) ?_
                  refine lv_bipush (v := 24) hx hb dX2_scrub_36 (by decide) ?_
                  refine lv_iload_n hx hb dX2_scrub_38 rfl (lv_at hl 2 rfl) ?_
                  refine lv_imul hx hb dX2_scrub_39 ?_
                  refine W.eq (g2 := F0 m 40 ls [.int 0, .int 0]) (by rfl) ?_
                  refine lv_icmp_ne (tgt := 47) hx hb dX2_scrub_40 (by decide) (fun c40_10 => ?_) (fun c40_10 => ?_)
                  · exact absurd (by decide) c40_10
                  ·
                    refine lv_iconst (v := 1) hx hb dX2_scrub_43 (by decide) ?_
                    refine lv_goto (tgt := 48) hx hb dX2_scrub_44 (by decide) ?_
                    refine lv_istore_n (lv' := [(3, .int 1), (4, .int 2), (2, .int 0), (0, .ref y), (1, .int p0)]) hx hb dX2_scrub_48 rfl hl (by decide) rfl (fun ls hl => ?_)
                    refine lv_iinc (v := 3) (lv' := [(4, .int 3), (3, .int 1), (2, .int 0), (0, .ref y), (1, .int p0)]) hx hb dX2_scrub_49 hl (k := 1) rfl (by decide) (by decide) rfl (fun ls hl => ?_)
                    refine lv_goto (tgt := 17) hx hb dX2_scrub_52 (by decide) ?_
                    refine lv_iload hx hb dX2_scrub_17 (lv_at hl 0 rfl) ?_
                    refine lv_iconst (v := 3) hx hb dX2_scrub_19 (by decide) ?_
                    refine lv_icmp_ge (tgt := 55) hx hb dX2_scrub_20 (by decide) (fun c20_11 => ?_) (fun c20_11 => ?_)
                    ·
                      refine lv_iload_n hx hb dX2_scrub_55 rfl (lv_at hl 4 rfl) ?_
                      refine lv_iconst (v := 1) hx hb dX2_scrub_56 (by decide) ?_
                      refine lv_icmp_lt (tgt := 64) hx hb dX2_scrub_57 (by decide) (fun c57_12 => ?_) (fun c57_12 => ?_)
                      ·
                        refine lv_iconst (v := (-1)) hx hb dX2_scrub_64 (by decide) ?_
                        exact W.iret (v := (-1)) hx hb hr (fun t ht hW => ⟨⟨(-1), (), rfl, (if_pos c57_12).symm, trivial⟩, hS.F ht⟩) hS.2.2 dX2_scrub_65
                      ·
                        refine lv_iload_n hx hb dX2_scrub_60 rfl (lv_at hl 1 rfl) ?_
                        refine lv_if_ne (tgt := 66) hx hb dX2_scrub_61 (by decide) (fun c61_13 => ?_) (fun c61_13 => ?_)
                        ·
                          refine lv_iload_n hx hb dX2_scrub_66 rfl (lv_at hl 2 rfl) ?_
                          refine lv_if_ne (tgt := 72) hx hb dX2_scrub_67 (by decide) (fun c67_14 => ?_) (fun c67_14 => ?_)
                          · exact absurd (by decide) c67_14
                          ·
                            refine lv_iconst (v := 0) hx hb dX2_scrub_70 (by decide) ?_
                            exact W.iret (v := 0) hx hb hr (fun t ht hW => ⟨⟨0, (), rfl, (if_neg c57_12).symm, trivial⟩, hS.F ht⟩) hS.2.2 dX2_scrub_71
                        · exact absurd c61_13 (by decide)
                    · exact absurd (by decide) c20_11

set_option maxHeartbeats 4000000 in
set_option maxRecDepth 100000 in
theorem m_mended (l : Launch) (dC : Nat → ClassId) (dI : Nat → Nat → Nat) (sz : Nat) (y mb mz ob oz fd md : Nat) (kz : ClassId) (pv th : Int32) : Met l yX2_mended wsX2_mended ({ frames := 0, cells := 0, slots := 0, locals := 0 }) (va_Pc [.ref y] (fun U => U.heap.size = sz ∧ va_P (dC, dI) vwCl [(y, .inr (3, [.int th, .int pv, .ref mb, .ref mz, .ref ob, .ref oz, .int 0, .int 0, .int 0, .ref fd, .ref md, .int 0, .int 0])), (mz, .inl (kz, 3, .inl (fun _ => 0)))] U.heap ∧ va_K (dC, dI) vwCl [(kz, .int)] U ∧ va_D (fun _ => True) [(y, .inr (3, [.int th, .int pv, .ref mb, .ref mz, .ref ob, .ref oz, .int 0, .int 0, .int 0, .ref fd, .ref md, .int 0, .int 0])), (mz, .inl (kz, 3, .inl (fun _ => 0)))])) (va_Qi (fun r (_ : Unit) => r = 0) (fun _ _ => True) (va_A [(y, .inr (3, [.int th, .int pv, .ref mb, .ref mz, .ref ob, .ref oz, .int 0, .int 0, .int 0, .ref fd, .ref md, .int 0, .int 0])), (mz, .inl (kz, 3, .inl (fun _ => 0)))] sz)) 0 0 (va_A [(y, .inr (3, [.int th, .int pv, .ref mb, .ref mz, .ref ob, .ref oz, .int 0, .int 0, .int 0, .ref fd, .ref md, .int 0, .int 0])), (mz, .inl (kz, 3, .inl (fun _ => 0)))] sz) := by
  refine Met.ofW (cc := cX2_mended) (maxL := 1) (ret := (some .int)) (by decide) rfl ?_
  intro p e s m args below meth c s₁ B hml hv
  obtain ⟨rfl, hsz, hP, hK, hD0⟩ := hv
  have hx := B.exec
  have hb := B.bytes
  have hr := B.returns
  have hts := atoms_spec (ws := wsX2_mended) B.pre
  have hown : s.vm.findClass RX2 = some m.cls := findClass_of_methodNamed B.named
  have hlocks := B.notSynchronized
  subst hsz
  have hD := hD0.self (sz := s.heap.size)
  generalize hAe : va_A [(y, .inr (3, [.int th, .int pv, .ref mb, .ref mz, .ref ob, .ref oz, .int 0, .int 0, .int 0, .ref fd, .ref md, .int 0, .int 0])), (mz, .inl (kz, 3, .inl (fun _ => 0)))] s.heap.size = A at hD ⊢
  have hA : ∀ q : Nat, s.heap.size ≤ q → A q := fun q h => by rw [← hAe]; exact Or.inr h
  have hS : va_S A s.heap s.heap [] := va_S.rf
  have hP : va_P (dC, dI) vwCl [(y, .inr (3, [.int th, .int pv, .ref mb, .ref mz, .ref ob, .ref oz, .int 0, .int 0, .int 0, .ref fd, .ref md, .int 0, .int 0])), (mz, .inl (kz, 3, .inl (fun _ => 0)))] s.heap := hP
  have hl := lv_entry ([.ref y]) (n := 1) (Nat.le_of_ble_eq_true rfl)
  rw [lg_entry_eq]
  generalize (lg_sl ([.ref y]) ++ List.replicate (1 - (lg_sl ([.ref y])).length) Slot.unset).toArray = ls at hl ⊢
  have hl : lv_has ls 1 [(0, .ref y)] := hl
  have hH0 : s.heap.size ≤ s.heap.size := Nat.le_refl _
  refine lv_aload_n hx hb dX2_mended_0 rfl (lv_at hl 0 rfl) ?_
  refine lv_iconst (v := 0) hx hb dX2_mended_1 (by decide) ?_
  refine va_put (D := (dC, dI)) (ci := 3) (v := .int 0) (ty := .int) (C := RX2) (T := TX2) (N := 13) hx hb hts (by decide +kernel) tyX2 tyX2_ok nmX2 hown hK hP hD hS 0 rfl rfl 0 (by decide) (hts (.fieldLink RX2 32 "ThreeFilesModel" "thrown" "I") (by decide +kernel)) (fun _ h9 => h9) rfl (by decide +kernel) rfl rfl (Nat.le_of_ble_eq_true rfl) dX2_mended_2 (fun H locs hP hD hS => ?_)
  have hP : va_P (dC, dI) vwCl [(y, .inr (3, [.int 0, .int pv, .ref mb, .ref mz, .ref ob, .ref oz, .int 0, .int 0, .int 0, .ref fd, .ref md, .int 0, .int 0])), (mz, .inl (kz, 3, .inl (fun _ => 0)))] H := hP
  have hD : va_D A [(y, .inr (3, [.int 0, .int pv, .ref mb, .ref mz, .ref ob, .ref oz, .int 0, .int 0, .int 0, .ref fd, .ref md, .int 0, .int 0])), (mz, .inl (kz, 3, .inl (fun _ => 0)))] := hD
  refine lv_aload_n hx hb dX2_mended_5 rfl (lv_at hl 0 rfl) ?_
  refine va_get (D := (dC, dI)) (ci := 3) (v := .int 0) (C := RX2) (T := TX2) (N := 13) hx hb hts (by decide +kernel) hown hK hP 0 rfl rfl 11 (by decide) (hts (.fieldLink RX2 58 "ThreeFilesModel" "mended" "I") (by decide +kernel)) (fun _ h9 => h9) rfl dX2_mended_6 ?_
  exact W.iret (v := 0) hx hb hr (fun t ht hW => ⟨⟨0, (), rfl, rfl, trivial⟩, hS.F ht⟩) hS.2.2 dX2_mended_9

set_option maxHeartbeats 4000000 in
set_option maxRecDepth 100000 in
theorem m_badAt (l : Launch) (dC : Nat → ClassId) (dI : Nat → Nat → Nat) (sz : Nat) (y mb mz ob oz fd md : Nat) (kz : ClassId) (pv th : Int32) : Met l yX2_badAt wsX2_badAt ({ frames := 1, cells := 0, slots := 0, locals := 22 }) (va_Pc [.ref y] (fun U => U.heap.size = sz ∧ va_P (dC, dI) vwCl [(y, .inr (3, [.int th, .int pv, .ref mb, .ref mz, .ref ob, .ref oz, .int 0, .int 0, .int 0, .ref fd, .ref md, .int 0, .int 0])), (mz, .inl (kz, 3, .inl (fun _ => 0)))] U.heap ∧ va_K (dC, dI) vwCl [(kz, .int)] U ∧ va_D (fun _ => True) [(y, .inr (3, [.int th, .int pv, .ref mb, .ref mz, .ref ob, .ref oz, .int 0, .int 0, .int 0, .ref fd, .ref md, .int 0, .int 0])), (mz, .inl (kz, 3, .inl (fun _ => 0)))])) (va_Qi (fun r (_ : Unit) => r = 0) (fun _ _ => True) (va_A [(y, .inr (3, [.int th, .int pv, .ref mb, .ref mz, .ref ob, .ref oz, .int 0, .int 0, .int 0, .ref fd, .ref md, .int 0, .int 0])), (mz, .inl (kz, 3, .inl (fun _ => 0)))] sz)) 0 0 (va_A [(y, .inr (3, [.int th, .int pv, .ref mb, .ref mz, .ref ob, .ref oz, .int 0, .int 0, .int 0, .ref fd, .ref md, .int 0, .int 0])), (mz, .inl (kz, 3, .inl (fun _ => 0)))] sz) := by
  refine Met.ofW (cc := cX2_badAt) (maxL := 5) (ret := (some .int)) (by decide) rfl ?_
  intro p e s m args below meth c s₁ B hml hv
  obtain ⟨rfl, hsz, hP, hK, hD0⟩ := hv
  have hx := B.exec
  have hb := B.bytes
  have hr := B.returns
  have hts := atoms_spec (ws := wsX2_badAt) B.pre
  have hown : s.vm.findClass RX2 = some m.cls := findClass_of_methodNamed B.named
  have hlocks := B.notSynchronized
  subst hsz
  have hD := hD0.self (sz := s.heap.size)
  generalize hAe : va_A [(y, .inr (3, [.int th, .int pv, .ref mb, .ref mz, .ref ob, .ref oz, .int 0, .int 0, .int 0, .ref fd, .ref md, .int 0, .int 0])), (mz, .inl (kz, 3, .inl (fun _ => 0)))] s.heap.size = A at hD ⊢
  have hA : ∀ q : Nat, s.heap.size ≤ q → A q := fun q h => by rw [← hAe]; exact Or.inr h
  have hS : va_S A s.heap s.heap [] := va_S.rf
  have hP : va_P (dC, dI) vwCl [(y, .inr (3, [.int th, .int pv, .ref mb, .ref mz, .ref ob, .ref oz, .int 0, .int 0, .int 0, .ref fd, .ref md, .int 0, .int 0])), (mz, .inl (kz, 3, .inl (fun _ => 0)))] s.heap := hP
  have hl := lv_entry ([.ref y]) (n := 5) (Nat.le_of_ble_eq_true rfl)
  rw [lg_entry_eq]
  generalize (lg_sl ([.ref y]) ++ List.replicate (5 - (lg_sl ([.ref y])).length) Slot.unset).toArray = ls at hl ⊢
  have hl : lv_has ls 5 [(0, .ref y)] := hl
  have hH0 : s.heap.size ≤ s.heap.size := Nat.le_refl _
  refine lv_aload_n hx hb dX2_badAt_0 rfl (lv_at hl 0 rfl) ?_
  refine lv_iconst (v := 0) hx hb dX2_badAt_1 (by decide) ?_
  refine va_put (D := (dC, dI)) (ci := 3) (v := .int 0) (ty := .int) (C := RX2) (T := TX2) (N := 13) hx hb hts (by decide +kernel) tyX2 tyX2_ok nmX2 hown hK hP hD hS 0 rfl rfl 0 (by decide) (hts (.fieldLink RX2 32 "ThreeFilesModel" "thrown" "I") (by decide +kernel)) (fun _ h9 => h9) rfl (by decide +kernel) rfl rfl (Nat.le_of_ble_eq_true rfl) dX2_badAt_2 (fun H locs hP hD hS => ?_)
  have hP : va_P (dC, dI) vwCl [(y, .inr (3, [.int 0, .int pv, .ref mb, .ref mz, .ref ob, .ref oz, .int 0, .int 0, .int 0, .ref fd, .ref md, .int 0, .int 0])), (mz, .inl (kz, 3, .inl (fun _ => 0)))] H := hP
  have hD : va_D A [(y, .inr (3, [.int 0, .int pv, .ref mb, .ref mz, .ref ob, .ref oz, .int 0, .int 0, .int 0, .ref fd, .ref md, .int 0, .int 0])), (mz, .inl (kz, 3, .inl (fun _ => 0)))] := hD
  refine lv_aload_n hx hb dX2_badAt_5 rfl (lv_at hl 0 rfl) ?_
  have hPc := hP.sub (ws' := [(y, .inr (3, [.int 0, .int pv, .ref mb, .ref mz, .ref ob, .ref oz, .int 0, .int 0, .int 0, .ref fd, .ref md, .int 0, .int 0])), (mz, .inl (kz, 3, .inl (fun _ => 0)))]) [0, 1] rfl
  have hKc := hK.sub (tys' := [(kz, .int)]) [0] rfl
  refine vp_callSi ((va_runV (As := []) (rest := []) ⟨hx, hb, hml, hown, hts⟩ (m_stripes l dC dI y mb mz ob oz fd md kz pv 0) (cwV 0 hts gX2_badAt_X2_stripes rfl rfl rfl (by decide +kernel) ⟨Nat.le_of_ble_eq_true rfl, Nat.le_of_ble_eq_true rfl⟩) ⟨fun a U g mk q => by obtain ⟨q0, qP, qK⟩ := q; exact ⟨q0, qP, va_K.moved (u := U) (U := U.calling g mk a) (Vm.Alike.refl U.vm) qK⟩, va_recv hKc hPc (ci := 3) (q0 := 0) rfl rfl, fun U hU hW => ⟨rfl, by rw [hU]; exact hPc, va_K.moved hW.alike hKc⟩⟩ rfl rfl hl.1 rfl (lv_room (Nat.le_of_ble_eq_true rfl)) dX2_badAt_6 ⟨Nat.le_of_ble_eq_true rfl, Nat.le_of_ble_eq_true rfl⟩)).run (fun r_1 hq_1 => ?_)
  obtain rfl : r_1 = 0 := hq_1
  refine lv_istore_n (lv' := [(1, .int 0), (0, .ref y)]) hx hb dX2_badAt_9 rfl hl (by decide) rfl (fun ls hl => ?_)
  refine lv_iconst (v := 0) hx hb dX2_badAt_10 (by decide) ?_
  refine lv_istore_n (lv' := [(2, .int 0), (1, .int 0), (0, .ref y)]) hx hb dX2_badAt_11 rfl hl (by decide) rfl (fun ls hl => ?_)
  refine lv_iload_n hx hb dX2_badAt_12 rfl (lv_at hl 0 rfl) ?_
  refine lv_iload_n hx hb dX2_badAt_13 rfl (lv_at hl 1 rfl) ?_
  refine lv_icmp_ge (tgt := 67) hx hb dX2_badAt_14 (by decide) (fun c14_2 => ?_) (fun c14_2 => ?_)
  ·
    refine lv_iconst (v := 0) hx hb dX2_badAt_67 (by decide) ?_
    exact W.iret (v := 0) hx hb hr (fun t ht hW => ⟨⟨0, (), rfl, rfl, trivial⟩, hS.F ht⟩) hS.2.2 dX2_badAt_68
  · exact absurd (by decide) c14_2

set_option maxHeartbeats 4000000 in
set_option maxRecDepth 100000 in
theorem m_same (l : Launch) (dC : Nat → ClassId) (dI : Nat → Nat → Nat) (sz : Nat) (y mb mz ob oz fd md : Nat) (kz : ClassId) (pv th : Int32) (p0 : Int32) : Met l yX2_same wsX2_same ({ frames := 1, cells := 0, slots := 0, locals := 22 }) (va_Pc [.ref y, .int p0] (fun U => U.heap.size = sz ∧ va_P (dC, dI) vwCl [(y, .inr (3, [.int th, .int pv, .ref mb, .ref mz, .ref ob, .ref oz, .int 0, .int 0, .int 0, .ref fd, .ref md, .int 0, .int 0])), (mz, .inl (kz, 3, .inl (fun _ => 0)))] U.heap ∧ va_K (dC, dI) vwCl [(kz, .int)] U ∧ va_D (fun _ => True) [(y, .inr (3, [.int th, .int pv, .ref mb, .ref mz, .ref ob, .ref oz, .int 0, .int 0, .int 0, .ref fd, .ref md, .int 0, .int 0])), (mz, .inl (kz, 3, .inl (fun _ => 0)))])) (va_Qi (fun r (_ : Unit) => r = (if 0 ≤ p0 ∧ p0 < 3 then 1 else 0)) (fun _ _ => True) (va_A [(y, .inr (3, [.int th, .int pv, .ref mb, .ref mz, .ref ob, .ref oz, .int 0, .int 0, .int 0, .ref fd, .ref md, .int 0, .int 0])), (mz, .inl (kz, 3, .inl (fun _ => 0)))] sz)) 0 0 (va_A [(y, .inr (3, [.int th, .int pv, .ref mb, .ref mz, .ref ob, .ref oz, .int 0, .int 0, .int 0, .ref fd, .ref md, .int 0, .int 0])), (mz, .inl (kz, 3, .inl (fun _ => 0)))] sz) := by
  refine Met.ofW (cc := cX2_same) (maxL := 4) (ret := (some .boolean)) (by decide) rfl ?_
  intro p e s m args below meth c s₁ B hml hv
  obtain ⟨rfl, hsz, hP, hK, hD0⟩ := hv
  have hx := B.exec
  have hb := B.bytes
  have hr := B.returns
  have hts := atoms_spec (ws := wsX2_same) B.pre
  have hown : s.vm.findClass RX2 = some m.cls := findClass_of_methodNamed B.named
  have hlocks := B.notSynchronized
  subst hsz
  have hD := hD0.self (sz := s.heap.size)
  generalize hAe : va_A [(y, .inr (3, [.int th, .int pv, .ref mb, .ref mz, .ref ob, .ref oz, .int 0, .int 0, .int 0, .ref fd, .ref md, .int 0, .int 0])), (mz, .inl (kz, 3, .inl (fun _ => 0)))] s.heap.size = A at hD ⊢
  have hA : ∀ q : Nat, s.heap.size ≤ q → A q := fun q h => by rw [← hAe]; exact Or.inr h
  have hS : va_S A s.heap s.heap [] := va_S.rf
  have hP : va_P (dC, dI) vwCl [(y, .inr (3, [.int th, .int pv, .ref mb, .ref mz, .ref ob, .ref oz, .int 0, .int 0, .int 0, .ref fd, .ref md, .int 0, .int 0])), (mz, .inl (kz, 3, .inl (fun _ => 0)))] s.heap := hP
  have hl := lv_entry ([.ref y, .int p0]) (n := 4) (Nat.le_of_ble_eq_true rfl)
  rw [lg_entry_eq]
  generalize (lg_sl ([.ref y, .int p0]) ++ List.replicate (4 - (lg_sl ([.ref y, .int p0])).length) Slot.unset).toArray = ls at hl ⊢
  have hl : lv_has ls 4 [(0, .ref y), (1, .int p0)] := hl
  have hH0 : s.heap.size ≤ s.heap.size := Nat.le_refl _
  refine lv_aload_n hx hb dX2_same_0 rfl (lv_at hl 0 rfl) ?_
  refine lv_iconst (v := 0) hx hb dX2_same_1 (by decide) ?_
  refine va_put (D := (dC, dI)) (ci := 3) (v := .int 0) (ty := .int) (C := RX2) (T := TX2) (N := 13) hx hb hts (by decide +kernel) tyX2 tyX2_ok nmX2 hown hK hP hD hS 0 rfl rfl 0 (by decide) (hts (.fieldLink RX2 32 "ThreeFilesModel" "thrown" "I") (by decide +kernel)) (fun _ h9 => h9) rfl (by decide +kernel) rfl rfl (Nat.le_of_ble_eq_true rfl) dX2_same_2 (fun H locs hP hD hS => ?_)
  have hP : va_P (dC, dI) vwCl [(y, .inr (3, [.int 0, .int pv, .ref mb, .ref mz, .ref ob, .ref oz, .int 0, .int 0, .int 0, .ref fd, .ref md, .int 0, .int 0])), (mz, .inl (kz, 3, .inl (fun _ => 0)))] H := hP
  have hD : va_D A [(y, .inr (3, [.int 0, .int pv, .ref mb, .ref mz, .ref ob, .ref oz, .int 0, .int 0, .int 0, .ref fd, .ref md, .int 0, .int 0])), (mz, .inl (kz, 3, .inl (fun _ => 0)))] := hD
  refine lv_iload_n hx hb dX2_same_5 rfl (lv_at hl 1 rfl) ?_
  refine lv_iconst (v := 0) hx hb dX2_same_6 (by decide) ?_
  refine lv_iconst (v := 2) hx hb dX2_same_7 (by decide) ?_
  have hPc := hP.sub (ws' := []) [] rfl
  have hKc := hK.sub (tys' := []) [] rfl
  refine vp_callSi ((va_runS (As := [.int p0, .int 0, .int 2]) (rest := []) ⟨hx, hb, hml, hown, hts⟩ (m_in l dC dI p0 0 2) (va_cwS 3 hts gX2_same_X2_in rfl rfl rfl (by decide +kernel) ⟨Nat.le_of_ble_eq_true rfl, Nat.le_of_ble_eq_true rfl⟩) ⟨fun a U g mk q => by obtain ⟨q0, qP, qK⟩ := q; exact ⟨q0, qP, va_K.moved (u := U) (U := U.calling g mk a) (Vm.Alike.refl U.vm) qK⟩, fun U hU hW => ⟨rfl, by rw [hU]; exact hPc, va_K.moved hW.alike hKc⟩⟩ rfl rfl hl.1 rfl (lv_room (Nat.le_of_ble_eq_true rfl)) dX2_same_8 ⟨Nat.le_of_ble_eq_true rfl, Nat.le_of_ble_eq_true rfl⟩)).run (fun r_1 hq_1 => ?_)
  rcases hq_1 with ⟨rfl, hf_1⟩ | ⟨rfl, hf_1⟩
  ·
    rcases q_in2 hf_1 with rfl | rfl | rfl
    ·
      refine lv_if_eq (tgt := 21) hx hb dX2_same_11 (by decide) (fun c11_2 => ?_) (fun c11_2 => ?_)
      · exact absurd c11_2 (by decide)
      ·
        refine lv_aload_n hx hb dX2_same_14 rfl (lv_at hl 0 rfl) ?_
        refine va_get (D := (dC, dI)) (ci := 3) (v := .int 0) (C := RX2) (T := TX2) (N := 13) hx hb hts (by decide +kernel) hown hK hP 0 rfl rfl 6 (by decide) (hts (.fieldLink RX2 94 "ThreeFilesModel" "wasClosed" "Z") (by decide +kernel)) (fun _ h9 => h9) rfl dX2_same_15 ?_
        refine lv_if_ne (tgt := 28) hx hb dX2_same_18 (by decide) (fun c18_3 => ?_) (fun c18_3 => ?_)
        · exact absurd (by decide) c18_3
        ·
          refine lv_iload_n hx hb dX2_same_21 rfl (lv_at hl 1 rfl) ?_
          refine lv_iconst (v := 0) hx hb dX2_same_22 (by decide) ?_
          refine lv_iconst (v := 2) hx hb dX2_same_23 (by decide) ?_
          have hPc := hP.sub (ws' := []) [] rfl
          have hKc := hK.sub (tys' := []) [] rfl
          refine vp_callSi ((va_runS (As := [.int 0, .int 0, .int 2]) (rest := []) ⟨hx, hb, hml, hown, hts⟩ (m_in l dC dI 0 0 2) (va_cwS 3 hts gX2_same_X2_in rfl rfl rfl (by decide +kernel) ⟨Nat.le_of_ble_eq_true rfl, Nat.le_of_ble_eq_true rfl⟩) ⟨fun a U g mk q => by obtain ⟨q0, qP, qK⟩ := q; exact ⟨q0, qP, va_K.moved (u := U) (U := U.calling g mk a) (Vm.Alike.refl U.vm) qK⟩, fun U hU hW => ⟨rfl, by rw [hU]; exact hPc, va_K.moved hW.alike hKc⟩⟩ rfl rfl hl.1 rfl (lv_room (Nat.le_of_ble_eq_true rfl)) dX2_same_24 ⟨Nat.le_of_ble_eq_true rfl, Nat.le_of_ble_eq_true rfl⟩)).run (fun r_4 hq_4 => ?_)
          rcases hq_4 with ⟨rfl, hf_4⟩ | ⟨rfl, hf_4⟩
          ·
            exact W.zret (ty := .boolean) (v := 1) hx hb hr rfl (fun t ht hW => ⟨⟨1, (), rfl, (by decide), trivial⟩, hS.F ht⟩) hS.2.2 dX2_same_27
          · exact absurd hf_4 (by decide)
    ·
      refine lv_if_eq (tgt := 21) hx hb dX2_same_11 (by decide) (fun c11_5 => ?_) (fun c11_5 => ?_)
      · exact absurd c11_5 (by decide)
      ·
        refine lv_aload_n hx hb dX2_same_14 rfl (lv_at hl 0 rfl) ?_
        refine va_get (D := (dC, dI)) (ci := 3) (v := .int 0) (C := RX2) (T := TX2) (N := 13) hx hb hts (by decide +kernel) hown hK hP 0 rfl rfl 6 (by decide) (hts (.fieldLink RX2 94 "ThreeFilesModel" "wasClosed" "Z") (by decide +kernel)) (fun _ h9 => h9) rfl dX2_same_15 ?_
        refine lv_if_ne (tgt := 28) hx hb dX2_same_18 (by decide) (fun c18_6 => ?_) (fun c18_6 => ?_)
        · exact absurd (by decide) c18_6
        ·
          refine lv_iload_n hx hb dX2_same_21 rfl (lv_at hl 1 rfl) ?_
          refine lv_iconst (v := 0) hx hb dX2_same_22 (by decide) ?_
          refine lv_iconst (v := 2) hx hb dX2_same_23 (by decide) ?_
          have hPc := hP.sub (ws' := []) [] rfl
          have hKc := hK.sub (tys' := []) [] rfl
          refine vp_callSi ((va_runS (As := [.int 1, .int 0, .int 2]) (rest := []) ⟨hx, hb, hml, hown, hts⟩ (m_in l dC dI 1 0 2) (va_cwS 3 hts gX2_same_X2_in rfl rfl rfl (by decide +kernel) ⟨Nat.le_of_ble_eq_true rfl, Nat.le_of_ble_eq_true rfl⟩) ⟨fun a U g mk q => by obtain ⟨q0, qP, qK⟩ := q; exact ⟨q0, qP, va_K.moved (u := U) (U := U.calling g mk a) (Vm.Alike.refl U.vm) qK⟩, fun U hU hW => ⟨rfl, by rw [hU]; exact hPc, va_K.moved hW.alike hKc⟩⟩ rfl rfl hl.1 rfl (lv_room (Nat.le_of_ble_eq_true rfl)) dX2_same_24 ⟨Nat.le_of_ble_eq_true rfl, Nat.le_of_ble_eq_true rfl⟩)).run (fun r_7 hq_7 => ?_)
          rcases hq_7 with ⟨rfl, hf_7⟩ | ⟨rfl, hf_7⟩
          ·
            exact W.zret (ty := .boolean) (v := 1) hx hb hr rfl (fun t ht hW => ⟨⟨1, (), rfl, (by decide), trivial⟩, hS.F ht⟩) hS.2.2 dX2_same_27
          · exact absurd hf_7 (by decide)
    ·
      refine lv_if_eq (tgt := 21) hx hb dX2_same_11 (by decide) (fun c11_8 => ?_) (fun c11_8 => ?_)
      · exact absurd c11_8 (by decide)
      ·
        refine lv_aload_n hx hb dX2_same_14 rfl (lv_at hl 0 rfl) ?_
        refine va_get (D := (dC, dI)) (ci := 3) (v := .int 0) (C := RX2) (T := TX2) (N := 13) hx hb hts (by decide +kernel) hown hK hP 0 rfl rfl 6 (by decide) (hts (.fieldLink RX2 94 "ThreeFilesModel" "wasClosed" "Z") (by decide +kernel)) (fun _ h9 => h9) rfl dX2_same_15 ?_
        refine lv_if_ne (tgt := 28) hx hb dX2_same_18 (by decide) (fun c18_9 => ?_) (fun c18_9 => ?_)
        · exact absurd (by decide) c18_9
        ·
          refine lv_iload_n hx hb dX2_same_21 rfl (lv_at hl 1 rfl) ?_
          refine lv_iconst (v := 0) hx hb dX2_same_22 (by decide) ?_
          refine lv_iconst (v := 2) hx hb dX2_same_23 (by decide) ?_
          have hPc := hP.sub (ws' := []) [] rfl
          have hKc := hK.sub (tys' := []) [] rfl
          refine vp_callSi ((va_runS (As := [.int 2, .int 0, .int 2]) (rest := []) ⟨hx, hb, hml, hown, hts⟩ (m_in l dC dI 2 0 2) (va_cwS 3 hts gX2_same_X2_in rfl rfl rfl (by decide +kernel) ⟨Nat.le_of_ble_eq_true rfl, Nat.le_of_ble_eq_true rfl⟩) ⟨fun a U g mk q => by obtain ⟨q0, qP, qK⟩ := q; exact ⟨q0, qP, va_K.moved (u := U) (U := U.calling g mk a) (Vm.Alike.refl U.vm) qK⟩, fun U hU hW => ⟨rfl, by rw [hU]; exact hPc, va_K.moved hW.alike hKc⟩⟩ rfl rfl hl.1 rfl (lv_room (Nat.le_of_ble_eq_true rfl)) dX2_same_24 ⟨Nat.le_of_ble_eq_true rfl, Nat.le_of_ble_eq_true rfl⟩)).run (fun r_10 hq_10 => ?_)
          rcases hq_10 with ⟨rfl, hf_10⟩ | ⟨rfl, hf_10⟩
          ·
            exact W.zret (ty := .boolean) (v := 1) hx hb hr rfl (fun t ht hW => ⟨⟨1, (), rfl, (by decide), trivial⟩, hS.F ht⟩) hS.2.2 dX2_same_27
          · exact absurd hf_10 (by decide)
  ·
    refine lv_if_eq (tgt := 21) hx hb dX2_same_11 (by decide) (fun c11_11 => ?_) (fun c11_11 => ?_)
    ·
      refine lv_iload_n hx hb dX2_same_21 rfl (lv_at hl 1 rfl) ?_
      refine lv_iconst (v := 0) hx hb dX2_same_22 (by decide) ?_
      refine lv_iconst (v := 2) hx hb dX2_same_23 (by decide) ?_
      have hPc := hP.sub (ws' := []) [] rfl
      have hKc := hK.sub (tys' := []) [] rfl
      refine vp_callSi ((va_runS (As := [.int p0, .int 0, .int 2]) (rest := []) ⟨hx, hb, hml, hown, hts⟩ (m_in l dC dI p0 0 2) (va_cwS 3 hts gX2_same_X2_in rfl rfl rfl (by decide +kernel) ⟨Nat.le_of_ble_eq_true rfl, Nat.le_of_ble_eq_true rfl⟩) ⟨fun a U g mk q => by obtain ⟨q0, qP, qK⟩ := q; exact ⟨q0, qP, va_K.moved (u := U) (U := U.calling g mk a) (Vm.Alike.refl U.vm) qK⟩, fun U hU hW => ⟨rfl, by rw [hU]; exact hPc, va_K.moved hW.alike hKc⟩⟩ rfl rfl hl.1 rfl (lv_room (Nat.le_of_ble_eq_true rfl)) dX2_same_24 ⟨Nat.le_of_ble_eq_true rfl, Nat.le_of_ble_eq_true rfl⟩)).run (fun r_12 hq_12 => ?_)
      rcases hq_12 with ⟨rfl, hf_12⟩ | ⟨rfl, hf_12⟩
      · exact absurd (q_in3 hf_12) (q_nofile (q_out2 hf_1))
      ·
        exact W.zret (ty := .boolean) (v := 0) hx hb hr rfl (fun t ht hW => ⟨⟨0, (), rfl, (if_neg (q_nofile (q_out2 hf_1))).symm, trivial⟩, hS.F ht⟩) hS.2.2 dX2_same_27
    · exact absurd (by decide) c11_11

set_option maxHeartbeats 4000000 in
set_option maxRecDepth 100000 in
theorem m_odd (l : Launch) (dC : Nat → ClassId) (dI : Nat → Nat → Nat) (sz : Nat) (y mb mz ob oz fd md : Nat) (kz : ClassId) (pv th : Int32) (p0 : Int32) : Met l yX2_odd wsX2_odd ({ frames := 1, cells := 0, slots := 0, locals := 22 }) (va_Pc [.ref y, .int p0] (fun U => U.heap.size = sz ∧ va_P (dC, dI) vwCl [(y, .inr (3, [.int th, .int pv, .ref mb, .ref mz, .ref ob, .ref oz, .int 0, .int 0, .int 0, .ref fd, .ref md, .int 0, .int 0])), (mz, .inl (kz, 3, .inl (fun _ => 0)))] U.heap ∧ va_K (dC, dI) vwCl [(kz, .int)] U ∧ va_D (fun _ => True) [(y, .inr (3, [.int th, .int pv, .ref mb, .ref mz, .ref ob, .ref oz, .int 0, .int 0, .int 0, .ref fd, .ref md, .int 0, .int 0])), (mz, .inl (kz, 3, .inl (fun _ => 0)))])) (va_Qi (fun r (_ : Unit) => r = (-1)) (fun _ _ => True) (va_A [(y, .inr (3, [.int th, .int pv, .ref mb, .ref mz, .ref ob, .ref oz, .int 0, .int 0, .int 0, .ref fd, .ref md, .int 0, .int 0])), (mz, .inl (kz, 3, .inl (fun _ => 0)))] sz)) 0 0 (va_A [(y, .inr (3, [.int th, .int pv, .ref mb, .ref mz, .ref ob, .ref oz, .int 0, .int 0, .int 0, .ref fd, .ref md, .int 0, .int 0])), (mz, .inl (kz, 3, .inl (fun _ => 0)))] sz) := by
  refine Met.ofW (cc := cX2_odd) (maxL := 2) (ret := (some .int)) (by decide) rfl ?_
  intro p e s m args below meth c s₁ B hml hv
  obtain ⟨rfl, hsz, hP, hK, hD0⟩ := hv
  have hx := B.exec
  have hb := B.bytes
  have hr := B.returns
  have hts := atoms_spec (ws := wsX2_odd) B.pre
  have hown : s.vm.findClass RX2 = some m.cls := findClass_of_methodNamed B.named
  have hlocks := B.notSynchronized
  subst hsz
  have hD := hD0.self (sz := s.heap.size)
  generalize hAe : va_A [(y, .inr (3, [.int th, .int pv, .ref mb, .ref mz, .ref ob, .ref oz, .int 0, .int 0, .int 0, .ref fd, .ref md, .int 0, .int 0])), (mz, .inl (kz, 3, .inl (fun _ => 0)))] s.heap.size = A at hD ⊢
  have hA : ∀ q : Nat, s.heap.size ≤ q → A q := fun q h => by rw [← hAe]; exact Or.inr h
  have hS : va_S A s.heap s.heap [] := va_S.rf
  have hP : va_P (dC, dI) vwCl [(y, .inr (3, [.int th, .int pv, .ref mb, .ref mz, .ref ob, .ref oz, .int 0, .int 0, .int 0, .ref fd, .ref md, .int 0, .int 0])), (mz, .inl (kz, 3, .inl (fun _ => 0)))] s.heap := hP
  have hl := lv_entry ([.ref y, .int p0]) (n := 2) (Nat.le_of_ble_eq_true rfl)
  rw [lg_entry_eq]
  generalize (lg_sl ([.ref y, .int p0]) ++ List.replicate (2 - (lg_sl ([.ref y, .int p0])).length) Slot.unset).toArray = ls at hl ⊢
  have hl : lv_has ls 2 [(0, .ref y), (1, .int p0)] := hl
  have hH0 : s.heap.size ≤ s.heap.size := Nat.le_refl _
  refine lv_aload_n hx hb dX2_odd_0 rfl (lv_at hl 0 rfl) ?_
  refine lv_iconst (v := 0) hx hb dX2_odd_1 (by decide) ?_
  refine va_put (D := (dC, dI)) (ci := 3) (v := .int 0) (ty := .int) (C := RX2) (T := TX2) (N := 13) hx hb hts (by decide +kernel) tyX2 tyX2_ok nmX2 hown hK hP hD hS 0 rfl rfl 0 (by decide) (hts (.fieldLink RX2 32 "ThreeFilesModel" "thrown" "I") (by decide +kernel)) (fun _ h9 => h9) rfl (by decide +kernel) rfl rfl (Nat.le_of_ble_eq_true rfl) dX2_odd_2 (fun H locs hP hD hS => ?_)
  have hP : va_P (dC, dI) vwCl [(y, .inr (3, [.int 0, .int pv, .ref mb, .ref mz, .ref ob, .ref oz, .int 0, .int 0, .int 0, .ref fd, .ref md, .int 0, .int 0])), (mz, .inl (kz, 3, .inl (fun _ => 0)))] H := hP
  have hD : va_D A [(y, .inr (3, [.int 0, .int pv, .ref mb, .ref mz, .ref ob, .ref oz, .int 0, .int 0, .int 0, .ref fd, .ref md, .int 0, .int 0])), (mz, .inl (kz, 3, .inl (fun _ => 0)))] := hD
  refine lv_iload_n hx hb dX2_odd_5 rfl (lv_at hl 1 rfl) ?_
  refine lv_iconst (v := 0) hx hb dX2_odd_6 (by decide) ?_
  refine lv_aload_n hx hb dX2_odd_7 rfl (lv_at hl 0 rfl) ?_
  have hPc := hP.sub (ws' := [(y, .inr (3, [.int 0, .int pv, .ref mb, .ref mz, .ref ob, .ref oz, .int 0, .int 0, .int 0, .ref fd, .ref md, .int 0, .int 0])), (mz, .inl (kz, 3, .inl (fun _ => 0)))]) [0, 1] rfl
  have hKc := hK.sub (tys' := [(kz, .int)]) [0] rfl
  refine vp_callSi ((va_runV (As := []) (rest := [.int 0, .int p0]) ⟨hx, hb, hml, hown, hts⟩ (m_stripes l dC dI y mb mz ob oz fd md kz pv 0) (cwV 0 hts gX2_odd_X2_stripes rfl rfl rfl (by decide +kernel) ⟨Nat.le_of_ble_eq_true rfl, Nat.le_of_ble_eq_true rfl⟩) ⟨fun a U g mk q => by obtain ⟨q0, qP, qK⟩ := q; exact ⟨q0, qP, va_K.moved (u := U) (U := U.calling g mk a) (Vm.Alike.refl U.vm) qK⟩, va_recv hKc hPc (ci := 3) (q0 := 0) rfl rfl, fun U hU hW => ⟨rfl, by rw [hU]; exact hPc, va_K.moved hW.alike hKc⟩⟩ rfl rfl hl.1 rfl (lv_room (Nat.le_of_ble_eq_true rfl)) dX2_odd_8 ⟨Nat.le_of_ble_eq_true rfl, Nat.le_of_ble_eq_true rfl⟩)).run (fun r_1 hq_1 => ?_)
  obtain rfl : r_1 = 0 := hq_1
  refine lv_iconst (v := 1) hx hb dX2_odd_11 (by decide) ?_
  refine lv_isub hx hb dX2_odd_12 ?_
  refine W.eq (g2 := F0 m 13 ls [.int ((-1)), .int 0, .int p0]) (by rfl) ?_
  have hPc := hP.sub (ws' := []) [] rfl
  have hKc := hK.sub (tys' := []) [] rfl
  refine vp_callSi ((va_runS (As := [.int p0, .int 0, .int ((-1))]) (rest := []) ⟨hx, hb, hml, hown, hts⟩ (m_in l dC dI p0 0 ((-1))) (va_cwS 3 hts gX2_odd_X2_in rfl rfl rfl (by decide +kernel) ⟨Nat.le_of_ble_eq_true rfl, Nat.le_of_ble_eq_true rfl⟩) ⟨fun a U g mk q => by obtain ⟨q0, qP, qK⟩ := q; exact ⟨q0, qP, va_K.moved (u := U) (U := U.calling g mk a) (Vm.Alike.refl U.vm) qK⟩, fun U hU hW => ⟨rfl, by rw [hU]; exact hPc, va_K.moved hW.alike hKc⟩⟩ rfl rfl hl.1 rfl (lv_room (Nat.le_of_ble_eq_true rfl)) dX2_odd_13 ⟨Nat.le_of_ble_eq_true rfl, Nat.le_of_ble_eq_true rfl⟩)).run (fun r_2 hq_2 => ?_)
  rcases hq_2 with ⟨rfl, hf_2⟩ | ⟨rfl, hf_2⟩
  · exact absurd hf_2.2 (q_gem1 hf_2.1)
  ·
    refine lv_if_eq (tgt := 25) hx hb dX2_odd_16 (by decide) (fun c16_3 => ?_) (fun c16_3 => ?_)
    ·
      refine lv_iconst (v := (-1)) hx hb dX2_odd_25 (by decide) ?_
      exact W.iret (v := (-1)) hx hb hr (fun t ht hW => ⟨⟨(-1), (), rfl, rfl, trivial⟩, hS.F ht⟩) hS.2.2 dX2_odd_26
    · exact absurd (by decide) c16_3

set_option maxHeartbeats 4000000 in
set_option maxRecDepth 100000 in
theorem m_size (l : Launch) (dC : Nat → ClassId) (dI : Nat → Nat → Nat) (sz : Nat) (y mb mz ob oz fd md : Nat) (kz : ClassId) (pv th : Int32) (p0 : Int32) : Met l yX2_size wsX2_size ({ frames := 1, cells := 0, slots := 0, locals := 22 }) (va_Pc [.ref y, .int p0] (fun U => U.heap.size = sz ∧ va_P (dC, dI) vwCl [(y, .inr (3, [.int th, .int pv, .ref mb, .ref mz, .ref ob, .ref oz, .int 0, .int 0, .int 0, .ref fd, .ref md, .int 0, .int 0])), (mz, .inl (kz, 3, .inl (fun _ => 0)))] U.heap ∧ va_K (dC, dI) vwCl [(kz, .int)] U ∧ va_D (fun _ => True) [(y, .inr (3, [.int th, .int pv, .ref mb, .ref mz, .ref ob, .ref oz, .int 0, .int 0, .int 0, .ref fd, .ref md, .int 0, .int 0])), (mz, .inl (kz, 3, .inl (fun _ => 0)))])) (va_Qi (fun r (_ : Unit) => r = (if 0 ≤ p0 ∧ p0 < 3 then 0 else (-1))) (fun _ _ => True) (va_A [(y, .inr (3, [.int th, .int pv, .ref mb, .ref mz, .ref ob, .ref oz, .int 0, .int 0, .int 0, .ref fd, .ref md, .int 0, .int 0])), (mz, .inl (kz, 3, .inl (fun _ => 0)))] sz)) 0 0 (va_A [(y, .inr (3, [.int th, .int pv, .ref mb, .ref mz, .ref ob, .ref oz, .int 0, .int 0, .int 0, .ref fd, .ref md, .int 0, .int 0])), (mz, .inl (kz, 3, .inl (fun _ => 0)))] sz) := by
  refine Met.ofW (cc := cX2_size) (maxL := 2) (ret := (some .int)) (by decide) rfl ?_
  intro p e s m args below meth c s₁ B hml hv
  obtain ⟨rfl, hsz, hP, hK, hD0⟩ := hv
  have hx := B.exec
  have hb := B.bytes
  have hr := B.returns
  have hts := atoms_spec (ws := wsX2_size) B.pre
  have hown : s.vm.findClass RX2 = some m.cls := findClass_of_methodNamed B.named
  have hlocks := B.notSynchronized
  subst hsz
  have hD := hD0.self (sz := s.heap.size)
  generalize hAe : va_A [(y, .inr (3, [.int th, .int pv, .ref mb, .ref mz, .ref ob, .ref oz, .int 0, .int 0, .int 0, .ref fd, .ref md, .int 0, .int 0])), (mz, .inl (kz, 3, .inl (fun _ => 0)))] s.heap.size = A at hD ⊢
  have hA : ∀ q : Nat, s.heap.size ≤ q → A q := fun q h => by rw [← hAe]; exact Or.inr h
  have hS : va_S A s.heap s.heap [] := va_S.rf
  have hP : va_P (dC, dI) vwCl [(y, .inr (3, [.int th, .int pv, .ref mb, .ref mz, .ref ob, .ref oz, .int 0, .int 0, .int 0, .ref fd, .ref md, .int 0, .int 0])), (mz, .inl (kz, 3, .inl (fun _ => 0)))] s.heap := hP
  have hl := lv_entry ([.ref y, .int p0]) (n := 2) (Nat.le_of_ble_eq_true rfl)
  rw [lg_entry_eq]
  generalize (lg_sl ([.ref y, .int p0]) ++ List.replicate (2 - (lg_sl ([.ref y, .int p0])).length) Slot.unset).toArray = ls at hl ⊢
  have hl : lv_has ls 2 [(0, .ref y), (1, .int p0)] := hl
  have hH0 : s.heap.size ≤ s.heap.size := Nat.le_refl _
  refine lv_aload_n hx hb dX2_size_0 rfl (lv_at hl 0 rfl) ?_
  refine lv_iconst (v := 0) hx hb dX2_size_1 (by decide) ?_
  refine va_put (D := (dC, dI)) (ci := 3) (v := .int 0) (ty := .int) (C := RX2) (T := TX2) (N := 13) hx hb hts (by decide +kernel) tyX2 tyX2_ok nmX2 hown hK hP hD hS 0 rfl rfl 0 (by decide) (hts (.fieldLink RX2 32 "ThreeFilesModel" "thrown" "I") (by decide +kernel)) (fun _ h9 => h9) rfl (by decide +kernel) rfl rfl (Nat.le_of_ble_eq_true rfl) dX2_size_2 (fun H locs hP hD hS => ?_)
  have hP : va_P (dC, dI) vwCl [(y, .inr (3, [.int 0, .int pv, .ref mb, .ref mz, .ref ob, .ref oz, .int 0, .int 0, .int 0, .ref fd, .ref md, .int 0, .int 0])), (mz, .inl (kz, 3, .inl (fun _ => 0)))] H := hP
  have hD : va_D A [(y, .inr (3, [.int 0, .int pv, .ref mb, .ref mz, .ref ob, .ref oz, .int 0, .int 0, .int 0, .ref fd, .ref md, .int 0, .int 0])), (mz, .inl (kz, 3, .inl (fun _ => 0)))] := hD
  refine lv_iload_n hx hb dX2_size_5 rfl (lv_at hl 1 rfl) ?_
  refine lv_iconst (v := 0) hx hb dX2_size_6 (by decide) ?_
  refine lv_iconst (v := 2) hx hb dX2_size_7 (by decide) ?_
  have hPc := hP.sub (ws' := []) [] rfl
  have hKc := hK.sub (tys' := []) [] rfl
  refine vp_callSi ((va_runS (As := [.int p0, .int 0, .int 2]) (rest := []) ⟨hx, hb, hml, hown, hts⟩ (m_in l dC dI p0 0 2) (va_cwS 3 hts gX2_size_X2_in rfl rfl rfl (by decide +kernel) ⟨Nat.le_of_ble_eq_true rfl, Nat.le_of_ble_eq_true rfl⟩) ⟨fun a U g mk q => by obtain ⟨q0, qP, qK⟩ := q; exact ⟨q0, qP, va_K.moved (u := U) (U := U.calling g mk a) (Vm.Alike.refl U.vm) qK⟩, fun U hU hW => ⟨rfl, by rw [hU]; exact hPc, va_K.moved hW.alike hKc⟩⟩ rfl rfl hl.1 rfl (lv_room (Nat.le_of_ble_eq_true rfl)) dX2_size_8 ⟨Nat.le_of_ble_eq_true rfl, Nat.le_of_ble_eq_true rfl⟩)).run (fun r_1 hq_1 => ?_)
  rcases hq_1 with ⟨rfl, hf_1⟩ | ⟨rfl, hf_1⟩
  ·
    rcases q_in2 hf_1 with rfl | rfl | rfl
    ·
      refine lv_if_eq (tgt := 23) hx hb dX2_size_11 (by decide) (fun c11_2 => ?_) (fun c11_2 => ?_)
      · exact absurd c11_2 (by decide)
      ·
        refine lv_aload_n hx hb dX2_size_14 rfl (lv_at hl 0 rfl) ?_
        refine va_get (D := (dC, dI)) (ci := 3) (v := .ref mz) (C := RX2) (T := TX2) (N := 13) hx hb hts (by decide +kernel) hown hK hP 0 rfl rfl 3 (by decide) (hts (.fieldLink RX2 13 "ThreeFilesModel" "sizes" "[I") (by decide +kernel)) (fun _ h9 => h9) rfl dX2_size_15 ?_
        refine lv_iload_n hx hb dX2_size_18 rfl (lv_at hl 1 rfl) ?_
        refine va_iald hx hb hK hP 1 0 rfl rfl (i := 0) (by unfold vp_in; decide) dX2_size_19 ?_
        refine W.eq (g2 := F0 m 20 ls [.int 0]) (by rfl) ?_
        refine lv_goto (tgt := 24) hx hb dX2_size_20 (by decide) ?_
        exact W.iret (v := 0) hx hb hr (fun t ht hW => ⟨⟨0, (), rfl, (by decide), trivial⟩, hS.F ht⟩) hS.2.2 dX2_size_24
    ·
      refine lv_if_eq (tgt := 23) hx hb dX2_size_11 (by decide) (fun c11_3 => ?_) (fun c11_3 => ?_)
      · exact absurd c11_3 (by decide)
      ·
        refine lv_aload_n hx hb dX2_size_14 rfl (lv_at hl 0 rfl) ?_
        refine va_get (D := (dC, dI)) (ci := 3) (v := .ref mz) (C := RX2) (T := TX2) (N := 13) hx hb hts (by decide +kernel) hown hK hP 0 rfl rfl 3 (by decide) (hts (.fieldLink RX2 13 "ThreeFilesModel" "sizes" "[I") (by decide +kernel)) (fun _ h9 => h9) rfl dX2_size_15 ?_
        refine lv_iload_n hx hb dX2_size_18 rfl (lv_at hl 1 rfl) ?_
        refine va_iald hx hb hK hP 1 0 rfl rfl (i := 1) (by unfold vp_in; decide) dX2_size_19 ?_
        refine W.eq (g2 := F0 m 20 ls [.int 0]) (by rfl) ?_
        refine lv_goto (tgt := 24) hx hb dX2_size_20 (by decide) ?_
        exact W.iret (v := 0) hx hb hr (fun t ht hW => ⟨⟨0, (), rfl, (by decide), trivial⟩, hS.F ht⟩) hS.2.2 dX2_size_24
    ·
      refine lv_if_eq (tgt := 23) hx hb dX2_size_11 (by decide) (fun c11_4 => ?_) (fun c11_4 => ?_)
      · exact absurd c11_4 (by decide)
      ·
        refine lv_aload_n hx hb dX2_size_14 rfl (lv_at hl 0 rfl) ?_
        refine va_get (D := (dC, dI)) (ci := 3) (v := .ref mz) (C := RX2) (T := TX2) (N := 13) hx hb hts (by decide +kernel) hown hK hP 0 rfl rfl 3 (by decide) (hts (.fieldLink RX2 13 "ThreeFilesModel" "sizes" "[I") (by decide +kernel)) (fun _ h9 => h9) rfl dX2_size_15 ?_
        refine lv_iload_n hx hb dX2_size_18 rfl (lv_at hl 1 rfl) ?_
        refine va_iald hx hb hK hP 1 0 rfl rfl (i := 2) (by unfold vp_in; decide) dX2_size_19 ?_
        refine W.eq (g2 := F0 m 20 ls [.int 0]) (by rfl) ?_
        refine lv_goto (tgt := 24) hx hb dX2_size_20 (by decide) ?_
        exact W.iret (v := 0) hx hb hr (fun t ht hW => ⟨⟨0, (), rfl, (by decide), trivial⟩, hS.F ht⟩) hS.2.2 dX2_size_24
  ·
    refine lv_if_eq (tgt := 23) hx hb dX2_size_11 (by decide) (fun c11_5 => ?_) (fun c11_5 => ?_)
    ·
      refine lv_iconst (v := (-1)) hx hb dX2_size_23 (by decide) ?_
      exact W.iret (v := (-1)) hx hb hr (fun t ht hW => ⟨⟨(-1), (), rfl, (if_neg (q_nofile (q_out2 hf_1))).symm, trivial⟩, hS.F ht⟩) hS.2.2 dX2_size_24
    · exact absurd (by decide) c11_5
