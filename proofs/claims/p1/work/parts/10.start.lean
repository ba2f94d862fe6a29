set_option maxHeartbeats 4000000 in
set_option maxRecDepth 100000 in
theorem l_cell (l : Launch) (b L : Nat) (xs : Nat → Int32) (hL : L ≤ 5) : Met l yL_cell wsL_cell ({ frames := 0, cells := 0, slots := 0, locals := 0 }) (va_Pc [.ref b, .int 0] (fun U => va_X b L xs U U.heap)) (vp_Si (fun r => r = (if 0 < L then xs 0 else 0))) 0 0 (fun _ => False) := by
  refine Met.ofW (cc := cL_cell) (maxL := 2) (ret := (some .int)) (by decide) rfl ?_
  intro p e s m args below meth c s₁ B hml hv
  obtain ⟨rfl, hX⟩ := hv
  have hx := B.exec
  have hb := B.bytes
  have hr := B.returns
  have hlocks := B.notSynchronized
  have hbl : b < s.heap.size := by
    obtain ⟨scr, h1, -⟩ := hX
    exact (Array.getElem?_eq_some_iff.mp h1).1
  have hl := lv_entry ([.ref b, .int 0]) (n := 2) (Nat.le_of_ble_eq_true rfl)
  rw [lg_entry_eq]
  generalize (lg_sl ([.ref b, .int 0]) ++ List.replicate (2 - (lg_sl ([.ref b, .int 0])).length) Slot.unset).toArray = ls at hl ⊢
  have hl : lv_has ls 2 [(0, .ref b), (1, .int 0)] := hl
  refine lv_iload_n hx hb dL_cell_0 rfl (lv_at hl 1 rfl) ?_
  refine lv_aload_n hx hb dL_cell_1 rfl (lv_at hl 0 rfl) ?_
  refine va_slen (A := fun _ => False) hx hb hX hbl (fun h => h) va_S.rf dL_cell_2 ?_
  refine lv_icmp_ge (tgt := 12) hx hb dL_cell_3 (by decide) (fun c3 => ?_) (fun c3 => ?_)
  · refine lv_iconst (v := 0) hx hb dL_cell_12 (by decide) ?_
    exact W.iret (v := 0) hx hb hr (fun t ht hW => ⟨0, rfl, (if_neg (fun q => nI_nle q (by omega) c3)).symm, ht⟩) (fun _ h => absurd h List.not_mem_nil) dL_cell_13
  · have h0 : 0 < L := by
      rcases Nat.eq_zero_or_pos L with h | h
      · subst h
        exact absurd (by decide) c3
      · exact h
    refine lv_aload_n hx hb dL_cell_6 rfl (lv_at hl 0 rfl) ?_
    refine lv_iload_n hx hb dL_cell_7 rfl (lv_at hl 1 rfl) ?_
    refine va_sld (A := fun _ => False) (i := 0) hx hb hX hbl (fun h => h) va_S.rf (show vp_in (nI 0) L from vp_in_nI h0 (by omega)) dL_cell_8 ?_
    refine W.eq (g2 := F0 m 9 ls [.int (xs 0)]) (by rfl) ?_
    refine lv_goto (tgt := 13) hx hb dL_cell_9 (by decide) ?_
    exact W.iret (v := xs 0) hx hb hr (fun t ht hW => ⟨xs 0, rfl, (if_pos h0).symm, ht⟩) (fun _ h => absurd h List.not_mem_nil) dL_cell_13
theorem spPc_nI (p : Int32) : ∃ k : Nat, 1 ≤ k ∧ k ≤ 64 ∧ spPc p = nI k := by
  rcases pc_cases p with h | h | ⟨k, h1, h2, h3⟩
  · exact ⟨1, by omega, by omega, (pc_a h).symm⟩
  · exact ⟨1, by omega, by omega, (pc_b h).symm⟩
  · exact ⟨k, h1, h2, (pc_c h3 h1 h2).symm.trans h3⟩
set_option maxHeartbeats 4000000 in
theorem law_exit {p : Program} {l : Launch} {e : Env} {s : State} {m : MethodId} {below : List Frame} {meth : Method} {c : Code} {b L : Nat} {xs : Nat → Int32} (hL : L < 5) (C0 : lw_At p s m meth c b L xs) {A : Nat → Prop} (hA2 : ∀ q, A q → s.heap.size ≤ q) {H : Heap} {locs : List Loc} {cells slots : Nat} (hc : cells ≤ 600002) (hs : slots ≤ 7302198) (hS : va_S A s.heap H locs) {ls : Array Slot} (hl : lv_has ls 7 [(0, .ref b), (4, .int 1)]) : W p l e room_1 s m #[Value.ref b] below meth c H locs cells slots (lw_Z below #[Value.ref b] s) (F0 m 33 ls []) := by
  obtain ⟨hx, hb, hr, hml, hown, hts0, hX, hbl, hlocks, hgv⟩ := id C0
  have hbA : ¬ A b := fun h => absurd (hA2 _ h) (Nat.not_le.mpr hbl)
  refine lv_iload hx hb dL_law_33 (lv_at hl 1 rfl) ?_
  refine lv_aload_n hx hb dL_law_35 rfl (lv_at hl 0 rfl) ?_
  refine va_slen hx hb hX hbl hbA hS dL_law_36 ?_
  refine lv_iconst (v := 4) hx hb dL_law_37 (by decide) ?_
  refine lv_isub hx hb dL_law_38 ?_
  refine lv_icmp_gt (tgt := 601) hx hb dL_law_39 (by decide) (fun c39 => ?_) (fun c39 => ?_)
  · refine lv_iconst (v := 1) hx hb dL_law_601 (by decide) ?_
    refine W.widen (k := 600002) (n := 7302198) hc hs ?_
    refine va_forget (fun q hq => hA2 _ (hS.2.2 q hq)) ?_
    exact lw_ret hx hb hr hlocks dL_law_602
  · refine absurd ?_ c39
    rcases (show L = 4 ∨ L = 3 ∨ L = 2 ∨ L = 1 ∨ L = 0 by omega) with h | h | h | h | h <;> (rw [h]; decide)
set_option maxHeartbeats 4000000 in
set_option maxRecDepth 100000 in
theorem whole_start {p : Program} {e : Env} {s : State} {m : MethodId} {below : List Frame} {meth : Method} {c : Code} (l : Launch) (hfl : l.flags = flags0) {b L : Nat} {xs : Nat → Int32} (hL : L ≤ 5) (C0 : lw_At p s m meth c b L xs) : W p l e room_1 s m #[Value.ref b] below meth c s.heap [] 0 0 (lw_Z below #[Value.ref b] s) (entryFrame m ([Value.ref b] : List Value).toArray 7) := by
  obtain ⟨hx, hb, hr, hml, hown, hts0, hX, hbl, hlocks, hgv⟩ := id C0
  have hts : ∀ w ∈ wsL_law, w.before #[Value.ref b] s = true := fun w h => hts0 w (wsL_law_in w h)
  have hown : s.vm.findClass RL = some m.cls := hown
  have hN : nwP s := nw_law hts0
  obtain ⟨A, hAe⟩ : ∃ A : Nat → Prop, A = fun q : Nat => s.heap.size ≤ q := ⟨_, rfl⟩
  have hA : ∀ q : Nat, s.heap.size ≤ q → A q := fun q h => by rw [hAe]; exact h
  have hA2 : ∀ q : Nat, A q → s.heap.size ≤ q := fun q h => by rw [hAe] at h; exact h
  have hbA : ¬ A b := fun h => absurd (hA2 _ h) (Nat.not_le.mpr hbl)
  obtain ⟨c0v, iS0, hKn0⟩ := u_known (C := RJx00060) (T := TJx00060) (N := 6) (n := 6) hts0 inJx00060 (hts (.instantiable RJx00060 6) (by decide +kernel))
  obtain ⟨c1v, iS1, hKn1⟩ := u_known (C := RX0) (T := TX0) (N := 5) (n := 5) hts0 inX0 (hts (.instantiable RX0 5) (by decide +kernel))
  obtain ⟨c2v, iS2, hKn2⟩ := u_known (C := RX1) (T := TX1) (N := 8) (n := 8) hts0 inX1 (hts (.instantiable RX1 8) (by decide +kernel))
  obtain ⟨c3v, iS3, hKn3⟩ := u_known (C := RX2) (T := TX2) (N := 13) (n := 13) hts0 inX2 (hts (.instantiable RX2 13) (by decide +kernel))
  obtain ⟨dC, dI, hKc⟩ : ∃ (dC : Nat → ClassId) (dI : Nat → Nat → Nat), ∀ (k : Nat) (q : vw_C), vwCl[k]? = some q → u_Kn s q.1 q.2.1 q.2.2 (dC k) (dI k) := by
    refine ⟨fun k => if k = 0 then c0v else if k = 1 then c1v else if k = 2 then c2v else c3v, fun k => if k = 0 then iS0 else if k = 1 then iS1 else if k = 2 then iS2 else iS3, ?_⟩
    intro k q hq
    match k, hq with
    | 0, hq => cases hq; exact hKn0
    | 1, hq => cases hq; exact hKn1
    | 2, hq => cases hq; exact hKn2
    | 3, hq => cases hq; exact hKn3
    | k + 4, hq => simp [vwCl] at hq
  have hS : va_S A s.heap s.heap [] := va_S.rf
  have hK : va_K (dC, dI) vwCl [] s := ⟨hKc, fun k q h => by simp at h⟩
  have hP : va_P (dC, dI) vwCl [] s.heap := fun k q h => by simp at h
  have hD : va_D A [] := ⟨fun i j p q h => by simp at h, fun k q h => by simp at h⟩
  have hl := lv_entry ([.ref b]) (n := 7) (Nat.le_of_ble_eq_true rfl)
  rw [lg_entry_eq]
  generalize (lg_sl ([.ref b]) ++ List.replicate (7 - (lg_sl ([.ref b])).length) Slot.unset).toArray = ls at hl ⊢
  have hl : lv_has ls 7 [(0, .ref b)] := hl
  refine va_new (ci := 2) (fs := [.int 0, .null, .null, .int 0, .int 0, .int 0, .int 0, .int 0]) (C := RX1) (T := TX1) (N := 8) hx hb hts (by decide +kernel) tyX1 tyX1_ok hown (hts (.classLink RL 8 RX1) (by decide +kernel)) (hts (.instantiable RX1 8) (by decide +kernel)) (hts (.initialized RX1) (by decide +kernel)) hK hP hD hS hA rfl (fun j hj => by rcases (show j = 0 ∨ j = 1 ∨ j = 2 ∨ j = 3 ∨ j = 4 ∨ j = 5 ∨ j = 6 ∨ j = 7 by omega) with rfl | rfl | rfl | rfl | rfl | rfl | rfl | rfl <;> rfl) (show 1 ≤ 600002 by decide) (show 0 + 8 ≤ 7302198 by decide) dL_law_0 (fun q0_1 H hP hD hS => ?_)
  have hP : va_P (dC, dI) vwCl [(q0_1, .inr (2, [.int 0, .null, .null, .int 0, .int 0, .int 0, .int 0, .int 0]))] H := hP
  have hD : va_D A [(q0_1, .inr (2, [.int 0, .null, .null, .int 0, .int 0, .int 0, .int 0, .int 0]))] := hD
  refine W.widen (k := 1) (n := 8) (by omega) (by omega) ?_
  refine lv_dup hx hb dL_law_3 rfl ?_
  refine lv_aload_n hx hb dL_law_4 rfl (lv_at hl 0 rfl) ?_
  refine lv_iconst (v := 0) hx hb dL_law_5 (by decide) ?_
  refine vp_callSi ((va_runS (As := [.ref b, .int 0]) (rest := [.ref q0_1, .ref q0_1]) ⟨hx, hb, hml, hown, hts⟩ (l_cell l b L xs hL) (va_cwS 2 hts gL_law_L_cell rfl rfl rfl (by decide +kernel) ⟨Nat.le_of_ble_eq_true rfl, Nat.le_of_ble_eq_true rfl⟩) ⟨fun a U g mk q => ⟨q.1, va_X.moved (u := U) (U := U.calling g mk a) (Vm.Alike.refl U.vm) q.2⟩, fun U hU hW => ⟨rfl, by show va_X b L xs U U.heap; rw [hU]; exact va_X.moved hW.alike (hX.kept (hS.2.1 b hbl hbA))⟩⟩ rfl rfl hl.1 rfl (lv_room (Nat.le_of_ble_eq_true rfl)) dL_law_6 ⟨Nat.le_of_ble_eq_true rfl, Nat.le_of_ble_eq_true rfl⟩).run) (fun z1 hcz1 => ?_)
  have hPc := hP.sub (ws' := [(q0_1, .inr (2, [.int 0, .null, .null, .int 0, .int 0, .int 0, .int 0, .int 0]))]) [0] rfl
  have hKc := hK.sub (tys' := []) [] rfl
  have hDc := hD.sub (ws' := [(q0_1, .inr (2, [.int 0, .null, .null, .int 0, .int 0, .int 0, .int 0, .int 0]))]) [0] (by decide) rfl
  have hFc := va_free (wc := [(q0_1, .inr (2, [.int 0, .null, .null, .int 0, .int 0, .int 0, .int 0, .int 0]))]) hD hS hA [0] rfl
  refine va_callv (va_runI (As := [.int z1]) (rest := [.ref q0_1]) ⟨hx, hb, hml, hown, hts⟩ (c_X1_init l dC dI H.size q0_1 z1) (cwI 1 hts gL_law_X1_init rfl rfl rfl (hts (.initialized RX1) (by decide +kernel)) (hts (.methodLink RL 21 yX1_init) (by decide +kernel)) (hts (.instanceMethod yX1_init) (by decide +kernel)) rfl (by decide +kernel) ⟨Nat.le_of_ble_eq_true rfl, Nat.le_of_ble_eq_true rfl⟩) ⟨fun a U g mk q => by obtain ⟨q0, qN, q1, qP, qK, qD⟩ := q; exact ⟨q0, nwS qN, q1, qP, va_K.moved (u := U) (U := U.calling g mk a) (Vm.Alike.refl U.vm) qK, qD⟩, fun U hU hW => ⟨rfl, nwW hW hN, by rw [hU], by rw [hU]; exact hPc, va_K.moved hW.alike hKc, hDc.weaken (fun _ _ _ _ => trivial)⟩⟩ rfl rfl hl.1 rfl (lv_room (Nat.le_of_ble_eq_true rfl)) dL_law_9 ⟨Nat.le_of_ble_eq_true rfl, Nat.le_of_ble_eq_true rfl⟩) hS (fun q _ h => hFc q h) hFc (fun pv t H1 locs ht hvm hpx hB hz1 hk1 hS => ?_)
  obtain ⟨N, a, f0, f1, f2, fe, b0, r0, b1, r1, b2, r2, cR, cF, c0, d0, c1, d1, c2, d2, hNN, hP1, hK1, hD1⟩ := hB
  rw [ht] at hP1
  have hK1 := va_K.moved hvm.symm hK1
  obtain ⟨hP, hD⟩ := va_join (wr := []) (w1 := [(q0_1, .inr (2, [.int pv, .ref a, .ref fe, .int 0, .int 0, .int 0, .int 0, .int 0])), (a, .inl (cR, 3, .inr (.inr (.inr (.inr (gF f0 f1 f2)))))), (f0, .inr (1, [.int 0, .ref b0, .ref r0, .int 0, .int 0])), (f1, .inr (1, [.int 1, .ref b1, .ref r1, .int 0, .int 0])), (f2, .inr (1, [.int 2, .ref b2, .ref r2, .int 0, .int 0])), (fe, .inl (cF, 16, .inl (fun _ => 0))), (b0, .inl (c0, N, .inl (fun _ => 0))), (r0, .inl (d0, N, .inl (fun _ => 0))), (b1, .inl (c1, N, .inl (fun _ => 0))), (r1, .inl (d1, N, .inl (fun _ => 0))), (b2, .inl (c2, N, .inl (fun _ => 0))), (r2, .inl (d2, N, .inl (fun _ => 0)))]) hP hD [0] [] rfl rfl (by decide) (by decide) hk1 hFc hP1 hD1
  have hK := (hK.sub (tys' := []) [] rfl).app hK1
  generalize H1 = H at hP hS ⊢
  have hP : va_P (dC, dI) vwCl [(q0_1, .inr (2, [.int pv, .ref a, .ref fe, .int 0, .int 0, .int 0, .int 0, .int 0])), (a, .inl (cR, 3, .inr (.inr (.inr (.inr (gF f0 f1 f2)))))), (f0, .inr (1, [.int 0, .ref b0, .ref r0, .int 0, .int 0])), (f1, .inr (1, [.int 1, .ref b1, .ref r1, .int 0, .int 0])), (f2, .inr (1, [.int 2, .ref b2, .ref r2, .int 0, .int 0])), (fe, .inl (cF, 16, .inl (fun _ => 0))), (b0, .inl (c0, N, .inl (fun _ => 0))), (r0, .inl (d0, N, .inl (fun _ => 0))), (b1, .inl (c1, N, .inl (fun _ => 0))), (r1, .inl (d1, N, .inl (fun _ => 0))), (b2, .inl (c2, N, .inl (fun _ => 0))), (r2, .inl (d2, N, .inl (fun _ => 0)))] H := hP
  have hD : va_D A [(q0_1, .inr (2, [.int pv, .ref a, .ref fe, .int 0, .int 0, .int 0, .int 0, .int 0])), (a, .inl (cR, 3, .inr (.inr (.inr (.inr (gF f0 f1 f2)))))), (f0, .inr (1, [.int 0, .ref b0, .ref r0, .int 0, .int 0])), (f1, .inr (1, [.int 1, .ref b1, .ref r1, .int 0, .int 0])), (f2, .inr (1, [.int 2, .ref b2, .ref r2, .int 0, .int 0])), (fe, .inl (cF, 16, .inl (fun _ => 0))), (b0, .inl (c0, N, .inl (fun _ => 0))), (r0, .inl (d0, N, .inl (fun _ => 0))), (b1, .inl (c1, N, .inl (fun _ => 0))), (r1, .inl (d1, N, .inl (fun _ => 0))), (b2, .inl (c2, N, .inl (fun _ => 0))), (r2, .inl (d2, N, .inl (fun _ => 0)))] := hD
  have hK : va_K (dC, dI) vwCl [(cR, (.object "ThreeFiles$StoredFile")), (cF, .int), (c0, .int), (d0, .int), (c1, .int), (d1, .int), (c2, .int), (d2, .int)] s := hK
  refine W.widen (k := 12) (n := 9258) (by omega) (by omega) ?_
  refine lv_astore_n (lv' := [(1, .ref q0_1), (0, .ref b)]) hx hb dL_law_12 rfl hl (by decide) rfl (fun ls hl => ?_)
  refine va_new (ci := 3) (fs := [.int 0, .int 0, .null, .null, .null, .null, .int 0, .int 0, .int 0, .null, .null, .int 0, .int 0]) (C := RX2) (T := TX2) (N := 13) hx hb hts (by decide +kernel) tyX2 tyX2_ok hown (hts (.classLink RL 24 RX2) (by decide +kernel)) (hts (.instantiable RX2 13) (by decide +kernel)) (hts (.initialized RX2) (by decide +kernel)) hK hP hD hS hA rfl (fun j hj => by rcases (show j = 0 ∨ j = 1 ∨ j = 2 ∨ j = 3 ∨ j = 4 ∨ j = 5 ∨ j = 6 ∨ j = 7 ∨ j = 8 ∨ j = 9 ∨ j = 10 ∨ j = 11 ∨ j = 12 by omega) with rfl | rfl | rfl | rfl | rfl | rfl | rfl | rfl | rfl | rfl | rfl | rfl | rfl <;> rfl) (show 13 ≤ 600002 by decide) (show 9258 + 13 ≤ 7302198 by decide) dL_law_13 (fun q13_2 H hP hD hS => ?_)
  have hP : va_P (dC, dI) vwCl [(q0_1, .inr (2, [.int pv, .ref a, .ref fe, .int 0, .int 0, .int 0, .int 0, .int 0])), (a, .inl (cR, 3, .inr (.inr (.inr (.inr (gF f0 f1 f2)))))), (f0, .inr (1, [.int 0, .ref b0, .ref r0, .int 0, .int 0])), (f1, .inr (1, [.int 1, .ref b1, .ref r1, .int 0, .int 0])), (f2, .inr (1, [.int 2, .ref b2, .ref r2, .int 0, .int 0])), (fe, .inl (cF, 16, .inl (fun _ => 0))), (b0, .inl (c0, N, .inl (fun _ => 0))), (r0, .inl (d0, N, .inl (fun _ => 0))), (b1, .inl (c1, N, .inl (fun _ => 0))), (r1, .inl (d1, N, .inl (fun _ => 0))), (b2, .inl (c2, N, .inl (fun _ => 0))), (r2, .inl (d2, N, .inl (fun _ => 0))), (q13_2, .inr (3, [.int 0, .int 0, .null, .null, .null, .null, .int 0, .int 0, .int 0, .null, .null, .int 0, .int 0]))] H := hP
  have hD : va_D A [(q0_1, .inr (2, [.int pv, .ref a, .ref fe, .int 0, .int 0, .int 0, .int 0, .int 0])), (a, .inl (cR, 3, .inr (.inr (.inr (.inr (gF f0 f1 f2)))))), (f0, .inr (1, [.int 0, .ref b0, .ref r0, .int 0, .int 0])), (f1, .inr (1, [.int 1, .ref b1, .ref r1, .int 0, .int 0])), (f2, .inr (1, [.int 2, .ref b2, .ref r2, .int 0, .int 0])), (fe, .inl (cF, 16, .inl (fun _ => 0))), (b0, .inl (c0, N, .inl (fun _ => 0))), (r0, .inl (d0, N, .inl (fun _ => 0))), (b1, .inl (c1, N, .inl (fun _ => 0))), (r1, .inl (d1, N, .inl (fun _ => 0))), (b2, .inl (c2, N, .inl (fun _ => 0))), (r2, .inl (d2, N, .inl (fun _ => 0))), (q13_2, .inr (3, [.int 0, .int 0, .null, .null, .null, .null, .int 0, .int 0, .int 0, .null, .null, .int 0, .int 0]))] := hD
  refine W.widen (k := 13) (n := 9271) (by omega) (by omega) ?_
  refine lv_dup hx hb dL_law_16 rfl ?_
  refine lv_aload_n hx hb dL_law_17 rfl (lv_at hl 1 rfl) ?_
  refine lv_iconst (v := 0) hx hb dL_law_18 (by decide) ?_
  refine vp_callSi ((va_runS (As := [.ref b, .int 0]) (rest := [.ref q13_2, .ref q13_2]) ⟨hx, hb, hml, hown, hts⟩ (l_cell l b L xs hL) (va_cwS 2 hts gL_law_L_cell rfl rfl rfl (by decide +kernel) ⟨Nat.le_of_ble_eq_true rfl, Nat.le_of_ble_eq_true rfl⟩) ⟨fun a U g mk q => ⟨q.1, va_X.moved (u := U) (U := U.calling g mk a) (Vm.Alike.refl U.vm) q.2⟩, fun U hU hW => ⟨rfl, by show va_X b L xs U U.heap; rw [hU]; exact va_X.moved hW.alike (hX.kept (hS.2.1 b hbl hbA))⟩⟩ rfl rfl hl.1 rfl (lv_room (Nat.le_of_ble_eq_true rfl)) dL_law_19 ⟨Nat.le_of_ble_eq_true rfl, Nat.le_of_ble_eq_true rfl⟩).run) (fun z2 hcz2 => ?_)
  have hPc := hP.sub (ws' := [(q13_2, .inr (3, [.int 0, .int 0, .null, .null, .null, .null, .int 0, .int 0, .int 0, .null, .null, .int 0, .int 0]))]) [12] rfl
  have hKc := hK.sub (tys' := []) [] rfl
  have hDc := hD.sub (ws' := [(q13_2, .inr (3, [.int 0, .int 0, .null, .null, .null, .null, .int 0, .int 0, .int 0, .null, .null, .int 0, .int 0]))]) [12] (by decide) rfl
  have hFc := va_free (wc := [(q13_2, .inr (3, [.int 0, .int 0, .null, .null, .null, .null, .int 0, .int 0, .int 0, .null, .null, .int 0, .int 0]))]) hD hS hA [12] rfl
  refine va_callv (va_runI (As := [.int z2]) (rest := [.ref q13_2]) ⟨hx, hb, hml, hown, hts⟩ (m_init l dC dI H.size q13_2 z2) (cwI 1 hts gL_law_X2_init rfl rfl rfl (hts (.initialized RX2) (by decide +kernel)) (hts (.methodLink RL 26 yX2_init) (by decide +kernel)) (hts (.instanceMethod yX2_init) (by decide +kernel)) rfl (by decide +kernel) ⟨Nat.le_of_ble_eq_true rfl, Nat.le_of_ble_eq_true rfl⟩) ⟨fun a U g mk q => by obtain ⟨q0, q1, qP, qK, qD⟩ := q; exact ⟨q0, q1, qP, va_K.moved (u := U) (U := U.calling g mk a) (Vm.Alike.refl U.vm) qK, qD⟩, fun U hU hW => ⟨rfl, by rw [hU], by rw [hU]; exact hPc, va_K.moved hW.alike hKc, hDc.weaken (fun _ _ _ _ => trivial)⟩⟩ rfl rfl hl.1 rfl (lv_room (Nat.le_of_ble_eq_true rfl)) dL_law_22 ⟨Nat.le_of_ble_eq_true rfl, Nat.le_of_ble_eq_true rfl⟩) hS (fun q _ h => hFc q h) hFc (fun pv2 t H1 locs ht hvm hpy hB hz1 hk1 hS => ?_)
  obtain ⟨mb, mz, ob, oz, fd, md, k1, kz, k2, k3, kf, k4, hP1, hK1, hD1⟩ := hB
  rw [ht] at hP1
  have hK1 := va_K.moved hvm.symm hK1
  obtain ⟨hP, hD⟩ := va_join (wr := [(q0_1, .inr (2, [.int pv, .ref a, .ref fe, .int 0, .int 0, .int 0, .int 0, .int 0])), (a, .inl (cR, 3, .inr (.inr (.inr (.inr (gF f0 f1 f2)))))), (f0, .inr (1, [.int 0, .ref b0, .ref r0, .int 0, .int 0])), (f1, .inr (1, [.int 1, .ref b1, .ref r1, .int 0, .int 0])), (f2, .inr (1, [.int 2, .ref b2, .ref r2, .int 0, .int 0])), (fe, .inl (cF, 16, .inl (fun _ => 0))), (b0, .inl (c0, N, .inl (fun _ => 0))), (r0, .inl (d0, N, .inl (fun _ => 0))), (b1, .inl (c1, N, .inl (fun _ => 0))), (r1, .inl (d1, N, .inl (fun _ => 0))), (b2, .inl (c2, N, .inl (fun _ => 0))), (r2, .inl (d2, N, .inl (fun _ => 0)))]) (w1 := [(q13_2, .inr (3, [.int 0, .int pv2, .ref mb, .ref mz, .ref ob, .ref oz, .int 0, .int 0, .int 0, .ref fd, .ref md, .int 0, .int 0])), (mb, .inl (k1, 4608, .inl (fun _ => 0))), (mz, .inl (kz, 3, .inl (fun _ => 0))), (ob, .inl (k2, 4608, .inl (fun _ => 0))), (oz, .inl (k3, 3, .inl (fun _ => 0))), (fd, .inl (kf, 16, .inl (fun _ => 0))), (md, .inl (k4, 24, .inl (fun _ => 0)))]) hP hD [12] [0, 1, 2, 3, 4, 5, 6, 7, 8, 9, 10, 11] rfl rfl (by decide) (by decide) hk1 hFc hP1 hD1
  have hK := (hK.sub (tys' := [(cR, (.object "ThreeFiles$StoredFile")), (cF, .int), (c0, .int), (d0, .int), (c1, .int), (d1, .int), (c2, .int), (d2, .int)]) [0, 1, 2, 3, 4, 5, 6, 7] rfl).app hK1
  generalize H1 = H at hP hS ⊢
  have hP : va_P (dC, dI) vwCl [(q0_1, .inr (2, [.int pv, .ref a, .ref fe, .int 0, .int 0, .int 0, .int 0, .int 0])), (a, .inl (cR, 3, .inr (.inr (.inr (.inr (gF f0 f1 f2)))))), (f0, .inr (1, [.int 0, .ref b0, .ref r0, .int 0, .int 0])), (f1, .inr (1, [.int 1, .ref b1, .ref r1, .int 0, .int 0])), (f2, .inr (1, [.int 2, .ref b2, .ref r2, .int 0, .int 0])), (fe, .inl (cF, 16, .inl (fun _ => 0))), (b0, .inl (c0, N, .inl (fun _ => 0))), (r0, .inl (d0, N, .inl (fun _ => 0))), (b1, .inl (c1, N, .inl (fun _ => 0))), (r1, .inl (d1, N, .inl (fun _ => 0))), (b2, .inl (c2, N, .inl (fun _ => 0))), (r2, .inl (d2, N, .inl (fun _ => 0))), (q13_2, .inr (3, [.int 0, .int pv2, .ref mb, .ref mz, .ref ob, .ref oz, .int 0, .int 0, .int 0, .ref fd, .ref md, .int 0, .int 0])), (mb, .inl (k1, 4608, .inl (fun _ => 0))), (mz, .inl (kz, 3, .inl (fun _ => 0))), (ob, .inl (k2, 4608, .inl (fun _ => 0))), (oz, .inl (k3, 3, .inl (fun _ => 0))), (fd, .inl (kf, 16, .inl (fun _ => 0))), (md, .inl (k4, 24, .inl (fun _ => 0)))] H := hP
  have hD : va_D A [(q0_1, .inr (2, [.int pv, .ref a, .ref fe, .int 0, .int 0, .int 0, .int 0, .int 0])), (a, .inl (cR, 3, .inr (.inr (.inr (.inr (gF f0 f1 f2)))))), (f0, .inr (1, [.int 0, .ref b0, .ref r0, .int 0, .int 0])), (f1, .inr (1, [.int 1, .ref b1, .ref r1, .int 0, .int 0])), (f2, .inr (1, [.int 2, .ref b2, .ref r2, .int 0, .int 0])), (fe, .inl (cF, 16, .inl (fun _ => 0))), (b0, .inl (c0, N, .inl (fun _ => 0))), (r0, .inl (d0, N, .inl (fun _ => 0))), (b1, .inl (c1, N, .inl (fun _ => 0))), (r1, .inl (d1, N, .inl (fun _ => 0))), (b2, .inl (c2, N, .inl (fun _ => 0))), (r2, .inl (d2, N, .inl (fun _ => 0))), (q13_2, .inr (3, [.int 0, .int pv2, .ref mb, .ref mz, .ref ob, .ref oz, .int 0, .int 0, .int 0, .ref fd, .ref md, .int 0, .int 0])), (mb, .inl (k1, 4608, .inl (fun _ => 0))), (mz, .inl (kz, 3, .inl (fun _ => 0))), (ob, .inl (k2, 4608, .inl (fun _ => 0))), (oz, .inl (k3, 3, .inl (fun _ => 0))), (fd, .inl (kf, 16, .inl (fun _ => 0))), (md, .inl (k4, 24, .inl (fun _ => 0)))] := hD
  have hK : va_K (dC, dI) vwCl [(cR, (.object "ThreeFiles$StoredFile")), (cF, .int), (c0, .int), (d0, .int), (c1, .int), (d1, .int), (c2, .int), (d2, .int), (k1, .int), (kz, .int), (k2, .int), (k3, .int), (kf, .int), (k4, .int)] s := hK
  refine W.widen (k := 19) (n := 18533) (by omega) (by omega) ?_
  obtain rfl : pv = pv2 := by rw [hpx, hpy, hcz1, hcz2]
  have hpv : ∃ k : Nat, 1 ≤ k ∧ k ≤ 64 ∧ pv = nI k := by rw [hpx]; exact spPc_nI _
  have hP : va_P (dC, dI) vwCl [(q0_1, .inr (2, [.int pv, .ref a, .ref fe, .int 0, .int 0, .int 0, .int 0, .int 0])), (a, .inl (cR, 3, .inr (.inr (.inr (.inr (gF f0 f1 f2)))))), (f0, .inr (1, [.int 0, .ref b0, .ref r0, .int 0, .int 0])), (f1, .inr (1, [.int 1, .ref b1, .ref r1, .int 0, .int 0])), (f2, .inr (1, [.int 2, .ref b2, .ref r2, .int 0, .int 0])), (fe, .inl (cF, 16, .inl (fun _ => 0))), (b0, .inl (c0, N, .inl (fun _ => 0))), (r0, .inl (d0, N, .inl (fun _ => 0))), (b1, .inl (c1, N, .inl (fun _ => 0))), (r1, .inl (d1, N, .inl (fun _ => 0))), (b2, .inl (c2, N, .inl (fun _ => 0))), (r2, .inl (d2, N, .inl (fun _ => 0))), (q13_2, .inr (3, [.int 0, .int pv, .ref mb, .ref mz, .ref ob, .ref oz, .int 0, .int 0, .int 0, .ref fd, .ref md, .int 0, .int 0])), (mb, .inl (k1, 4608, .inl (fun _ => 0))), (mz, .inl (kz, 3, .inl (fun _ => 0))), (ob, .inl (k2, 4608, .inl (fun _ => 0))), (oz, .inl (k3, 3, .inl (fun _ => 0))), (fd, .inl (kf, 16, .inl (fun _ => 0))), (md, .inl (k4, 24, .inl (fun _ => 0)))] H := hP
  have hD : va_D A [(q0_1, .inr (2, [.int pv, .ref a, .ref fe, .int 0, .int 0, .int 0, .int 0, .int 0])), (a, .inl (cR, 3, .inr (.inr (.inr (.inr (gF f0 f1 f2)))))), (f0, .inr (1, [.int 0, .ref b0, .ref r0, .int 0, .int 0])), (f1, .inr (1, [.int 1, .ref b1, .ref r1, .int 0, .int 0])), (f2, .inr (1, [.int 2, .ref b2, .ref r2, .int 0, .int 0])), (fe, .inl (cF, 16, .inl (fun _ => 0))), (b0, .inl (c0, N, .inl (fun _ => 0))), (r0, .inl (d0, N, .inl (fun _ => 0))), (b1, .inl (c1, N, .inl (fun _ => 0))), (r1, .inl (d1, N, .inl (fun _ => 0))), (b2, .inl (c2, N, .inl (fun _ => 0))), (r2, .inl (d2, N, .inl (fun _ => 0))), (q13_2, .inr (3, [.int 0, .int pv, .ref mb, .ref mz, .ref ob, .ref oz, .int 0, .int 0, .int 0, .ref fd, .ref md, .int 0, .int 0])), (mb, .inl (k1, 4608, .inl (fun _ => 0))), (mz, .inl (kz, 3, .inl (fun _ => 0))), (ob, .inl (k2, 4608, .inl (fun _ => 0))), (oz, .inl (k3, 3, .inl (fun _ => 0))), (fd, .inl (kf, 16, .inl (fun _ => 0))), (md, .inl (k4, 24, .inl (fun _ => 0)))] := hD
  refine lv_astore_n (lv' := [(2, .ref q13_2), (1, .ref q0_1), (0, .ref b)]) hx hb dL_law_25 rfl hl (by decide) rfl (fun ls hl => ?_)
  refine lv_iconst (v := 1) hx hb dL_law_26 (by decide) ?_
  refine va_newa (atype := .long) (N' := 1) (a0 := (1, .inr (.inl (fun _ => 0)))) (ty := .long) hx hb (hts (.arrayClass .long) (by decide +kernel)) rfl hK hP hD hS hA (fun _ => rfl) (by decide) (by rfl) (by decide) (show 20 ≤ 600002 by decide) (show 18533 + 1 ≤ 7302198 by decide) dL_law_27 (fun ou kl H hK hP hD hS => ?_)
  have hK : va_K (dC, dI) vwCl [(cR, (.object "ThreeFiles$StoredFile")), (cF, .int), (c0, .int), (d0, .int), (c1, .int), (d1, .int), (c2, .int), (d2, .int), (k1, .int), (kz, .int), (k2, .int), (k3, .int), (kf, .int), (k4, .int), (kl, .long)] s := hK
  have hP : va_P (dC, dI) vwCl [(q0_1, .inr (2, [.int pv, .ref a, .ref fe, .int 0, .int 0, .int 0, .int 0, .int 0])), (a, .inl (cR, 3, .inr (.inr (.inr (.inr (gF f0 f1 f2)))))), (f0, .inr (1, [.int 0, .ref b0, .ref r0, .int 0, .int 0])), (f1, .inr (1, [.int 1, .ref b1, .ref r1, .int 0, .int 0])), (f2, .inr (1, [.int 2, .ref b2, .ref r2, .int 0, .int 0])), (fe, .inl (cF, 16, .inl (fun _ => 0))), (b0, .inl (c0, N, .inl (fun _ => 0))), (r0, .inl (d0, N, .inl (fun _ => 0))), (b1, .inl (c1, N, .inl (fun _ => 0))), (r1, .inl (d1, N, .inl (fun _ => 0))), (b2, .inl (c2, N, .inl (fun _ => 0))), (r2, .inl (d2, N, .inl (fun _ => 0))), (q13_2, .inr (3, [.int 0, .int pv, .ref mb, .ref mz, .ref ob, .ref oz, .int 0, .int 0, .int 0, .ref fd, .ref md, .int 0, .int 0])), (mb, .inl (k1, 4608, .inl (fun _ => 0))), (mz, .inl (kz, 3, .inl (fun _ => 0))), (ob, .inl (k2, 4608, .inl (fun _ => 0))), (oz, .inl (k3, 3, .inl (fun _ => 0))), (fd, .inl (kf, 16, .inl (fun _ => 0))), (md, .inl (k4, 24, .inl (fun _ => 0))), (ou, .inl (kl, 1, .inr (.inl (fun _ => 0))))] H := hP
  have hD : va_D A [(q0_1, .inr (2, [.int pv, .ref a, .ref fe, .int 0, .int 0, .int 0, .int 0, .int 0])), (a, .inl (cR, 3, .inr (.inr (.inr (.inr (gF f0 f1 f2)))))), (f0, .inr (1, [.int 0, .ref b0, .ref r0, .int 0, .int 0])), (f1, .inr (1, [.int 1, .ref b1, .ref r1, .int 0, .int 0])), (f2, .inr (1, [.int 2, .ref b2, .ref r2, .int 0, .int 0])), (fe, .inl (cF, 16, .inl (fun _ => 0))), (b0, .inl (c0, N, .inl (fun _ => 0))), (r0, .inl (d0, N, .inl (fun _ => 0))), (b1, .inl (c1, N, .inl (fun _ => 0))), (r1, .inl (d1, N, .inl (fun _ => 0))), (b2, .inl (c2, N, .inl (fun _ => 0))), (r2, .inl (d2, N, .inl (fun _ => 0))), (q13_2, .inr (3, [.int 0, .int pv, .ref mb, .ref mz, .ref ob, .ref oz, .int 0, .int 0, .int 0, .ref fd, .ref md, .int 0, .int 0])), (mb, .inl (k1, 4608, .inl (fun _ => 0))), (mz, .inl (kz, 3, .inl (fun _ => 0))), (ob, .inl (k2, 4608, .inl (fun _ => 0))), (oz, .inl (k3, 3, .inl (fun _ => 0))), (fd, .inl (kf, 16, .inl (fun _ => 0))), (md, .inl (k4, 24, .inl (fun _ => 0))), (ou, .inl (kl, 1, .inr (.inl (fun _ => 0))))] := hD
  refine W.widen (k := 20) (n := 18534) (by omega) (by omega) ?_
  refine lv_astore_n (lv' := [(3, .ref ou), (2, .ref q13_2), (1, .ref q0_1), (0, .ref b)]) hx hb dL_law_29 rfl hl (by decide) rfl (fun ls hl => ?_)
  refine lv_iconst (v := 1) hx hb dL_law_30 (by decide) ?_
  refine lv_istore (lv' := [(4, .int 1), (3, .ref ou), (2, .ref q13_2), (1, .ref q0_1), (0, .ref b)]) hx hb dL_law_31 hl (by decide) rfl (fun ls hl => ?_)
  by_cases hL5 : L = 5
  ·
    refine lv_iload hx hb dL_law_33 (lv_at hl 0 rfl) ?_
    refine lv_aload_n hx hb dL_law_35 rfl (lv_at hl 4 rfl) ?_
    refine va_slen hx hb hX hbl hbA hS dL_law_36 ?_
    refine lv_iconst (v := 4) hx hb dL_law_37 (by decide) ?_
    refine lv_isub hx hb dL_law_38 ?_
    refine W.eq (g2 := F0 m 39 ls [.int 1, .int 1]) (by rw [hL5]; rfl) ?_
    refine lv_icmp_gt (tgt := 601) hx hb dL_law_39 (by decide) (fun c39 => ?_) (fun c39 => ?_)
    · exact absurd c39 (by decide)
    refine lv_aload_n hx hb dL_law_42 rfl (lv_at hl 4 rfl) ?_
    refine lv_iload hx hb dL_law_43 (lv_at hl 0 rfl) ?_
    refine va_sld hx hb hX hbl hbA hS (i := 1) (by rw [hL5]; unfold vp_in; decide) dL_law_45 ?_
    refine lv_bipush (v := 15) hx hb dL_law_46 (by decide) ?_
    refine lv_iand hx hb dL_law_48 ?_
    obtain ⟨j, hj, ej⟩ := pk_andE (xs (1 : Int32).toNatClampNeg) (m := 15) 4 (by decide)
    refine W.eq (g2 := F0 m 49 ls [.int (nI j)]) (by rw [ej]) ?_
    have hj : j < 16 := hj
    rcases (show j = 0 ∨ j = 1 ∨ j = 2 ∨ j = 3 ∨ j = 4 ∨ j = 5 ∨ j = 6 ∨ j = 7 ∨ j = 8 ∨ j = 9 ∨ j = 10 ∨ j = 11 ∨ j = 12 ∨ j = 13 ∨ j = 14 ∨ j = 15 by omega) with rfl | rfl | rfl | rfl | rfl | rfl | rfl | rfl | rfl | rfl | rfl | rfl | rfl | rfl | rfl | rfl
    ·
      refine lv_tableIn (off := 79) (tgt := 128) hx hb dL_law_49 (by decide) (by decide) (by rfl) (by decide) ?_
      exact law_op0 hfl hL5 C0 hA hA2 hNN hpv (hP.sub [0, 1, 2, 3, 4, 5, 6, 7, 8, 9, 10, 11, 12, 13, 14, 15, 16, 17, 18, 19] rfl) (hD.sub [0, 1, 2, 3, 4, 5, 6, 7, 8, 9, 10, 11, 12, 13, 14, 15, 16, 17, 18, 19] (by decide) rfl) (hK.sub [0, 1, 2, 3, 4, 5, 6, 7, 8, 9, 10, 11, 12, 13, 14] rfl) hS (lv_sub hl [4, 3, 2, 1, 0] rfl)
    ·
      refine lv_tableIn (off := 104) (tgt := 153) hx hb dL_law_49 (by decide) (by decide) (by rfl) (by decide) ?_
      exact law_op1 hfl hL5 C0 hA hA2 hNN hpv (hP.sub [0, 1, 2, 3, 4, 5, 6, 7, 8, 9, 10, 11, 12, 13, 14, 15, 16, 17, 18, 19] rfl) (hD.sub [0, 1, 2, 3, 4, 5, 6, 7, 8, 9, 10, 11, 12, 13, 14, 15, 16, 17, 18, 19] (by decide) rfl) (hK.sub [0, 1, 2, 3, 4, 5, 6, 7, 8, 9, 10, 11, 12, 13, 14] rfl) hS (lv_sub hl [4, 3, 2, 1, 0] rfl)
    ·
      refine lv_tableIn (off := 129) (tgt := 178) hx hb dL_law_49 (by decide) (by decide) (by rfl) (by decide) ?_
      exact law_op2 hfl hL5 C0 hA hA2 hNN hpv (hP.sub [0, 1, 2, 3, 4, 5, 6, 7, 8, 9, 10, 11, 12, 13, 14, 15, 16, 17, 18, 19] rfl) (hD.sub [0, 1, 2, 3, 4, 5, 6, 7, 8, 9, 10, 11, 12, 13, 14, 15, 16, 17, 18, 19] (by decide) rfl) (hK.sub [0, 1, 2, 3, 4, 5, 6, 7, 8, 9, 10, 11, 12, 13, 14] rfl) hS (lv_sub hl [4, 3, 2, 1, 0] rfl)
    ·
      refine lv_tableIn (off := 166) (tgt := 215) hx hb dL_law_49 (by decide) (by decide) (by rfl) (by decide) ?_
      exact law_op3 hfl hL5 C0 hA hA2 hNN hpv (hP.sub [0, 1, 2, 3, 4, 5, 6, 7, 8, 9, 10, 11, 12, 13, 14, 15, 16, 17, 18, 19] rfl) (hD.sub [0, 1, 2, 3, 4, 5, 6, 7, 8, 9, 10, 11, 12, 13, 14, 15, 16, 17, 18, 19] (by decide) rfl) (hK.sub [0, 1, 2, 3, 4, 5, 6, 7, 8, 9, 10, 11, 12, 13, 14] rfl) hS (lv_sub hl [4, 3, 2, 1, 0] rfl)
    ·
      refine lv_tableIn (off := 191) (tgt := 240) hx hb dL_law_49 (by decide) (by decide) (by rfl) (by decide) ?_
      exact law_op4 hfl hL5 C0 hA hA2 hNN hpv (hP.sub [0, 1, 2, 3, 4, 5, 6, 7, 8, 9, 10, 11, 12, 13, 14, 15, 16, 17, 18, 19] rfl) (hD.sub [0, 1, 2, 3, 4, 5, 6, 7, 8, 9, 10, 11, 12, 13, 14, 15, 16, 17, 18, 19] (by decide) rfl) (hK.sub [0, 1, 2, 3, 4, 5, 6, 7, 8, 9, 10, 11, 12, 13, 14] rfl) hS (lv_sub hl [4, 3, 2, 1, 0] rfl)
    ·
      refine lv_tableIn (off := 216) (tgt := 265) hx hb dL_law_49 (by decide) (by decide) (by rfl) (by decide) ?_
      exact law_op5 hfl hL5 C0 hA hA2 hNN hpv (hP.sub [0, 1, 2, 3, 4, 5, 6, 7, 8, 9, 10, 11, 12, 13, 14, 15, 16, 17, 18, 19] rfl) (hD.sub [0, 1, 2, 3, 4, 5, 6, 7, 8, 9, 10, 11, 12, 13, 14, 15, 16, 17, 18, 19] (by decide) rfl) (hK.sub [0, 1, 2, 3, 4, 5, 6, 7, 8, 9, 10, 11, 12, 13, 14] rfl) hS (lv_sub hl [4, 3, 2, 1, 0] rfl)
    ·
      refine lv_tableIn (off := 253) (tgt := 302) hx hb dL_law_49 (by decide) (by decide) (by rfl) (by decide) ?_
      exact law_op6 hfl hL5 C0 hA hA2 hNN hpv (hP.sub [0, 1, 2, 3, 4, 5, 6, 7, 8, 9, 10, 11, 12, 13, 14, 15, 16, 17, 18, 19] rfl) (hD.sub [0, 1, 2, 3, 4, 5, 6, 7, 8, 9, 10, 11, 12, 13, 14, 15, 16, 17, 18, 19] (by decide) rfl) (hK.sub [0, 1, 2, 3, 4, 5, 6, 7, 8, 9, 10, 11, 12, 13, 14] rfl) hS (lv_sub hl [4, 3, 2, 1, 0] rfl)
    ·
      refine lv_tableIn (off := 278) (tgt := 327) hx hb dL_law_49 (by decide) (by decide) (by rfl) (by decide) ?_
      exact law_op7 hfl hL5 C0 hA hA2 hNN hpv (hP.sub [0, 1, 2, 3, 4, 5, 6, 7, 8, 9, 10, 11, 12, 13, 14, 15, 16, 17, 18, 19] rfl) (hD.sub [0, 1, 2, 3, 4, 5, 6, 7, 8, 9, 10, 11, 12, 13, 14, 15, 16, 17, 18, 19] (by decide) rfl) (hK.sub [0, 1, 2, 3, 4, 5, 6, 7, 8, 9, 10, 11, 12, 13, 14] rfl) hS (lv_sub hl [4, 3, 2, 1, 0] rfl)
    ·
      refine lv_tableIn (off := 327) (tgt := 376) hx hb dL_law_49 (by decide) (by decide) (by rfl) (by decide) ?_
      exact law_op8 hfl hL5 C0 hA hA2 hNN hpv (hP.sub [0, 1, 2, 3, 4, 5, 6, 7, 8, 9, 10, 11, 12, 13, 14, 15, 16, 17, 18, 19] rfl) (hD.sub [0, 1, 2, 3, 4, 5, 6, 7, 8, 9, 10, 11, 12, 13, 14, 15, 16, 17, 18, 19] (by decide) rfl) (hK.sub [0, 1, 2, 3, 4, 5, 6, 7, 8, 9, 10, 11, 12, 13, 14] rfl) hS (lv_sub hl [4, 3, 2, 1, 0] rfl)
    ·
      refine lv_tableIn (off := 340) (tgt := 389) hx hb dL_law_49 (by decide) (by decide) (by rfl) (by decide) ?_
      exact law_op9 hfl hL5 C0 hA hA2 hNN hpv (hP.sub [0, 1, 2, 3, 4, 5, 6, 7, 8, 9, 10, 11, 12, 13, 14, 15, 16, 17, 18, 19] rfl) (hD.sub [0, 1, 2, 3, 4, 5, 6, 7, 8, 9, 10, 11, 12, 13, 14, 15, 16, 17, 18, 19] (by decide) rfl) (hK.sub [0, 1, 2, 3, 4, 5, 6, 7, 8, 9, 10, 11, 12, 13, 14] rfl) hS (lv_sub hl [4, 3, 2, 1, 0] rfl)
    ·
      refine lv_tableIn (off := 365) (tgt := 414) hx hb dL_law_49 (by decide) (by decide) (by rfl) (by decide) ?_
      exact law_op10 hfl hL5 C0 hA hA2 hNN hpv (hP.sub [0, 1, 2, 3, 4, 5, 6, 7, 8, 9, 10, 11, 12, 13, 14, 15, 16, 17, 18, 19] rfl) (hD.sub [0, 1, 2, 3, 4, 5, 6, 7, 8, 9, 10, 11, 12, 13, 14, 15, 16, 17, 18, 19] (by decide) rfl) (hK.sub [0, 1, 2, 3, 4, 5, 6, 7, 8, 9, 10, 11, 12, 13, 14] rfl) hS (lv_sub hl [4, 3, 2, 1, 0] rfl)
    ·
      refine lv_tableIn (off := 378) (tgt := 427) hx hb dL_law_49 (by decide) (by decide) (by rfl) (by decide) ?_
      exact law_op11 hfl hL5 C0 hA hA2 hNN hpv (hP.sub [0, 1, 2, 3, 4, 5, 6, 7, 8, 9, 10, 11, 12, 13, 14, 15, 16, 17, 18, 19] rfl) (hD.sub [0, 1, 2, 3, 4, 5, 6, 7, 8, 9, 10, 11, 12, 13, 14, 15, 16, 17, 18, 19] (by decide) rfl) (hK.sub [0, 1, 2, 3, 4, 5, 6, 7, 8, 9, 10, 11, 12, 13, 14] rfl) hS (lv_sub hl [4, 3, 2, 1, 0] rfl)
    ·
      refine lv_tableIn (off := 391) (tgt := 440) hx hb dL_law_49 (by decide) (by decide) (by rfl) (by decide) ?_
      exact law_op12 hfl hL5 C0 hA hA2 hNN hpv (hP.sub [0, 1, 2, 3, 4, 5, 6, 7, 8, 9, 10, 11, 12, 13, 14, 15, 16, 17, 18, 19] rfl) (hD.sub [0, 1, 2, 3, 4, 5, 6, 7, 8, 9, 10, 11, 12, 13, 14, 15, 16, 17, 18, 19] (by decide) rfl) (hK.sub [0, 1, 2, 3, 4, 5, 6, 7, 8, 9, 10, 11, 12, 13, 14] rfl) hS (lv_sub hl [4, 3, 2, 1, 0] rfl)
    ·
      refine lv_tableIn (off := 471) (tgt := 520) hx hb dL_law_49 (by decide) (by decide) (by rfl) (by decide) ?_
      exact law_op13 hfl hL5 C0 hA hA2 hNN hpv (hP.sub [0, 1, 2, 3, 4, 5, 6, 7, 8, 9, 10, 11, 12, 13, 14, 15, 16, 17, 18, 19] rfl) (hD.sub [0, 1, 2, 3, 4, 5, 6, 7, 8, 9, 10, 11, 12, 13, 14, 15, 16, 17, 18, 19] (by decide) rfl) (hK.sub [0, 1, 2, 3, 4, 5, 6, 7, 8, 9, 10, 11, 12, 13, 14] rfl) hS (lv_sub hl [4, 3, 2, 1, 0] rfl)
    ·
      refine lv_tableIn (off := 496) (tgt := 545) hx hb dL_law_49 (by decide) (by decide) (by rfl) (by decide) ?_
      exact law_op14 hfl hL5 C0 hA hA2 hNN hpv (hP.sub [0, 1, 2, 3, 4, 5, 6, 7, 8, 9, 10, 11, 12, 13, 14, 15, 16, 17, 18, 19] rfl) (hD.sub [0, 1, 2, 3, 4, 5, 6, 7, 8, 9, 10, 11, 12, 13, 14, 15, 16, 17, 18, 19] (by decide) rfl) (hK.sub [0, 1, 2, 3, 4, 5, 6, 7, 8, 9, 10, 11, 12, 13, 14] rfl) hS (lv_sub hl [4, 3, 2, 1, 0] rfl)
    ·
      refine lv_tableIn (off := 521) (tgt := 570) hx hb dL_law_49 (by decide) (by decide) (by rfl) (by decide) ?_
      exact law_op15 hfl hL5 C0 hA hA2 hNN hpv (hP.sub [0, 1, 2, 3, 4, 5, 6, 7, 8, 9, 10, 11, 12, 13, 14, 15, 16, 17, 18, 19] rfl) (hD.sub [0, 1, 2, 3, 4, 5, 6, 7, 8, 9, 10, 11, 12, 13, 14, 15, 16, 17, 18, 19] (by decide) rfl) (hK.sub [0, 1, 2, 3, 4, 5, 6, 7, 8, 9, 10, 11, 12, 13, 14] rfl) hS (lv_sub hl [4, 3, 2, 1, 0] rfl)
  · exact law_exit (by omega) C0 hA2 (Nat.le_of_ble_eq_true rfl) (Nat.le_of_ble_eq_true rfl) hS (lv_sub hl [4, 0] rfl)
set_option maxHeartbeats 4000000 in
theorem lw_walk (l : Launch) (hfl : l.flags = flags0) (b : Addr) (xs : List Int32) : MetFree l x (headSpec (Jvm.Cond.code x code maxLocals ret :: tables_1) room_1) (lw_P b xs) (fun _ _ _ _ _ => True) lw_Q := by
  refine MetFree.of_bodyS (code := code) (maxLocals := maxLocals) (ret := ret) (by decide) ?_ ?_
  · intro args s m h hn
    obtain ⟨meth, c, h1, h2, h3, h4, h5, h6, -, -⟩ := Cond.code_spec hn (atoms_spec (ws := Jvm.Cond.code x code maxLocals ret :: tables_1) h _ List.mem_cons_self)
    exact ⟨meth, c, h1, h2, h3, h4, h5, h6⟩
  · intro p e s m args below meth c s₁ B hml0 hP _
    obtain ⟨rfl, hx, hbd, hgv⟩ := hP
    obtain ⟨scr, harrAt, hlist, hof, hsmall⟩ := hx
    obtain ⟨hcb, hkn, -, -⟩ := State.arrayAt?_spec harrAt
    have hown : s.vm.findClass R_law = some m.cls := findClass_of_methodNamed B.named
    have hts0 : ∀ c ∈ (Jvm.Cond.code x code maxLocals ret :: tables_1), c.before #[Value.ref b] s = true := atoms_spec (ws := Jvm.Cond.code x code maxLocals ret :: tables_1) B.pre
    have hts : ∀ w ∈ lw_tbl, w.before #[Value.ref b] s = true := k2_hts_sels lw_privs (fun w hw => hts0 w (List.mem_cons_of_mem _ hw)) lw_privs_ok
    have hml : c.maxLocals = 7 := B.maxLocals_eq (hts0 _ List.mem_cons_self)
    have X₀ : Stand p l e room_1 s m #[Value.ref b] below meth c s₁ [] 0 0 := Stand.of_body B
    have hh0 : s₁.heap = s.heap := by rw [B.state]; rfl
    have hsz : scr.slots.size = xs.length := by rw [← Array.length_toList, hlist, List.length_map]
    have hval : ∀ j : Nat, j < xs.length → scr.slots[j]? = some (.int (xs.getD j 0)) := fun j hj => by
      rw [← Array.getElem?_toList, hlist]
      simp [hj]
    have hbl : b < s.heap.size := (Array.getElem?_eq_some_iff.mp hcb).1
    have hX : va_X b xs.length (fun j => xs.getD j 0) s s.heap := ⟨scr, hcb, hof, hkn, hsz, hval⟩
    have K : W p l e room_1 s m #[Value.ref b] below meth c s₁.heap [] 0 0 (lw_Z below #[Value.ref b] s) (entryFrame m ([Value.ref b] : List Value).toArray 7) := by
      rw [hh0]
      exact whole_start l hfl hbd ⟨B.exec, B.bytes, B.returns, hml, hown, hts, hX, hbl, B.notSynchronized, hgv⟩
    obtain ⟨t, a1, o, b1, b2, b3⟩ := K s₁ rfl X₀
    exact ⟨t, o, a1, b1, b2, b3⟩
theorem lw_pre_spec {args : Array Value} {s : State} (h : (Jvm.Cond.and given_1 narrow_1).before args s = true) (hr : rest_1_c.before args s = true) : ∃ (b : Addr) (xs : List Int32), lw_P b xs args s := by
  have hs := flat_of_before _ h
  have hq := flat_of_before _ hr
  have hc : (Cond.count 1).before args s = true := hs _ (by decide +kernel)
  have harr : (Cond.arrayOf (.arg 0) .int).before args s = true := hs _ (by decide +kernel)
  have hle : (Cond.le (.length (.arg 0)) (.int 5)).before args s = true := hs _ (by decide +kernel)
  have hlen : (Cond.isInt (.length (.arg 0))).before args s = true := hq _ (by decide +kernel)
  have hall : (Cond.all (.arg 0) (.isInt (.elem (.arg 0) (.index 0)))).before args s = true := hq _ (by decide +kernel)
  obtain ⟨b, xs, hb, hx⟩ := State.ints_of_pre rfl harr hlen hall
  have hsm : xs.length < 2 ^ 31 := hx.choose_spec.2.2.2
  have hev : (Term.length (.arg 0)).eval args s none [] s = some (.int xs.length.toInt32) := hx.length_eval hb
  have hv := Cond.le_ints hev (show (Term.int 5).eval args s none [] s = some (.int 5) from rfl)
  have hd : xs.length.toInt32 ≤ 5 := by
    simpa [Cond.before, Cond.holds, hv] using hle
  have hN : xs.length ≤ 5 := (Int32.ofNat_le_ofNat hsm (by decide)).mp (show Int32.ofNat xs.length ≤ Int32.ofNat 5 from hd)
  exact ⟨b, xs, Cond.one_arg hc (show args[0]? = some (.ref b) from hb), hx, hN, h⟩
theorem lw_comes (l : Launch) (hfl : l.flags = flags0) : Comes l x (Jvm.Cond.code x code maxLocals ret :: tables_1) room_1 (fun tb e args s => Calls_1 tb e args s ∧ rest_1 tb e args s ∧ Pre_1 tb e args s)
    (fun _ _ args s o t => lw_Q args s o t) := by
  intro p e ha hc hk s m args below hf hfit hheap happ hpre
  obtain ⟨b, xs, hP⟩ := lw_pre_spec hpre.2.2 hpre.2.1
  obtain ⟨k, o, h1, h2, h3, hQ⟩ := lw_walk l hfl b xs p e ha hc hk s m args below hf ((Spec.applies_iff_loose hf).mp happ).1 hP trivial
  exact ⟨k, o, h1, h2, h3, hQ⟩
theorem lw_frame {s t : State} {o : Outcome} {args : Array Value} (h : Framed s o t [] 600002 7302198) :
    Framed s o t (fieldLocs frame_1_writes args s ++ arrayLocs frame_1_arrays args s ++ staticLocs frame_1_statics s) 600002 7302198 := h
theorem lw_limb (L : Cond) (hL : ∀ (args : Array Value) (s t : State), L.after args s (.returned (some (.int 1))) t = true) :
    ArmFor flags0 classFile x code maxLocals ret World_1 tables_1 room_1 Calls_1 rest_1 Pre_1
      (fun tb e a s o t => postC L tb e a s o t ∧ Framed s o t (fieldLocs frame_1_writes a s ++ arrayLocs frame_1_arrays a s ++ staticLocs frame_1_statics s) 600002 7302198) := by
  intro l hfl _ _ p e ha hc hk s m args below hf hfit hheap happ hpre
  obtain ⟨k, o, h1, h2, h3, rfl, hF⟩ := lw_comes l hfl p e ha hc hk s m args below hf hfit hheap happ hpre
  exact ⟨k, _, h1, h2, h3, hL args s _, lw_frame hF⟩
theorem i_vc : Claimed_1_1 ∧ Claimed_1_2 := ⟨lw_limb limb_1_1 (fun args s t => by simp [limb_1_1, Cond.after, Cond.holds, Cond.value]), lw_limb limb_1_2 (fun args s t => Cond.after_iff.mpr (by
  first | (rw [show limb_1_2 = Cond.eq .result (.int 1) from rfl, Cond.eq_ints (x := 1) (y := 1) rfl rfl]; simp; done) | (simp [limb_1_2, Cond.value, Term.eval]; done)))⟩
