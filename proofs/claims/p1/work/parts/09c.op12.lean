set_option maxRecDepth 20000 in
theorem th_law {b : Nat} {s : State} (hts : ∀ w ∈ lw_tbl, w.before #[Value.ref b] s = true) (hgv : (Jvm.Cond.and given_1 narrow_1).before #[Value.ref b] s = true) : thP s := by
  have hs := flat_of_before _ hgv
  have key : ∀ w ∈ thL, (w ∈ lw_tbl) ∨ w = .isRef (.static Bundle.tN "UNASSIGNED_STACK" Bundle.steD) ∨ w = .isRef (.static Bundle.tN "SUPPRESSED_SENTINEL" Bundle.listD) := by decide +kernel
  have hall : ∀ w ∈ thL, w.before #[Value.ref b] s = true := by
    intro w hw
    rcases key w hw with h | rfl | rfl
    · exact hts w h
    · exact hs _ (by decide +kernel)
    · exact hs _ (by decide +kernel)
  refine ⟨fun w hw => ?_, ?_, ?_⟩
  · have h := hall w hw
    rcases th_split w hw with hg | rfl | rfl | rfl | rfl
    · exact th_face (State.WarmedH.refl s) hg h
    · exact h
    · exact h
    · exact h
    · exact h
  · exact hts (.stringRef RX1 113 thT) (by decide +kernel)
  · exact hts (.classLink RL 13 thX) (by decide +kernel)
set_option maxHeartbeats 4000000 in
set_option maxRecDepth 100000 in
theorem law_op12 {p : Program} {l : Launch} {e : Env} {s : State} {m : MethodId} {below : List Frame} {meth : Method} {c : Code} (hfl : l.flags = flags0) {dC : Nat → ClassId} {dI : Nat → Nat → Nat} {b L : Nat} {xs : Nat → Int32} (hL : L = 5) (C0 : lw_At p s m meth c b L xs) {A : Nat → Prop} (hA : ∀ q, s.heap.size ≤ q → A q) (hA2 : ∀ q, A q → s.heap.size ≤ q) {x a f0 f1 f2 fe b0 r0 b1 r1 b2 r2 y mb mz ob oz fd md ou : Nat} {cR cF c0 d0 c1 d1 c2 d2 k1 kz k2 k3 kf k4 kl : ClassId} {N : Nat} (hNN : N ≤ 1536) {pv : Int32} (hpv : ∃ k : Nat, 1 ≤ k ∧ k ≤ 64 ∧ pv = nI k) {H : Heap} {locs : List Loc} (hP : va_P (dC, dI) vwCl [(x, .inr (2, [.int pv, .ref a, .ref fe, .int 0, .int 0, .int 0, .int 0, .int 0])), (a, .inl (cR, 3, .inr (.inr (.inr (.inr (gF f0 f1 f2)))))), (f0, .inr (1, [.int 0, .ref b0, .ref r0, .int 0, .int 0])), (f1, .inr (1, [.int 1, .ref b1, .ref r1, .int 0, .int 0])), (f2, .inr (1, [.int 2, .ref b2, .ref r2, .int 0, .int 0])), (fe, .inl (cF, 16, .inl (fun _ => 0))), (b0, .inl (c0, N, .inl (fun _ => 0))), (r0, .inl (d0, N, .inl (fun _ => 0))), (b1, .inl (c1, N, .inl (fun _ => 0))), (r1, .inl (d1, N, .inl (fun _ => 0))), (b2, .inl (c2, N, .inl (fun _ => 0))), (r2, .inl (d2, N, .inl (fun _ => 0))), (y, .inr (3, [.int 0, .int pv, .ref mb, .ref mz, .ref ob, .ref oz, .int 0, .int 0, .int 0, .ref fd, .ref md, .int 0, .int 0])), (mb, .inl (k1, 4608, .inl (fun _ => 0))), (mz, .inl (kz, 3, .inl (fun _ => 0))), (ob, .inl (k2, 4608, .inl (fun _ => 0))), (oz, .inl (k3, 3, .inl (fun _ => 0))), (fd, .inl (kf, 16, .inl (fun _ => 0))), (md, .inl (k4, 24, .inl (fun _ => 0))), (ou, .inl (kl, 1, .inr (.inl (fun _ => 0))))] H) (hD : va_D A [(x, .inr (2, [.int pv, .ref a, .ref fe, .int 0, .int 0, .int 0, .int 0, .int 0])), (a, .inl (cR, 3, .inr (.inr (.inr (.inr (gF f0 f1 f2)))))), (f0, .inr (1, [.int 0, .ref b0, .ref r0, .int 0, .int 0])), (f1, .inr (1, [.int 1, .ref b1, .ref r1, .int 0, .int 0])), (f2, .inr (1, [.int 2, .ref b2, .ref r2, .int 0, .int 0])), (fe, .inl (cF, 16, .inl (fun _ => 0))), (b0, .inl (c0, N, .inl (fun _ => 0))), (r0, .inl (d0, N, .inl (fun _ => 0))), (b1, .inl (c1, N, .inl (fun _ => 0))), (r1, .inl (d1, N, .inl (fun _ => 0))), (b2, .inl (c2, N, .inl (fun _ => 0))), (r2, .inl (d2, N, .inl (fun _ => 0))), (y, .inr (3, [.int 0, .int pv, .ref mb, .ref mz, .ref ob, .ref oz, .int 0, .int 0, .int 0, .ref fd, .ref md, .int 0, .int 0])), (mb, .inl (k1, 4608, .inl (fun _ => 0))), (mz, .inl (kz, 3, .inl (fun _ => 0))), (ob, .inl (k2, 4608, .inl (fun _ => 0))), (oz, .inl (k3, 3, .inl (fun _ => 0))), (fd, .inl (kf, 16, .inl (fun _ => 0))), (md, .inl (k4, 24, .inl (fun _ => 0))), (ou, .inl (kl, 1, .inr (.inl (fun _ => 0))))]) (hK : va_K (dC, dI) vwCl [(cR, (.object "ThreeFiles$StoredFile")), (cF, .int), (c0, .int), (d0, .int), (c1, .int), (d1, .int), (c2, .int), (d2, .int), (k1, .int), (kz, .int), (k2, .int), (k3, .int), (kf, .int), (k4, .int), (kl, .long)] s) (hS : va_S A s.heap H locs) {ls : Array Slot} (hl : lv_has ls 7 [(0, .ref b), (1, .ref x), (2, .ref y), (3, .ref ou), (4, .int 1)]) : W p l e room_1 s m #[Value.ref b] below meth c H locs 20 18534 (lw_Z below #[Value.ref b] s) (F0 m 440 ls []) := by
  obtain ⟨hx, hb, hr, hml, hown, hts0, hX, hbl, hlocks, hgv⟩ := id C0
  have hts : ∀ w ∈ wsL_law, w.before #[Value.ref b] s = true := fun w h => hts0 w (wsL_law_in w h)
  have hown : s.vm.findClass RL = some m.cls := hown
  have hN : nwP s := nw_law hts0
  have hbA : ¬ A b := fun h => absurd (hA2 _ h) (Nat.not_le.mpr hbl)
  have hT0 : thP s := th_law hts0 hgv
  refine lv_aload_n hx hb dL_law_440 rfl (lv_at hl 1 rfl) ?_
  refine lv_aload_n hx hb dL_law_441 rfl (lv_at hl 0 rfl) ?_
  refine lv_iload hx hb dL_law_442 (lv_at hl 4 rfl) ?_
  refine lv_iconst (v := 1) hx hb dL_law_444 (by decide) ?_
  refine lv_iadd hx hb dL_law_445 ?_
  refine W.eq (g2 := F0 m 446 ls [.int 2, .ref b, .ref x]) (by rfl) ?_
  refine va_sld hx hb hX hbl hbA hS (i := 2) (by subst hL; unfold vp_in; decide) dL_law_446 ?_
  refine W.eq (g2 := F0 m 447 ls [.int ((xs 2)), .ref x]) (by rfl) ?_
  refine lv_aload_n hx hb dL_law_447 rfl (lv_at hl 0 rfl) ?_
  refine lv_iload hx hb dL_law_448 (lv_at hl 4 rfl) ?_
  refine lv_iconst (v := 2) hx hb dL_law_450 (by decide) ?_
  refine lv_iadd hx hb dL_law_451 ?_
  refine W.eq (g2 := F0 m 452 ls [.int 3, .ref b, .int ((xs 2)), .ref x]) (by rfl) ?_
  refine va_sld hx hb hX hbl hbA hS (i := 3) (by subst hL; unfold vp_in; decide) dL_law_452 ?_
  refine W.eq (g2 := F0 m 453 ls [.int ((xs 3)), .int ((xs 2)), .ref x]) (by rfl) ?_
  refine lv_aload_n hx hb dL_law_453 rfl (lv_at hl 0 rfl) ?_
  refine lv_iload hx hb dL_law_454 (lv_at hl 4 rfl) ?_
  refine lv_iconst (v := 3) hx hb dL_law_456 (by decide) ?_
  refine lv_iadd hx hb dL_law_457 ?_
  refine W.eq (g2 := F0 m 458 ls [.int 4, .ref b, .int ((xs 3)), .int ((xs 2)), .ref x]) (by rfl) ?_
  refine va_sld hx hb hX hbl hbA hS (i := 4) (by subst hL; unfold vp_in; decide) dL_law_458 ?_
  refine W.eq (g2 := F0 m 459 ls [.int ((xs 4)), .int ((xs 3)), .int ((xs 2)), .ref x]) (by rfl) ?_
  refine lv_aload_n hx hb dL_law_459 rfl (lv_at hl 3 rfl) ?_
  have hPc := hP.sub (ws' := [(x, .inr (2, [.int pv, .ref a, .ref fe, .int 0, .int 0, .int 0, .int 0, .int 0])), (a, .inl (cR, 3, .inr (.inr (.inr (.inr (gF f0 f1 f2)))))), (f0, .inr (1, [.int 0, .ref b0, .ref r0, .int 0, .int 0])), (f1, .inr (1, [.int 1, .ref b1, .ref r1, .int 0, .int 0])), (f2, .inr (1, [.int 2, .ref b2, .ref r2, .int 0, .int 0])), (ou, .inl (kl, 1, .inr (.inl (fun _ => 0))))]) [0, 1, 2, 3, 4, 19] rfl
  have hKc := hK.sub (tys' := [(cR, (.object "ThreeFiles$StoredFile")), (kl, .long)]) [0, 14] rfl
  have hDc := hD.sub (ws' := [(x, .inr (2, [.int pv, .ref a, .ref fe, .int 0, .int 0, .int 0, .int 0, .int 0])), (a, .inl (cR, 3, .inr (.inr (.inr (.inr (gF f0 f1 f2)))))), (f0, .inr (1, [.int 0, .ref b0, .ref r0, .int 0, .int 0])), (f1, .inr (1, [.int 1, .ref b1, .ref r1, .int 0, .int 0])), (f2, .inr (1, [.int 2, .ref b2, .ref r2, .int 0, .int 0])), (ou, .inl (kl, 1, .inr (.inl (fun _ => 0))))]) [0, 1, 2, 3, 4, 19] (by decide) rfl
  have hFc := va_free (wc := [(x, .inr (2, [.int pv, .ref a, .ref fe, .int 0, .int 0, .int 0, .int 0, .int 0])), (a, .inl (cR, 3, .inr (.inr (.inr (.inr (gF f0 f1 f2)))))), (f0, .inr (1, [.int 0, .ref b0, .ref r0, .int 0, .int 0])), (f1, .inr (1, [.int 1, .ref b1, .ref r1, .int 0, .int 0])), (f2, .inr (1, [.int 2, .ref b2, .ref r2, .int 0, .int 0])), (ou, .inl (kl, 1, .inr (.inl (fun _ => 0))))]) hD hS hA [0, 1, 2, 3, 4, 19] rfl
  have hTH : ∀ U : State, U.heap = H → s.WarmedH U.vm → thP U := fun U hU hW => thP.move hW (fun q hq => by rw [hU]; exact hS.2.1 q hq (fun h => absurd (hA2 _ h) (Nat.not_le.mpr hq))) hT0
  refine va_calli (th_runS (As := [.ref x, .int ((xs 2)), .int ((xs 3)), .int ((xs 4)), .ref ou]) (rest := []) (n := 5) ⟨hx, hb, hml, hown, hts⟩ (l_byteAt l hfl dC dI H.size x a f0 f1 f2 fe b0 r0 b1 r1 b2 r2 cR pv ou kl ((xs 2)) ((xs 3)) ((xs 4))) gL_law_L_byteAt rfl rfl rfl (by decide +kernel) ⟨Nat.le_of_ble_eq_true rfl, Nat.le_of_ble_eq_true rfl⟩ ⟨fun a U g mk q => by obtain ⟨q0, qN, qT, q1, qP, qK, qD⟩ := q; exact ⟨q0, nwS qN, thP.move (s := U) (U := U.calling g mk a) (State.WarmedH.refl U) (fun _ _ => rfl) qT, q1, qP, va_K.moved (u := U) (U := U.calling g mk a) (Vm.Alike.refl U.vm) qK, qD⟩, fun U hU hW => ⟨rfl, nwW hW hN, hTH U hU hW, by rw [hU], by rw [hU]; exact hPc, va_K.moved hW.alike hKc, hDc.weaken (fun _ _ _ _ => trivial)⟩⟩ rfl hl.1 rfl (Nat.le_of_ble_eq_true rfl) dL_law_460 ⟨Nat.le_of_ble_eq_true rfl, Nat.le_of_ble_eq_true rfl⟩) hS (fun q _ h => hFc q h) hFc (fun kk1 u t H1 locs ht hvm hk5 hB hz1 hk1 hS => ?_)
  obtain ⟨g, hg0, hP1, hK1, hD1⟩ := hB
  rw [ht] at hP1
  have hK1 := va_K.moved hvm.symm hK1
  obtain ⟨hP, hD⟩ := va_join (wr := [(fe, .inl (cF, 16, .inl (fun _ => 0))), (b0, .inl (c0, N, .inl (fun _ => 0))), (r0, .inl (d0, N, .inl (fun _ => 0))), (b1, .inl (c1, N, .inl (fun _ => 0))), (r1, .inl (d1, N, .inl (fun _ => 0))), (b2, .inl (c2, N, .inl (fun _ => 0))), (r2, .inl (d2, N, .inl (fun _ => 0))), (y, .inr (3, [.int 0, .int pv, .ref mb, .ref mz, .ref ob, .ref oz, .int 0, .int 0, .int 0, .ref fd, .ref md, .int 0, .int 0])), (mb, .inl (k1, 4608, .inl (fun _ => 0))), (mz, .inl (kz, 3, .inl (fun _ => 0))), (ob, .inl (k2, 4608, .inl (fun _ => 0))), (oz, .inl (k3, 3, .inl (fun _ => 0))), (fd, .inl (kf, 16, .inl (fun _ => 0))), (md, .inl (k4, 24, .inl (fun _ => 0)))]) (w1 := [(ou, .inl (kl, 1, .inr (.inl g)))]) hP hD [0, 1, 2, 3, 4, 19] [5, 6, 7, 8, 9, 10, 11, 12, 13, 14, 15, 16, 17, 18] rfl rfl (by decide) (by decide) hk1 hFc hP1 hD1
  generalize H1 = H at hP hS ⊢
  have hP : va_P (dC, dI) vwCl [(fe, .inl (cF, 16, .inl (fun _ => 0))), (b0, .inl (c0, N, .inl (fun _ => 0))), (r0, .inl (d0, N, .inl (fun _ => 0))), (b1, .inl (c1, N, .inl (fun _ => 0))), (r1, .inl (d1, N, .inl (fun _ => 0))), (b2, .inl (c2, N, .inl (fun _ => 0))), (r2, .inl (d2, N, .inl (fun _ => 0))), (y, .inr (3, [.int 0, .int pv, .ref mb, .ref mz, .ref ob, .ref oz, .int 0, .int 0, .int 0, .ref fd, .ref md, .int 0, .int 0])), (mb, .inl (k1, 4608, .inl (fun _ => 0))), (mz, .inl (kz, 3, .inl (fun _ => 0))), (ob, .inl (k2, 4608, .inl (fun _ => 0))), (oz, .inl (k3, 3, .inl (fun _ => 0))), (fd, .inl (kf, 16, .inl (fun _ => 0))), (md, .inl (k4, 24, .inl (fun _ => 0))), (ou, .inl (kl, 1, .inr (.inl g)))] H := hP
  have hD : va_D A [(fe, .inl (cF, 16, .inl (fun _ => 0))), (b0, .inl (c0, N, .inl (fun _ => 0))), (r0, .inl (d0, N, .inl (fun _ => 0))), (b1, .inl (c1, N, .inl (fun _ => 0))), (r1, .inl (d1, N, .inl (fun _ => 0))), (b2, .inl (c2, N, .inl (fun _ => 0))), (r2, .inl (d2, N, .inl (fun _ => 0))), (y, .inr (3, [.int 0, .int pv, .ref mb, .ref mz, .ref ob, .ref oz, .int 0, .int 0, .int 0, .ref fd, .ref md, .int 0, .int 0])), (mb, .inl (k1, 4608, .inl (fun _ => 0))), (mz, .inl (kz, 3, .inl (fun _ => 0))), (ob, .inl (k2, 4608, .inl (fun _ => 0))), (oz, .inl (k3, 3, .inl (fun _ => 0))), (fd, .inl (kf, 16, .inl (fun _ => 0))), (md, .inl (k4, 24, .inl (fun _ => 0))), (ou, .inl (kl, 1, .inr (.inl g)))] := hD
  refine W.widen (k := 21) (n := 18540) (by omega) (by omega) ?_
  refine lv_istore (lv' := [(5, .int kk1), (0, .ref b), (1, .ref x), (2, .ref y), (3, .ref ou), (4, .int 1)]) hx hb dL_law_463 hl (by decide) rfl (fun ls hl => ?_)
  refine lv_aload_n hx hb dL_law_465 rfl (lv_at hl 3 rfl) ?_
  refine lv_aload_n hx hb dL_law_466 rfl (lv_at hl 1 rfl) ?_
  refine lv_iload hx hb dL_law_467 (lv_at hl 5 rfl) ?_
  refine lv_iconst (v := 1) hx hb dL_law_469 (by decide) ?_
  refine lv_iadd hx hb dL_law_470 ?_
  refine W.eq (g2 := F0 m 471 ls [.int 2, .ref b, .ref y]) (by rfl) ?_
  refine va_sld hx hb hX hbl hbA hS (i := 2) (by subst hL; unfold vp_in; decide) dL_law_471 ?_
  refine W.eq (g2 := F0 m 472 ls [.int ((xs 2)), .ref y]) (by rfl) ?_
  refine lv_aload_n hx hb dL_law_472 rfl (lv_at hl 1 rfl) ?_
  refine lv_iload hx hb dL_law_473 (lv_at hl 5 rfl) ?_
  refine lv_iconst (v := 2) hx hb dL_law_475 (by decide) ?_
  refine lv_iadd hx hb dL_law_476 ?_
  refine W.eq (g2 := F0 m 477 ls [.int 3, .ref b, .int ((xs 2)), .ref y]) (by rfl) ?_
  refine va_sld hx hb hX hbl hbA hS (i := 3) (by subst hL; unfold vp_in; decide) dL_law_477 ?_
  refine W.eq (g2 := F0 m 478 ls [.int ((xs 3)), .int ((xs 2)), .ref y]) (by rfl) ?_
  refine lv_aload_n hx hb dL_law_478 rfl (lv_at hl 1 rfl) ?_
  refine lv_iload hx hb dL_law_479 (lv_at hl 5 rfl) ?_
  refine lv_iconst (v := 3) hx hb dL_law_481 (by decide) ?_
  refine lv_iadd hx hb dL_law_482 ?_
  refine W.eq (g2 := F0 m 483 ls [.int 4, .ref b, .int ((xs 3)), .int ((xs 2)), .ref y]) (by rfl) ?_
  refine va_sld hx hb hX hbl hbA hS (i := 4) (by subst hL; unfold vp_in; decide) dL_law_483 ?_
  refine W.eq (g2 := F0 m 484 ls [.int ((xs 4)), .int ((xs 3)), .int ((xs 2)), .ref y]) (by rfl) ?_
  have hPc := hP.sub (ws' := [(y, .inr (3, [.int 0, .int pv, .ref mb, .ref mz, .ref ob, .ref oz, .int 0, .int 0, .int 0, .ref fd, .ref md, .int 0, .int 0])), (mz, .inl (kz, 3, .inl (fun _ => 0)))]) [7, 9] rfl
  have hKc := hK.sub (tys' := [(kz, .int)]) [9] rfl
  have hDc := hD.sub (ws' := [(y, .inr (3, [.int 0, .int pv, .ref mb, .ref mz, .ref ob, .ref oz, .int 0, .int 0, .int 0, .ref fd, .ref md, .int 0, .int 0])), (mz, .inl (kz, 3, .inl (fun _ => 0)))]) [7, 9] (by decide) rfl
  have hFc := va_free (wc := [(y, .inr (3, [.int 0, .int pv, .ref mb, .ref mz, .ref ob, .ref oz, .int 0, .int 0, .int 0, .ref fd, .ref md, .int 0, .int 0])), (mz, .inl (kz, 3, .inl (fun _ => 0)))]) hD hS hA [7, 9] rfl
  refine va_calli (va_runV (As := [.int ((xs 2)), .int ((xs 3)), .int ((xs 4))]) (rest := []) ⟨hx, hb, hml, hown, hts⟩ (m_byteAt l dC dI H.size y mb mz ob oz fd md kz pv 0 ((xs 2)) ((xs 3)) ((xs 4)) hpv) (cwV 3 hts gL_law_X2_byteAt rfl rfl rfl (by decide +kernel) ⟨Nat.le_of_ble_eq_true rfl, Nat.le_of_ble_eq_true rfl⟩) ⟨fun a U g mk q => by obtain ⟨q0, q1, qP, qK, qD⟩ := q; exact ⟨q0, q1, qP, va_K.moved (u := U) (U := U.calling g mk a) (Vm.Alike.refl U.vm) qK, qD⟩, va_recv hKc hPc (ci := 3) (q0 := 0) rfl rfl, fun U hU hW => ⟨rfl, by rw [hU], by rw [hU]; exact hPc, va_K.moved hW.alike hKc, hDc.weaken (fun _ _ _ _ => trivial)⟩⟩ rfl rfl hl.1 rfl (lv_room (Nat.le_of_ble_eq_true rfl)) dL_law_484 ⟨Nat.le_of_ble_eq_true rfl, Nat.le_of_ble_eq_true rfl⟩) hS (fun q _ h => hFc q h) hFc (fun bv tv t H1 locs ht hvm hb6 hB hz1 hk1 hS => ?_)
  obtain ⟨hP1, hK1, hD1⟩ := hB
  rw [ht] at hP1
  have hK1 := va_K.moved hvm.symm hK1
  obtain ⟨hP, hD⟩ := va_join (wr := [(fe, .inl (cF, 16, .inl (fun _ => 0))), (b0, .inl (c0, N, .inl (fun _ => 0))), (r0, .inl (d0, N, .inl (fun _ => 0))), (b1, .inl (c1, N, .inl (fun _ => 0))), (r1, .inl (d1, N, .inl (fun _ => 0))), (b2, .inl (c2, N, .inl (fun _ => 0))), (r2, .inl (d2, N, .inl (fun _ => 0))), (mb, .inl (k1, 4608, .inl (fun _ => 0))), (ob, .inl (k2, 4608, .inl (fun _ => 0))), (oz, .inl (k3, 3, .inl (fun _ => 0))), (fd, .inl (kf, 16, .inl (fun _ => 0))), (md, .inl (k4, 24, .inl (fun _ => 0))), (ou, .inl (kl, 1, .inr (.inl g)))]) (w1 := [(y, .inr (3, [.int tv, .int pv, .ref mb, .ref mz, .ref ob, .ref oz, .int 0, .int 0, .int 0, .ref fd, .ref md, .int 0, .int 0])), (mz, .inl (kz, 3, .inl (fun _ => 0)))]) hP hD [7, 9] [0, 1, 2, 3, 4, 5, 6, 8, 10, 11, 12, 13, 14] rfl rfl (by decide) (by decide) hk1 hFc hP1 hD1
  generalize H1 = H at hP hS ⊢
  have hP : va_P (dC, dI) vwCl [(fe, .inl (cF, 16, .inl (fun _ => 0))), (b0, .inl (c0, N, .inl (fun _ => 0))), (r0, .inl (d0, N, .inl (fun _ => 0))), (b1, .inl (c1, N, .inl (fun _ => 0))), (r1, .inl (d1, N, .inl (fun _ => 0))), (b2, .inl (c2, N, .inl (fun _ => 0))), (r2, .inl (d2, N, .inl (fun _ => 0))), (mb, .inl (k1, 4608, .inl (fun _ => 0))), (ob, .inl (k2, 4608, .inl (fun _ => 0))), (oz, .inl (k3, 3, .inl (fun _ => 0))), (fd, .inl (kf, 16, .inl (fun _ => 0))), (md, .inl (k4, 24, .inl (fun _ => 0))), (ou, .inl (kl, 1, .inr (.inl g))), (y, .inr (3, [.int tv, .int pv, .ref mb, .ref mz, .ref ob, .ref oz, .int 0, .int 0, .int 0, .ref fd, .ref md, .int 0, .int 0])), (mz, .inl (kz, 3, .inl (fun _ => 0)))] H := hP
  have hD : va_D A [(fe, .inl (cF, 16, .inl (fun _ => 0))), (b0, .inl (c0, N, .inl (fun _ => 0))), (r0, .inl (d0, N, .inl (fun _ => 0))), (b1, .inl (c1, N, .inl (fun _ => 0))), (r1, .inl (d1, N, .inl (fun _ => 0))), (b2, .inl (c2, N, .inl (fun _ => 0))), (r2, .inl (d2, N, .inl (fun _ => 0))), (mb, .inl (k1, 4608, .inl (fun _ => 0))), (ob, .inl (k2, 4608, .inl (fun _ => 0))), (oz, .inl (k3, 3, .inl (fun _ => 0))), (fd, .inl (kf, 16, .inl (fun _ => 0))), (md, .inl (k4, 24, .inl (fun _ => 0))), (ou, .inl (kl, 1, .inr (.inl g))), (y, .inr (3, [.int tv, .int pv, .ref mb, .ref mz, .ref ob, .ref oz, .int 0, .int 0, .int 0, .ref fd, .ref md, .int 0, .int 0])), (mz, .inl (kz, 3, .inl (fun _ => 0)))] := hD
  refine W.widen (k := 21) (n := 18540) (by omega) (by omega) ?_
  obtain ⟨hb0, hb7⟩ := hb6
  subst hb0
  refine lv_istore (lv' := [(6, .int 0), (5, .int kk1), (0, .ref b), (1, .ref x), (2, .ref y), (3, .ref ou), (4, .int 1)]) hx hb dL_law_487 hl (by decide) rfl (fun ls hl => ?_)
  refine lv_aload_n hx hb dL_law_489 rfl (lv_at hl 4 rfl) ?_
  have hPc := hP.sub (ws' := [(y, .inr (3, [.int tv, .int pv, .ref mb, .ref mz, .ref ob, .ref oz, .int 0, .int 0, .int 0, .ref fd, .ref md, .int 0, .int 0]))]) [13] rfl
  have hKc := hK.sub (tys' := []) [] rfl
  refine vp_callSi ((va_runV (As := []) (rest := []) ⟨hx, hb, hml, hown, hts⟩ (m_thrown l dC dI y mb mz ob oz fd md pv tv) (cwV 0 hts gL_law_X2_thrown rfl rfl rfl (by decide +kernel) ⟨Nat.le_of_ble_eq_true rfl, Nat.le_of_ble_eq_true rfl⟩) ⟨fun a U g mk q => by obtain ⟨q0, qP, qK⟩ := q; exact ⟨q0, qP, va_K.moved (u := U) (U := U.calling g mk a) (Vm.Alike.refl U.vm) qK⟩, va_recv hKc hPc (ci := 3) (q0 := 0) rfl rfl, fun U hU hW => ⟨rfl, by rw [hU]; exact hPc, va_K.moved hW.alike hKc⟩⟩ rfl rfl hl.1 rfl (lv_room (Nat.le_of_ble_eq_true rfl)) dL_law_490 ⟨Nat.le_of_ble_eq_true rfl, Nat.le_of_ble_eq_true rfl⟩).run) (fun r9 hr9 => ?_)
  refine lv_iload hx hb dL_law_493 (lv_at hl 1 rfl) ?_
  refine lv_icmp_eq (tgt := 500) hx hb dL_law_495 (by decide) (fun c495 => ?_) (fun c495 => ?_)
  ·
    refine lv_iload hx hb dL_law_500 (lv_at hl 1 rfl) ?_
    refine lv_if_ne (tgt := 517) hx hb dL_law_502 (by decide) (fun c502 => ?_) (fun c502 => ?_)
    · refine lv_goto (tgt := 595) hx hb dL_law_517 (by decide) ?_
      exact law_tail hL C0 hA2 (Nat.le_of_ble_eq_true rfl) (Nat.le_of_ble_eq_true rfl) hS (lv_sub hl [2, 6] rfl)
    · refine lv_aload_n hx hb dL_law_505 rfl (lv_at hl 5 rfl) ?_
      refine lv_iconst (v := 0) hx hb dL_law_506 (by decide) ?_
      refine va_lald hx hb hK hP 12 14 rfl rfl (i := 0) (by unfold vp_in; decide) dL_law_507 ?_
      refine lv_iload hx hb dL_law_508 (lv_at hl 0 rfl) ?_
      refine lv_i2l (v := (0 : Int32).toInt64) hx hb dL_law_510 rfl ?_
      refine W.lcmp hx hb dL_law_511 ?_
      refine W.eq (g2 := F0 m 512 ls [.int 0]) (by rw [show g (0 : Int32).toNatClampNeg = 0 from hg0]; rfl) ?_
      refine lv_if_eq (tgt := 517) hx hb dL_law_512 (by decide) (fun c512 => ?_) (fun c512 => ?_)
      · refine lv_goto (tgt := 595) hx hb dL_law_517 (by decide) ?_
        exact law_tail hL C0 hA2 (Nat.le_of_ble_eq_true rfl) (Nat.le_of_ble_eq_true rfl) hS (lv_sub hl [2, 6] rfl)
      · exact absurd rfl c512
  · refine absurd ?_ c495
    rw [show r9 = tv from hr9]
    rcases hk5 with ⟨rfl, h1⟩ | ⟨rfl, h1⟩ <;> rcases hb7 with ⟨rfl, h2⟩ | ⟨rfl, h2⟩
    · rfl
    · exact absurd h1 h2
    · exact absurd h2 h1
    · rfl
