/-! words that a fresh object's contracts are made of -/
abbrev gF (f0 f1 f2 : Nat) : Nat → Option Nat := va_up (va_up (va_up (fun _ => none) 0 (some f0)) 1 (some f1)) 2 (some f2)
/-- the links to the members of the nest mate, and the kind of array over it: words that no word list carries -/
def nwP (U : State) : Prop := va_Nw (.methodLinkNest RX1 66 yX0_length "ThreeFiles") U ∧ va_Nw (.methodLinkNest RX1 82 yX0_get "ThreeFiles") U ∧ va_Nw (.methodLinkNest RX1 72 yX0_setLength "ThreeFiles") U ∧ va_Nw (.methodLinkNest RX1 79 yX0_has "ThreeFiles") U ∧ va_Nw (.methodLinkNest RX1 19 yX0_init "ThreeFiles") U ∧ va_AO RX0 U
theorem nwP.n66 {U : State} (h : nwP U) : va_Nw (.methodLinkNest RX1 66 yX0_length "ThreeFiles") U := h.1
theorem nwP.n82 {U : State} (h : nwP U) : va_Nw (.methodLinkNest RX1 82 yX0_get "ThreeFiles") U := h.2.1
theorem nwP.n72 {U : State} (h : nwP U) : va_Nw (.methodLinkNest RX1 72 yX0_setLength "ThreeFiles") U := h.2.2.1
theorem nwP.n79 {U : State} (h : nwP U) : va_Nw (.methodLinkNest RX1 79 yX0_has "ThreeFiles") U := h.2.2.2.1
theorem nwP.n19 {U : State} (h : nwP U) : va_Nw (.methodLinkNest RX1 19 yX0_init "ThreeFiles") U := h.2.2.2.2.1
theorem nwP.ao {U : State} (h : nwP U) : va_AO RX0 U := h.2.2.2.2.2
theorem nwS {U : State} {g : JFrame} {mk : MethodId} {a : Array Value} (h : nwP U) : nwP (U.calling g mk a) := ⟨h.1.same rfl rfl, h.2.1.same rfl rfl, h.2.2.1.same rfl rfl, h.2.2.2.1.same rfl rfl, h.2.2.2.2.1.same rfl rfl, va_AO.moved (u := U) (U := U.calling g mk a) (Vm.Alike.refl U.vm) h.2.2.2.2.2⟩
theorem nwW {s U : State} (hW : s.WarmedH U.vm) (h : nwP s) : nwP U := ⟨va_Nw.warmM hW h.1, va_Nw.warmM hW h.2.1, va_Nw.warmM hW h.2.2.1, va_Nw.warmM hW h.2.2.2.1, va_Nw.warmM hW h.2.2.2.2.1, va_AO.moved hW.alike h.2.2.2.2.2⟩
theorem q_ge {a b : Int32} (h : ¬ a < b) : b ≤ a := by
  rw [Int32.lt_iff_toInt_lt] at h; rw [Int32.le_iff_toInt_le]; omega
theorem q_nlt {a b : Int32} (h : a ≤ b) : ¬ b < a := by
  rw [Int32.le_iff_toInt_le] at h; rw [Int32.lt_iff_toInt_lt]; omega
theorem q_file {a : Int32} (h1 : ¬ a < 0) (h2 : ¬ 3 ≤ a) : a = 0 ∨ a = 1 ∨ a = 2 := by
  rw [Int32.lt_iff_toInt_lt] at h1; rw [Int32.le_iff_toInt_le] at h2
  have e0 : (0 : Int32).toInt = 0 := by decide
  have e3 : (3 : Int32).toInt = 3 := by decide
  have e1 : (1 : Int32).toInt = 1 := by decide
  have e2 : (2 : Int32).toInt = 2 := by decide
  rw [e0] at h1; rw [e3] at h2
  have h : a.toInt = 0 ∨ a.toInt = 1 ∨ a.toInt = 2 := by omega
  rcases h with h | h | h
  · exact Or.inl (Int32.toInt_inj.mp (by rw [h, e0]))
  · exact Or.inr (Or.inl (Int32.toInt_inj.mp (by rw [h, e1])))
  · exact Or.inr (Or.inr (Int32.toInt_inj.mp (by rw [h, e2])))
theorem q_isfile {a : Int32} (h : a = 0 ∨ a = 1 ∨ a = 2) : ¬ (a < 0 ∨ 3 ≤ a) := by
  rcases h with rfl | rfl | rfl <;> decide
theorem q_nofile {a : Int32} (h : a < 0 ∨ 3 ≤ a) : ¬ (0 ≤ a ∧ a < 3) := by
  rw [Int32.lt_iff_toInt_lt, Int32.le_iff_toInt_le] at h
  rw [Int32.lt_iff_toInt_lt, Int32.le_iff_toInt_le]
  omega
theorem q_div2 {a : Int32} (h : ¬ a < 0) : ¬ a / 2 < 0 := by
  obtain ⟨j, hj, rfl⟩ := nI_of h
  have e : nI j / 2 = nI (j / 2) := pk_div (d := 2) hj (by decide) (by decide)
  rw [e]
  exact nI_pos (by omega)
theorem q_ltm1 {a : Int32} (h : ¬ a < 0) : ¬ a < (-1) := by
  rw [Int32.lt_iff_toInt_lt] at h; rw [Int32.lt_iff_toInt_lt]
  have e0 : (0 : Int32).toInt = 0 := by decide
  have e1 : (-1 : Int32).toInt = -1 := by decide
  rw [e0] at h; rw [e1]; omega
def spPc (p : Int32) : Int32 := if 1 ≤ p ∧ p ≤ 64 then p else 1
theorem pc_cases (p : Int32) : p < 1 ∨ 64 < p ∨ ∃ k : Nat, 1 ≤ k ∧ k ≤ 64 ∧ p = nI k := by
  by_cases h1 : p < 1
  · exact Or.inl h1
  by_cases h2 : 64 < p
  · exact Or.inr (Or.inl h2)
  refine Or.inr (Or.inr ?_)
  have e1 : (1 : Int32).toInt = 1 := by decide
  have e64 : (64 : Int32).toInt = 64 := by decide
  have e0 : (0 : Int32).toInt = 0 := by decide
  rw [Int32.lt_iff_toInt_lt, e1] at h1
  rw [Int32.lt_iff_toInt_lt, e64] at h2
  have h0 : ¬ p < 0 := by rw [Int32.lt_iff_toInt_lt, e0]; omega
  obtain ⟨j, hj, rfl⟩ := nI_of h0
  rw [nI_toInt hj] at h1 h2
  exact ⟨j, by omega, by omega, rfl⟩
theorem q_big {p : Int32} (h : 64 < p) : ¬ p < 1 := by
  have e1 : (1 : Int32).toInt = 1 := by decide
  have e64 : (64 : Int32).toInt = 64 := by decide
  rw [Int32.lt_iff_toInt_lt, e64] at h
  rw [Int32.lt_iff_toInt_lt, e1]; omega
theorem pc_lo {p : Int32} {k : Nat} (h : p = nI k) (h1 : 1 ≤ k) (h2 : k ≤ 64) : ¬ p < 1 := by
  have e1 : (1 : Int32).toInt = 1 := by decide
  rw [h, Int32.lt_iff_toInt_lt, e1, nI_toInt (by omega)]; omega
theorem pc_hi {p : Int32} {k : Nat} (h : p = nI k) (h1 : 1 ≤ k) (h2 : k ≤ 64) : ¬ 64 < p := by
  have e64 : (64 : Int32).toInt = 64 := by decide
  rw [h, Int32.lt_iff_toInt_lt, e64, nI_toInt (by omega)]; omega
theorem pc_a {p : Int32} (h : p < 1) : 1 = spPc p := by
  unfold spPc
  rw [if_neg (fun q => q_nlt q.1 h)]
theorem pc_b {p : Int32} (h : 64 < p) : 1 = spPc p := by
  unfold spPc
  rw [if_neg (fun q => q_nlt q.2 h)]
theorem pc_c {p : Int32} {k : Nat} (h : p = nI k) (h1 : 1 ≤ k) (h2 : k ≤ 64) : p = spPc p := by
  unfold spPc
  rw [if_pos ⟨q_ge (pc_lo h h1 h2), q_ge (pc_hi h h1 h2)⟩]
theorem pc_mul {p : Int32} {k : Nat} (h : p = nI k) : p * 24 = nI (k * 24) := by
  rw [h]; exact pk_mul k 24
theorem q_in2 {a : Int32} (h : 0 ≤ a ∧ a ≤ 2) : a = 0 ∨ a = 1 ∨ a = 2 := by
  refine q_file (q_nlt h.1) ?_
  have h2 := h.2
  rw [Int32.le_iff_toInt_le] at h2 ⊢
  have e2 : (2 : Int32).toInt = 2 := by decide
  have e3 : (3 : Int32).toInt = 3 := by decide
  omega
theorem q_in3 {a : Int32} (h : 0 ≤ a ∧ a ≤ 2) : 0 ≤ a ∧ a < 3 := by
  refine ⟨h.1, ?_⟩
  have h2 := h.2
  rw [Int32.le_iff_toInt_le] at h2
  rw [Int32.lt_iff_toInt_lt]
  have e2 : (2 : Int32).toInt = 2 := by decide
  have e3 : (3 : Int32).toInt = 3 := by decide
  omega
theorem q_out2 {a : Int32} (h : a < 0 ∨ 2 < a) : a < 0 ∨ 3 ≤ a := by
  rcases h with h | h
  · exact Or.inl h
  · refine Or.inr ?_
    rw [Int32.lt_iff_toInt_lt] at h
    rw [Int32.le_iff_toInt_le]
    have e2 : (2 : Int32).toInt = 2 := by decide
    have e3 : (3 : Int32).toInt = 3 := by decide
    omega
theorem q_out {a b c : Int32} (h : a < b ∨ c < a) : ¬ (b ≤ a ∧ a ≤ c) := fun q => by
  rcases h with h | h
  · exact q_nlt q.1 h
  · exact q_nlt q.2 h
theorem q_gem1 {a : Int32} (h : 0 ≤ a) : ¬ a ≤ (-1) := by
  rw [Int32.le_iff_toInt_le] at h ⊢
  have e0 : (0 : Int32).toInt = 0 := by decide
  have e1 : (-1 : Int32).toInt = -1 := by decide
  omega
def okB (pv p0 p1 p2 : Int32) : Prop := (p0 = 0 ∨ p0 = 1 ∨ p0 = 2) ∧ ¬ p1 < 0 ∧ p1 < pv ∧ ¬ p2 < 0 ∧ p2 < 24
theorem q_24 {a : Int32} (h : a ≤ 23) : a < 24 := by
  rw [Int32.le_iff_toInt_le] at h; rw [Int32.lt_iff_toInt_lt]
  have e1 : (23 : Int32).toInt = 23 := by decide
  have e2 : (24 : Int32).toInt = 24 := by decide
  omega
theorem q_m0 {pv v : Int32} (hpv : ∃ k : Nat, 1 ≤ k ∧ k ≤ 64 ∧ pv = nI k) (e : v = pv - 1) : v.toInt = pv.toInt - 1 := by
  obtain ⟨k, h1, h2, rfl⟩ := hpv
  obtain ⟨j, rfl⟩ : ∃ j, k = j + 1 := ⟨k - 1, by omega⟩
  rw [e, nI_pred, nI_toInt (by omega), nI_toInt (by omega)]; omega
theorem q_m1 {pv v p1 : Int32} (hpv : ∃ k : Nat, 1 ≤ k ∧ k ≤ 64 ∧ pv = nI k) (h : p1 ≤ v) (e : v = pv - 1) : p1 < pv := by
  have h0 := q_m0 hpv e
  rw [Int32.le_iff_toInt_le] at h; rw [Int32.lt_iff_toInt_lt]; omega
theorem q_m2 {pv v p1 : Int32} (hpv : ∃ k : Nat, 1 ≤ k ∧ k ≤ 64 ∧ pv = nI k) (h : p1 < 0 ∨ v < p1) (e : v = pv - 1) (h1 : ¬ p1 < 0) (h2 : p1 < pv) : False := by
  have h0 := q_m0 hpv e
  rcases h with h | h
  · exact h1 h
  · rw [Int32.lt_iff_toInt_lt] at h h2; omega
theorem q_m3 {p2 : Int32} (h : p2 < 0 ∨ 23 < p2) (h1 : ¬ p2 < 0) (h2 : p2 < 24) : False := by
  rcases h with h | h
  · exact h1 h
  · rw [Int32.lt_iff_toInt_lt] at h h2
    have e1 : (23 : Int32).toInt = 23 := by decide
    have e2 : (24 : Int32).toInt = 24 := by decide
    omega
theorem q_place {pv p1 p2 : Int32} (hpv : ∃ k : Nat, 1 ≤ k ∧ k ≤ 64 ∧ pv = nI k) (h1 : 0 ≤ p1) (h2 : p1 < pv) (h3 : 0 ≤ p2) (h4 : p2 ≤ 23) : 0 ≤ 24 * p1 + p2 := by
  obtain ⟨k, hk1, hk2, rfl⟩ := hpv
  obtain ⟨i, hi, rfl⟩ := nI_of (q_nlt h1)
  obtain ⟨j, hj, rfl⟩ := nI_of (q_nlt h3)
  rw [Int32.lt_iff_toInt_lt, nI_toInt hi, nI_toInt (by omega)] at h2
  have e23 : (23 : Int32).toInt = 23 := by decide
  rw [Int32.le_iff_toInt_le, nI_toInt hj, e23] at h4
  have e : (24 : Int32) * nI i + nI j = nI (24 * i + j) := by
    rw [show (24 : Int32) = nI 24 from rfl, pk_mul, nI_add]
  rw [e]
  exact nI_pos' (by omega)
