/-! words that a fresh object's contracts are made of -/
abbrev gF (f0 f1 f2 : Nat) : Nat → Option Nat := va_up (va_up (va_up (fun _ => none) 0 (some f0)) 1 (some f1)) 2 (some f2)
/-- the links to the nest mate's private members, and the array class over it: words that no word list carries -/
def nwP (U : State) : Prop := va_Nw (.methodLinkNest RX1 66 yX0_length "ThreeFiles") U ∧ va_Nw (.methodLinkNest RX1 82 yX0_get "ThreeFiles") U ∧ va_Nw (.methodLinkNest RX1 72 yX0_setLength "ThreeFiles") U ∧ va_Nw (.methodLinkNest RX1 79 yX0_has "ThreeFiles") U ∧ va_Nw (.methodLinkNest RX1 19 yX0_init "ThreeFiles") U ∧ va_AO RX0 U
theorem nwP.n66 {U : State} (h : nwP U) : va_Nw (.methodLinkNest RX1 66 yX0_length "ThreeFiles") U := h.1
theorem nwP.n82 {U : State} (h : nwP U) : va_Nw (.methodLinkNest RX1 82 yX0_get "ThreeFiles") U := h.2.1
theorem nwP.n72 {U : State} (h : nwP U) : va_Nw (.methodLinkNest RX1 72 yX0_setLength "ThreeFiles") U := h.2.2.1
theorem nwP.n79 {U : State} (h : nwP U) : va_Nw (.methodLinkNest RX1 79 yX0_has "ThreeFiles") U := h.2.2.2.1
theorem nwP.n19 {U : State} (h : nwP U) : va_Nw (.methodLinkNest RX1 19 yX0_init "ThreeFiles") U := h.2.2.2.2.1
theorem nwP.ao {U : State} (h : nwP U) : va_AO RX0 U := h.2.2.2.2.2
theorem nwS {U : State} {g : JFrame} {mk : MethodId} {a : Array Value} (h : nwP U) : nwP (U.calling g mk a) := ⟨h.1.same rfl rfl, h.2.1.same rfl rfl, h.2.2.1.same rfl rfl, h.2.2.2.1.same rfl rfl, h.2.2.2.2.1.same rfl rfl, va_AO.moved (u := U) (U := U.calling g mk a) (Vm.Alike.refl U.vm) h.2.2.2.2.2⟩
theorem nwW {s U : State} (hW : s.WarmedH U.vm) (h : nwP s) : nwP U := ⟨va_Nw.warmM hW h.1, va_Nw.warmM hW h.2.1, va_Nw.warmM hW h.2.2.1, va_Nw.warmM hW h.2.2.2.1, va_Nw.warmM hW h.2.2.2.2.1, va_AO.moved hW.alike h.2.2.2.2.2⟩
theorem q_ge {a b : Int32} (h : ¬ a < b) : b ≤ a := by
  rw [Int32.lt_iff_toInt_lt] at h; rw [Int32.le_iff_toInt_le]; omega
theorem q_nlt {a b : Int32} (h : a ≤ b) : ¬ b < a := by
  rw [Int32.le_iff_toInt_le] at h; rw [Int32.lt_iff_toInt_lt]; omega
theorem q_file {a : Int32} (h1 : ¬ a < 0) (h2 : ¬ 3 ≤ a) : a = 0 ∨ a = 1 ∨ a = 2 := by
  rw [Int32.lt_iff_toInt_lt] at h1; rw [Int32.le_iff_toInt_le] at h2
  have e0 : (0 : Int32).toInt = 0 := by decide
  have e3 : (3 : Int32).toInt = 3 := by decide
  have e1 : (1 : Int32).toInt = 1 := by decide
  have e2 : (2 : Int32).toInt = 2 := by decide
  rw [e0] at h1; rw [e3] at h2
  have h : a.toInt = 0 ∨ a.toInt = 1 ∨ a.toInt = 2 := by omega
  rcases h with h | h | h
  · exact Or.inl (Int32.toInt_inj.mp (by rw [h, e0]))
  · exact Or.inr (Or.inl (Int32.toInt_inj.mp (by rw [h, e1])))
  · exact Or.inr (Or.inr (Int32.toInt_inj.mp (by rw [h, e2])))
theorem q_isfile {a : Int32} (h : a = 0 ∨ a = 1 ∨ a = 2) : ¬ (a < 0 ∨ 3 ≤ a) := by
  rcases h with rfl | rfl | rfl <;> decide
theorem q_nofile {a : Int32} (h : a < 0 ∨ 3 ≤ a) : ¬ (0 ≤ a ∧ a < 3) := by
  rw [Int32.lt_iff_toInt_lt, Int32.le_iff_toInt_le] at h
  rw [Int32.lt_iff_toInt_lt, Int32.le_iff_toInt_le]
  omega
theorem q_div2 {a : Int32} (h : ¬ a < 0) : ¬ a / 2 < 0 := by
  obtain ⟨j, hj, rfl⟩ := nI_of h
  have e : nI j / 2 = nI (j / 2) := pk_div (d := 2) hj (by decide) (by decide)
  rw [e]
  exact nI_pos (by omega)
theorem q_ltm1 {a : Int32} (h : ¬ a < 0) : ¬ a < (-1) := by
  rw [Int32.lt_iff_toInt_lt] at h; rw [Int32.lt_iff_toInt_lt]
  have e0 : (0 : Int32).toInt = 0 := by decide
  have e1 : (-1 : Int32).toInt = -1 := by decide
  rw [e0] at h; rw [e1]; omega
def spPc (p : Int32) : Int32 := if 1 ≤ p ∧ p ≤ 64 then p else 1
theorem pc_cases (p : Int32) : p < 1 ∨ 64 < p ∨ ∃ k : Nat, 1 ≤ k ∧ k ≤ 64 ∧ p = nI k := by
  by_cases h1 : p < 1
  · exact Or.inl h1
  by_cases h2 : 64 < p
  · exact Or.inr (Or.inl h2)
  refine Or.inr (Or.inr ?_)
  have e1 : (1 : Int32).toInt = 1 := by decide
  have e64 : (64 : Int32).toInt = 64 := by decide
  have e0 : (0 : Int32).toInt = 0 := by decide
  rw [Int32.lt_iff_toInt_lt, e1] at h1
  rw [Int32.lt_iff_toInt_lt, e64] at h2
  have h0 : ¬ p < 0 := by rw [Int32.lt_iff_toInt_lt, e0]; omega
  obtain ⟨j, hj, rfl⟩ := nI_of h0
  rw [nI_toInt hj] at h1 h2
  exact ⟨j, by omega, by omega, rfl⟩
theorem q_big {p : Int32} (h : 64 < p) : ¬ p < 1 := by
  have e1 : (1 : Int32).toInt = 1 := by decide
  have e64 : (64 : Int32).toInt = 64 := by decide
  rw [Int32.lt_iff_toInt_lt, e64] at h
  rw [Int32.lt_iff_toInt_lt, e1]; omega
theorem pc_lo {p : Int32} {k : Nat} (h : p = nI k) (h1 : 1 ≤ k) (h2 : k ≤ 64) : ¬ p < 1 := by
  have e1 : (1 : Int32).toInt = 1 := by decide
  rw [h, Int32.lt_iff_toInt_lt, e1, nI_toInt (by omega)]; omega
theorem pc_hi {p : Int32} {k : Nat} (h : p = nI k) (h1 : 1 ≤ k) (h2 : k ≤ 64) : ¬ 64 < p := by
  have e64 : (64 : Int32).toInt = 64 := by decide
  rw [h, Int32.lt_iff_toInt_lt, e64, nI_toInt (by omega)]; omega
theorem pc_a {p : Int32} (h : p < 1) : 1 = spPc p := by
  unfold spPc
  rw [if_neg (fun q => q_nlt q.1 h)]
theorem pc_b {p : Int32} (h : 64 < p) : 1 = spPc p := by
  unfold spPc
  rw [if_neg (fun q => q_nlt q.2 h)]
theorem pc_c {p : Int32} {k : Nat} (h : p = nI k) (h1 : 1 ≤ k) (h2 : k ≤ 64) : p = spPc p := by
  unfold spPc
  rw [if_pos ⟨q_ge (pc_lo h h1 h2), q_ge (pc_hi h h1 h2)⟩]
theorem pc_mul {p : Int32} {k : Nat} (h : p = nI k) : p * 24 = nI (k * 24) := by
  rw [h]; exact pk_mul k 24
