/-! Words for the state, and what is plain of ints. -/
abbrev zR : Type := (Nat × Nat × Nat × Nat) × ((Nat → Nat) × (Nat → Nat) × (Nat → Nat) × (Nat → Nat) × (Nat → Nat) × (Nat → Nat))
abbrev zi (ρ : zR) : Nat := ρ.1.1
abbrev zn (ρ : zR) : Nat := ρ.1.2.1
abbrev zg (ρ : zR) : Nat := ρ.1.2.2.1
abbrev zl (ρ : zR) : Nat := ρ.1.2.2.2
abbrev zk (ρ : zR) : Nat → Nat := ρ.2.1
abbrev zs (ρ : zR) : Nat → Nat := ρ.2.2.1
abbrev zw (ρ : zR) : Nat → Nat := ρ.2.2.2.1
abbrev zf (ρ : zR) : Nat → Nat := ρ.2.2.2.2.1
abbrev zy (ρ : zR) : Nat → Nat := ρ.2.2.2.2.2.1
abbrev zh (ρ : zR) : Nat → Nat := ρ.2.2.2.2.2.2
/-- the class's ridge at q holds ρ -/
def isRd (I : Nat → Nat → Int32) (q : Nat) (ρ : zR) : Prop := I q 0 = nI (zi ρ) ∧ I q 3 = nI (zn ρ) ∧ I q 6 = nI (zg ρ) ∧ I q 9 = nI (zl ρ) ∧ (∀ k, k < zi ρ → I (q + 1) k = nI (zk ρ k)) ∧ (∀ k, k < zi ρ → I (q + 2) k = nI (zs ρ k)) ∧ (∀ n, n < zn ρ → I (q + 3) n = nI (zw ρ n)) ∧ (∀ n, n < zn ρ → I (q + 4) n = nI (zf ρ n)) ∧ (∀ g, g < zg ρ → I (q + 5) g = nI (zy ρ g)) ∧ (∀ g, g < zg ρ → I (q + 6) g = nI (zh ρ g))
/-- the reference's ridge holds ρ -/
def isMd (I : Nat → Nat → Int32) (ρ : zR) : Prop := I 80 1 = nI (zi ρ) ∧ I 80 4 = nI (zn ρ) ∧ I 80 7 = nI (zg ρ) ∧ I 80 10 = nI (zl ρ) ∧ (∀ k, k < zi ρ → I 81 k = nI (zk ρ k)) ∧ (∀ k, k < zi ρ → I 82 k = nI (zs ρ k)) ∧ (∀ n, n < zn ρ → I 83 n = nI (zw ρ n)) ∧ (∀ n, n < zn ρ → I 84 n = nI (zf ρ n)) ∧ (∀ g, g < zg ρ → I 85 g = nI (zy ρ g)) ∧ (∀ g, g < zg ρ → I 86 g = nI (zh ρ g))
def wfR (ρ : zR) : Prop := zi ρ ≤ 6 ∧ zn ρ ≤ 8 ∧ zg ρ ≤ 8 ∧ zl ρ ≤ 1 ∧ (zi ρ = 0 → zn ρ = 0 ∧ zg ρ = 0) ∧ (0 < zi ρ → 2 ≤ zi ρ ∧ 1 ≤ zn ρ ∧ 1 ≤ zg ρ) ∧ (∀ k, k < zi ρ → zk ρ k ≤ 2) ∧ (∀ k, k < zi ρ → zs ρ k ≤ 9) ∧ (∀ n, n < zn ρ → zw ρ n ≤ 1) ∧ (∀ n, n < zn ρ → zf ρ n ≤ 5) ∧ (∀ g, g < zg ρ → zy ρ g ≤ 3) ∧ (∀ g, g < zg ρ → zh ρ g < zi ρ)
theorem x_in {k : Int32} {n : Nat} (h1 : ¬ k < 0) (h2 : k < nI n) (hn : n < 2 ^ 31) : ∃ j, j < n ∧ k = nI j := by
  rcases pk_ix k hn with h | h | h
  · exact absurd h h1
  · exact absurd h (Int32.not_le.mpr h2)
  · exact h
theorem x_lo {k : Int32} {n : Nat} (h : k < 0) (hn : n < 2 ^ 31) : ∀ j, j < n → k ≠ nI j := fun j hj e => nI_pos (n := j) (by omega) (e ▸ h)
theorem x_hi {k : Int32} {n : Nat} (h : nI n ≤ k) (hn : n < 2 ^ 31) : ∀ j, j < n → k ≠ nI j := fun j hj e => nI_ge hj hn (e ▸ h)
theorem x_hi' {k : Int32} {n : Nat} (h : nI n < k) (hn : n + 1 < 2 ^ 31) : ∀ j, j < n + 1 → k ≠ nI j := fun j hj e => nI_nlt (a := n) (b := j) (by omega) (by omega) (e ▸ h)
theorem x_in' {k : Int32} {n : Nat} (h1 : ¬ k < 0) (h2 : k ≤ nI n) (hn : n + 1 < 2 ^ 31) : ∃ j, j < n + 1 ∧ k = nI j := by
  rcases pk_ix k hn with h | h | h
  · exact absurd h h1
  · exact absurd h (Int32.not_le.mpr (Int32.lt_of_le_of_lt h2 (nI_lt (by omega) hn)))
  · exact h
theorem x_nle {a b : Int32} (h : ¬ a ≤ b) : b < a := Int32.not_le.mp h
theorem x_nlt {a b : Int32} (h : ¬ a < b) : b ≤ a := Int32.not_lt.mp h
/-- k is one of the first n numbers, or not -/
def inN (k : Int32) (n : Nat) : Prop := ∃ j, j < n ∧ k = nI j
theorem nar_b {v : Int32} (h : v = 0 ∨ v = 1) : narrow .boolean (.int v) = .int v := by
  rcases h with rfl | rfl <;> rfl
