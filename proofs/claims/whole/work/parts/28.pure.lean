/-! Words for the state, and what is plain of ints. -/
abbrev zR : Type := (Nat × Nat × Nat × Nat) × ((Nat → Nat) × (Nat → Nat) × (Nat → Nat) × (Nat → Nat) × (Nat → Nat) × (Nat → Nat))
abbrev zi (ρ : zR) : Nat := ρ.1.1
abbrev zn (ρ : zR) : Nat := ρ.1.2.1
abbrev zg (ρ : zR) : Nat := ρ.1.2.2.1
abbrev zl (ρ : zR) : Nat := ρ.1.2.2.2
abbrev zk (ρ : zR) : Nat → Nat := ρ.2.1
abbrev zs (ρ : zR) : Nat → Nat := ρ.2.2.1
abbrev zw (ρ : zR) : Nat → Nat := ρ.2.2.2.1
abbrev zf (ρ : zR) : Nat → Nat := ρ.2.2.2.2.1
abbrev zy (ρ : zR) : Nat → Nat := ρ.2.2.2.2.2.1
abbrev zh (ρ : zR) : Nat → Nat := ρ.2.2.2.2.2.2
/-- the class's ridge at q holds ρ -/
def isRd (I : Nat → Nat → Int32) (q : Nat) (ρ : zR) : Prop := I q 0 = nI (zi ρ) ∧ I q 3 = nI (zn ρ) ∧ I q 6 = nI (zg ρ) ∧ I q 9 = nI (zl ρ) ∧ (∀ k, k < zi ρ → I (q + 1) k = nI (zk ρ k)) ∧ (∀ k, k < zi ρ → I (q + 2) k = nI (zs ρ k)) ∧ (∀ n, n < zn ρ → I (q + 3) n = nI (zw ρ n)) ∧ (∀ n, n < zn ρ → I (q + 4) n = nI (zf ρ n)) ∧ (∀ g, g < zg ρ → I (q + 5) g = nI (zy ρ g)) ∧ (∀ g, g < zg ρ → I (q + 6) g = nI (zh ρ g))
/-- the reference's ridge holds ρ -/
def isMd (I : Nat → Nat → Int32) (ρ : zR) : Prop := I 80 1 = nI (zi ρ) ∧ I 80 4 = nI (zn ρ) ∧ I 80 7 = nI (zg ρ) ∧ I 80 10 = nI (zl ρ) ∧ (∀ k, k < zi ρ → I 81 k = nI (zk ρ k)) ∧ (∀ k, k < zi ρ → I 82 k = nI (zs ρ k)) ∧ (∀ n, n < zn ρ → I 83 n = nI (zw ρ n)) ∧ (∀ n, n < zn ρ → I 84 n = nI (zf ρ n)) ∧ (∀ g, g < zg ρ → I 85 g = nI (zy ρ g)) ∧ (∀ g, g < zg ρ → I 86 g = nI (zh ρ g))
def wfR (ρ : zR) : Prop := zi ρ ≤ 6 ∧ zn ρ ≤ 8 ∧ zg ρ ≤ 8 ∧ zl ρ ≤ 1 ∧ (zi ρ = 0 → zn ρ = 0 ∧ zg ρ = 0) ∧ (0 < zi ρ → 2 ≤ zi ρ ∧ 1 ≤ zn ρ ∧ 1 ≤ zg ρ) ∧ (∀ k, k < zi ρ → zk ρ k ≤ 2) ∧ (∀ k, k < zi ρ → zs ρ k ≤ 9) ∧ (∀ n, n < zn ρ → zw ρ n ≤ 1) ∧ (∀ n, n < zn ρ → zf ρ n ≤ 5) ∧ (∀ g, g < zg ρ → zy ρ g ≤ 3) ∧ (∀ g, g < zg ρ → zh ρ g < zi ρ)
theorem x_in {k : Int32} {n : Nat} (h1 : ¬ k < 0) (h2 : k < nI n) (hn : n < 2 ^ 31) : ∃ j, j < n ∧ k = nI j := by
  rcases pk_ix k hn with h | h | h
  · exact absurd h h1
  · exact absurd h (Int32.not_le.mpr h2)
  · exact h
theorem x_lo {k : Int32} {n : Nat} (h : k < 0) (hn : n < 2 ^ 31) : ∀ j, j < n → k ≠ nI j := fun j hj e => nI_pos (n := j) (by omega) (e ▸ h)
theorem x_hi {k : Int32} {n : Nat} (h : nI n ≤ k) (hn : n < 2 ^ 31) : ∀ j, j < n → k ≠ nI j := fun j hj e => nI_ge hj hn (e ▸ h)
theorem x_hi' {k : Int32} {n : Nat} (h : nI n < k) (hn : n + 1 < 2 ^ 31) : ∀ j, j < n + 1 → k ≠ nI j := fun j hj e => nI_nlt (a := n) (b := j) (by omega) (by omega) (e ▸ h)
theorem x_in' {k : Int32} {n : Nat} (h1 : ¬ k < 0) (h2 : k ≤ nI n) (hn : n + 1 < 2 ^ 31) : ∃ j, j < n + 1 ∧ k = nI j := by
  rcases pk_ix k hn with h | h | h
  · exact absurd h h1
  · exact absurd h (Int32.not_le.mpr (Int32.lt_of_le_of_lt h2 (nI_lt (by omega) hn)))
  · exact h
theorem x_nle {a b : Int32} (h : ¬ a ≤ b) : b < a := Int32.not_le.mp h
theorem x_nlt {a b : Int32} (h : ¬ a < b) : b ≤ a := Int32.not_lt.mp h
/-- k is one of the first n numbers, or not -/
def inN (k : Int32) (n : Nat) : Prop := ∃ j, j < n ∧ k = nI j
theorem nar_b {v : Int32} (h : v = 0 ∨ v = 1) : narrow .boolean (.int v) = .int v := by
  rcases h with rfl | rfl <;> rfl
theorem wfR.bi {ρ : zR} (h : wfR ρ) : zi ρ < 2 ^ 31 := by have := h.1; omega
theorem wfR.bn {ρ : zR} (h : wfR ρ) : zn ρ < 2 ^ 31 := by have := h.2.1; omega
theorem wfR.bn1 {ρ : zR} (h : wfR ρ) : zn ρ + 1 < 2 ^ 31 := by have := h.2.1; omega
theorem wfR.bg {ρ : zR} (h : wfR ρ) : zg ρ < 2 ^ 31 := by have := h.2.2.1; omega
def keeps (kd v : Nat) : Nat := if kd = 0 then v else if kd = 1 then v + 1 else 2 * (v + 1)
/-- who keeps one more: 6 and beyond: nobody -/
def rmI (rm : Nat) : Int32 := if rm < 6 then nI rm else -9
theorem rmI_eq {j rm : Nat} (hj : j < 6) : nI j = rmI rm ↔ j = rm := by
  unfold rmI
  by_cases h : rm < 6
  · rw [if_pos h, nI_eq (by omega) (by omega)]
  · rw [if_neg h]
    refine ⟨fun e => ?_, fun e => absurd (e ▸ hj) h⟩
    have h1 : ∀ i, i < 6 → nI i ≠ -9 := by decide
    exact absurd e (h1 j hj)
def rmB (rm j : Nat) : Nat := if j = rm then 1 else 0
theorem x_min {a b : Nat} (ha : a < 2 ^ 31) (hb : b < 2 ^ 31) : (if nI b < nI a then nI b else nI a) = nI (min a b) := by
  by_cases h : b < a
  · rw [if_pos (nI_lt h ha), Nat.min_eq_right (by omega)]
  · rw [if_neg (nI_nlt (by omega) hb), Nat.min_eq_left (by omega)]
/-- the set of the first n numbers with p, as bits -/
def mk (p : Nat → Bool) : Nat → Nat
  | 0 => 0
  | n + 1 => mk p n + (if p n then 2 ^ n else 0)
theorem mk_lt (p : Nat → Bool) : ∀ n, mk p n < 2 ^ n
  | 0 => by simp [mk]
  | n + 1 => by
    have h := mk_lt p n
    rw [mk, Nat.pow_succ]
    split <;> omega
theorem mk_or (p : Nat → Bool) (n : Nat) : mk p (n + 1) = mk p n ||| (if p n then 2 ^ n else 0) := by
  rw [mk]
  split
  · have h := Nat.two_pow_add_eq_or_of_lt (mk_lt p n) 1
    rw [Nat.mul_one] at h
    rw [Nat.or_comm, Nat.add_comm, h]
  · rw [Nat.or_zero, Nat.add_zero]
theorem mk_bit (p : Nat → Bool) (g : Nat) : ∀ n, (mk p n).testBit g = (decide (g < n) && p g)
  | 0 => by simp [mk]
  | n + 1 => by
    rw [mk_or, Nat.testBit_or, mk_bit p g n]
    by_cases h : p n = true
    · rw [if_pos h, Nat.testBit_two_pow]
      by_cases e : n = g
      · subst e; simp [h]
      · have h2 : (decide (g < n + 1)) = decide (g < n) := by rw [decide_eq_decide]; omega
        simp [e, h2]
    · rw [if_neg h, Nat.zero_testBit, Bool.or_false]
      by_cases e : g = n
      · subst e; simp [h]
      · have h2 : (decide (g < n + 1)) = decide (g < n) := by rw [decide_eq_decide]; omega
        rw [h2]
theorem mk_cg {p q : Nat → Bool} : ∀ {n : Nat}, (∀ g, g < n → p g = q g) → mk p n = mk q n
  | 0, _ => rfl
  | n + 1, h => by rw [mk, mk, mk_cg (fun g hg => h g (by omega)), h n (by omega)]
theorem sh1 {i : Nat} (h : i < 31) : (1 : Int32) <<< (nI i &&& 31) = nI (2 ^ i) := by
  have h1 : ∀ i, i < 31 → (1 : Int32) <<< (nI i &&& 31) = nI (2 ^ i) := by decide +kernel
  exact h1 i h
def same (q : Nat → Prop) (I I' : Nat → Nat → Int32) : Prop := ∀ r, ¬ q r → I' r = I r
