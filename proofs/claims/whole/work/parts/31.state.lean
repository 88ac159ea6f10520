/-! The whole state in words: ridge, readings, sheets, fault, trace. -/
abbrev zD : Type := Nat × (Nat → Nat × Nat × Nat)
abbrev zH : Type := Nat → Option (Nat × Nat × (Nat → Int32))
abbrev zS : Type := zR × zD × zH × Int32 × Int32
/-- a sheet of the class, of the reference -/
def shC (I : Nat → Nat → Int32) (k : Nat) (o : Option (Nat × Nat × (Nat → Int32))) : Prop := match o with
  | none => I (72 + 2 * k) 1 = -1 ∧ I (72 + 2 * k) 2 = 0
  | some (a, n, f) => I (72 + 2 * k) 1 = nI a ∧ I (72 + 2 * k) 2 = nI n ∧ ∀ i, i < n → I (72 + 2 * k + 1) i = f i
def shM (I : Nat → Nat → Int32) (k : Nat) (o : Option (Nat × Nat × (Nat → Int32))) : Prop := match o with
  | none => I 98 k = -1
  | some (a, n, f) => I 98 k = nI n ∧ I 99 k = nI a ∧ ∀ i, i < n → I 100 (60 * k + i) = f i
def isDC (I : Nat → Nat → Int32) (δ : zD) : Prop := I 38 0 = nI δ.1 ∧ ∀ r, r < δ.1 → I 39 r = nI (δ.2 r).1 ∧ I 40 r = nI (δ.2 r).2.1 ∧ I 41 r = nI (δ.2 r).2.2
def isDM (I : Nat → Nat → Int32) (δ : zD) : Prop := I 80 25 = nI δ.1 ∧ ∀ r, r < δ.1 → I 95 r = nI (δ.2 r).1 ∧ I 96 r = nI (δ.2 r).2.1 ∧ I 97 r = nI (δ.2 r).2.2
def CI (I : Nat → Nat → Int32) (σ : zS) : Prop := isRd I 2 σ.1 ∧ I 2 10 = -9 ∧ isDC I σ.2.1 ∧ (∀ k, k < 4 → shC I k (σ.2.2.1 k)) ∧ I 0 6 = σ.2.2.2.1 ∧ I 0 7 = σ.2.2.2.2
def MI (I : Nat → Nat → Int32) (σ : zS) : Prop := isMd I σ.1 ∧ I 80 11 = -9 ∧ isDM I σ.2.1 ∧ (∀ k, k < 4 → shM I k (σ.2.2.1 k)) ∧ I 80 0 = σ.2.2.2.1 ∧ I 80 33 = σ.2.2.2.2
def wfD (ρ : zR) (δ : zD) : Prop := δ.1 ≤ 8 ∧ ∀ r, r < δ.1 → (δ.2 r).1 < zg ρ ∧ (δ.2 r).2.1 ≤ zi ρ ∧ (δ.2 r).2.2 < zn ρ
def wfH (η : zH) : Prop := ∀ k, k < 4 → ∀ a n f, η k = some (a, n, f) → a ≤ 2 ∧ n ≤ 60
def WF (σ : zS) : Prop := wfR σ.1 ∧ wfD σ.1 σ.2.1 ∧ wfH σ.2.2.1
theorem CI.R {I : Nat → Nat → Int32} {σ : zS} (h : CI I σ) : isRd I 2 σ.1 := h.1
theorem CI.rm {I : Nat → Nat → Int32} {σ : zS} (h : CI I σ) : I 2 10 = -9 := h.2.1
theorem CI.D {I : Nat → Nat → Int32} {σ : zS} (h : CI I σ) : isDC I σ.2.1 := h.2.2.1
theorem CI.S {I : Nat → Nat → Int32} {σ : zS} (h : CI I σ) : ∀ k, k < 4 → shC I k (σ.2.2.1 k) := h.2.2.2.1
theorem CI.f {I : Nat → Nat → Int32} {σ : zS} (h : CI I σ) : I 0 6 = σ.2.2.2.1 := h.2.2.2.2.1
theorem CI.t {I : Nat → Nat → Int32} {σ : zS} (h : CI I σ) : I 0 7 = σ.2.2.2.2 := h.2.2.2.2.2
theorem MI.R {I : Nat → Nat → Int32} {σ : zS} (h : MI I σ) : isMd I σ.1 := h.1
theorem MI.ck {I : Nat → Nat → Int32} {σ : zS} (h : MI I σ) : I 80 11 = -9 := h.2.1
theorem MI.D {I : Nat → Nat → Int32} {σ : zS} (h : MI I σ) : isDM I σ.2.1 := h.2.2.1
theorem MI.S {I : Nat → Nat → Int32} {σ : zS} (h : MI I σ) : ∀ k, k < 4 → shM I k (σ.2.2.1 k) := h.2.2.2.1
theorem MI.f {I : Nat → Nat → Int32} {σ : zS} (h : MI I σ) : I 80 0 = σ.2.2.2.1 := h.2.2.2.2.1
theorem MI.t {I : Nat → Nat → Int32} {σ : zS} (h : MI I σ) : I 80 33 = σ.2.2.2.2 := h.2.2.2.2.2
/-- the places that the class's state is read from; the reference's -/
def atC (r : Nat) : Prop := r = 0 ∨ (2 ≤ r ∧ r ≤ 8) ∨ (38 ≤ r ∧ r ≤ 41) ∨ (72 ≤ r ∧ r ≤ 79)
def atM (r : Nat) : Prop := (80 ≤ r ∧ r ≤ 86) ∨ (95 ≤ r ∧ r ≤ 100)
theorem shC.same {I I' : Nat → Nat → Int32} {k : Nat} {o : Option (Nat × Nat × (Nat → Int32))} (h1 : I' (72 + 2 * k) = I (72 + 2 * k)) (h2 : I' (72 + 2 * k + 1) = I (72 + 2 * k + 1)) (h : shC I k o) : shC I' k o := by
  match o, h with
  | none, h => exact ⟨by rw [h1]; exact h.1, by rw [h1]; exact h.2⟩
  | some (a, n, f), h => exact ⟨by rw [h1]; exact h.1, by rw [h1]; exact h.2.1, fun i hi => by rw [h2]; exact h.2.2 i hi⟩
theorem shM.same {I I' : Nat → Nat → Int32} {k : Nat} {o : Option (Nat × Nat × (Nat → Int32))} (h1 : I' 98 = I 98) (h2 : I' 99 = I 99) (h3 : I' 100 = I 100) (h : shM I k o) : shM I' k o := by
  match o, h with
  | none, h => exact (by rw [h1]; exact h : I' 98 k = -1)
  | some (a, n, f), h => exact ⟨by rw [h1]; exact h.1, by rw [h2]; exact h.2.1, fun i hi => by rw [h3]; exact h.2.2 i hi⟩
theorem isRd.same {I I' : Nat → Nat → Int32} {q : Nat} {ρ : zR} (h : isRd I q ρ) (hs : ∀ r, q ≤ r → r ≤ q + 6 → I' r = I r) : isRd I' q ρ := by
  obtain ⟨h0, h3, h6, h9, h1, h2, h4, h5, h7, h8⟩ := h
  have e0 := hs q (by omega) (by omega)
  exact ⟨by rw [e0]; exact h0, by rw [e0]; exact h3, by rw [e0]; exact h6, by rw [e0]; exact h9, fun k hk => by rw [hs (q + 1) (by omega) (by omega)]; exact h1 k hk, fun k hk => by rw [hs (q + 2) (by omega) (by omega)]; exact h2 k hk, fun k hk => by rw [hs (q + 3) (by omega) (by omega)]; exact h4 k hk, fun k hk => by rw [hs (q + 4) (by omega) (by omega)]; exact h5 k hk, fun k hk => by rw [hs (q + 5) (by omega) (by omega)]; exact h7 k hk, fun k hk => by rw [hs (q + 6) (by omega) (by omega)]; exact h8 k hk⟩
theorem isMd.same {I I' : Nat → Nat → Int32} {ρ : zR} (h : isMd I ρ) (h80 : ∀ j, (j = 1 ∨ j = 4 ∨ j = 7 ∨ j = 10) → I' 80 j = I 80 j) (hs : ∀ r, 81 ≤ r → r ≤ 86 → I' r = I r) : isMd I' ρ := by
  obtain ⟨h0, h3, h6, h9, h1, h2, h4, h5, h7, h8⟩ := h
  exact ⟨by rw [h80 1 (by omega)]; exact h0, by rw [h80 4 (by omega)]; exact h3, by rw [h80 7 (by omega)]; exact h6, by rw [h80 10 (by omega)]; exact h9, fun k hk => by rw [hs 81 (by omega) (by omega)]; exact h1 k hk, fun k hk => by rw [hs 82 (by omega) (by omega)]; exact h2 k hk, fun k hk => by rw [hs 83 (by omega) (by omega)]; exact h4 k hk, fun k hk => by rw [hs 84 (by omega) (by omega)]; exact h5 k hk, fun k hk => by rw [hs 85 (by omega) (by omega)]; exact h7 k hk, fun k hk => by rw [hs 86 (by omega) (by omega)]; exact h8 k hk⟩
theorem isDC.same {I I' : Nat → Nat → Int32} {δ : zD} (h : isDC I δ) (hs : ∀ r, 38 ≤ r → r ≤ 41 → I' r = I r) : isDC I' δ := ⟨by rw [hs 38 (by omega) (by omega)]; exact h.1, fun r hr => by rw [hs 39 (by omega) (by omega), hs 40 (by omega) (by omega), hs 41 (by omega) (by omega)]; exact h.2 r hr⟩
theorem isDM.same {I I' : Nat → Nat → Int32} {δ : zD} (h : isDM I δ) (h80 : I' 80 25 = I 80 25) (hs : ∀ r, 95 ≤ r → r ≤ 97 → I' r = I r) : isDM I' δ := ⟨by rw [h80]; exact h.1, fun r hr => by rw [hs 95 (by omega) (by omega), hs 96 (by omega) (by omega), hs 97 (by omega) (by omega)]; exact h.2 r hr⟩
theorem CI.same {I I' : Nat → Nat → Int32} {σ : zS} (h : CI I σ) (hs : ∀ r, atC r → I' r = I r) : CI I' σ := by
  unfold atC at hs
  exact ⟨h.R.same (fun r h1 h2 => hs r (by omega)), by rw [hs 2 (by omega)]; exact h.rm, h.D.same (fun r h1 h2 => hs r (by omega)), fun k hk => (h.S k hk).same (hs _ (by omega)) (hs _ (by omega)), by rw [hs 0 (by omega)]; exact h.f, by rw [hs 0 (by omega)]; exact h.t⟩
theorem MI.same {I I' : Nat → Nat → Int32} {σ : zS} (h : MI I σ) (hs : ∀ r, atM r → I' r = I r) : MI I' σ := by
  unfold atM at hs
  exact ⟨h.R.same (fun j _ => by rw [hs 80 (by omega)]) (fun r h1 h2 => hs r (by omega)), by rw [hs 80 (by omega)]; exact h.ck, h.D.same (by rw [hs 80 (by omega)]) (fun r h1 h2 => hs r (by omega)), fun k hk => (h.S k hk).same (hs _ (by omega)) (hs _ (by omega)) (hs _ (by omega)), by rw [hs 80 (by omega)]; exact h.f, by rw [hs 80 (by omega)]; exact h.t⟩
theorem up_o {I : Nat → Nat → Int32} {q j r : Nat} {v : Int32} (h : r ≠ q) : sm_up I q j v r = I r := sm_up_o h
theorem up_s {I : Nat → Nat → Int32} {q j : Nat} {v : Int32} : sm_up I q j v q j = v := by unfold sm_up; rw [if_pos rfl, if_pos rfl]
theorem up_n {I : Nat → Nat → Int32} {q j i : Nat} {v : Int32} (h : i ≠ j) : sm_up I q j v q i = I q i := by unfold sm_up; rw [if_pos rfl, if_neg h]
theorem CI.upf {I : Nat → Nat → Int32} {ρ : zR} {δ : zD} {η : zH} {f t : Int32} (h : CI I (ρ, δ, η, f, t)) (v : Int32) : CI (sm_up I 0 6 v) (ρ, δ, η, v, t) :=
  ⟨h.R.same (fun r h1 h2 => up_o (by omega)), by rw [up_o (by decide)]; exact h.rm, h.D.same (fun r h1 h2 => up_o (by omega)), fun k hk => (h.S k hk).same (up_o (by omega)) (up_o (by omega)), up_s, by rw [up_n (by decide)]; exact h.t⟩
theorem CI.upt {I : Nat → Nat → Int32} {ρ : zR} {δ : zD} {η : zH} {f t : Int32} (h : CI I (ρ, δ, η, f, t)) (v : Int32) : CI (sm_up I 0 7 v) (ρ, δ, η, f, v) :=
  ⟨h.R.same (fun r h1 h2 => up_o (by omega)), by rw [up_o (by decide)]; exact h.rm, h.D.same (fun r h1 h2 => up_o (by omega)), fun k hk => (h.S k hk).same (up_o (by omega)) (up_o (by omega)), by rw [up_n (by decide)]; exact h.f, up_s⟩
theorem MI.upf {I : Nat → Nat → Int32} {ρ : zR} {δ : zD} {η : zH} {f t : Int32} (h : MI I (ρ, δ, η, f, t)) (v : Int32) : MI (sm_up I 80 0 v) (ρ, δ, η, v, t) :=
  ⟨h.R.same (fun j hj => up_n (by omega)) (fun r h1 h2 => up_o (by omega)), by rw [up_n (by decide)]; exact h.ck, h.D.same (up_n (by decide)) (fun r h1 h2 => up_o (by omega)), fun k hk => (h.S k hk).same (up_o (by omega)) (up_o (by omega)) (up_o (by omega)), up_s, by rw [up_n (by decide)]; exact h.t⟩
theorem MI.upt {I : Nat → Nat → Int32} {ρ : zR} {δ : zD} {η : zH} {f t : Int32} (h : MI I (ρ, δ, η, f, t)) (v : Int32) : MI (sm_up I 80 33 v) (ρ, δ, η, f, v) :=
  ⟨h.R.same (fun j hj => up_n (by omega)) (fun r h1 h2 => up_o (by omega)), by rw [up_n (by decide)]; exact h.ck, h.D.same (up_n (by decide)) (fun r h1 h2 => up_o (by omega)), fun k hk => (h.S k hk).same (up_o (by omega)) (up_o (by omega)) (up_o (by omega)), by rw [up_n (by decide)]; exact h.f, up_s⟩
/-- k is one of the first n numbers -/
def ok (k : Int32) (n : Nat) : Bool := decide (0 ≤ k.toInt ∧ k.toInt < (n : Int))
theorem ok_in {j n : Nat} (hj : j < n) (hn : n < 2 ^ 31) : ok (nI j) n = true := by
  unfold ok
  rw [nI_toInt (by omega)]
  exact decide_eq_true (by omega)
theorem ok_no {k : Int32} {n : Nat} (hn : n < 2 ^ 31) (h : ∀ j, j < n → k ≠ nI j) : ok k n = false := by
  unfold ok
  refine decide_eq_false (fun q => ?_)
  have h1 : vp_in k n := vp_in_iff.mpr q
  obtain ⟨j, hj, e⟩ := vp_in_of h1 hn
  exact h j hj e
theorem ok_cases (k : Int32) {n : Nat} (hn : n < 2 ^ 31) : (ok k n = true ∧ ∃ j, j < n ∧ k = nI j) ∨ (ok k n = false ∧ ∀ j, j < n → k ≠ nI j) := by
  by_cases h : ∃ j, j < n ∧ k = nI j
  · obtain ⟨j, hj, rfl⟩ := h
    exact Or.inl ⟨ok_in hj hn, j, hj, rfl⟩
  · have h2 : ∀ j, j < n → k ≠ nI j := fun j hj e => h ⟨j, hj, e⟩
    exact Or.inr ⟨ok_no hn h2, h2⟩
/-- a place's natural number -/
def ix (k : Int32) : Nat := k.toNatClampNeg
theorem ix_nI {j : Nat} (h : j < 2 ^ 31) : ix (nI j) = j := nI_clamp h
def fup (f : Nat → Nat) (j v : Nat) : Nat → Nat := fun i => if i = j then v else f i
theorem fup_s {f : Nat → Nat} {j v : Nat} : fup f j v j = v := if_pos rfl
theorem fup_n {f : Nat → Nat} {j v i : Nat} (h : i ≠ j) : fup f j v i = f i := if_neg h
