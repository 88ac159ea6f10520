/-! What the simple calls answer, and what they leave. -/
theorem sw_i (w : Int32) (v : Nat) (hv : v < 2 ^ 31) : w.toInt = (v : Int) → w = nI v := fun h => (fa_eq w (nI v)).mpr (by rw [h, nI_toInt hv])
theorem sw3 (w : Int32) : w = 0 ∨ w = 1 ∨ w = 2 ∨ (w ≠ 0 ∧ w ≠ 1 ∧ w ≠ 2 ∧ (w.toInt < 0 ∨ 2 < w.toInt)) := by
  by_cases h0 : w = 0
  · exact Or.inl h0
  by_cases h1 : w = 1
  · exact Or.inr (Or.inl h1)
  by_cases h2 : w = 2
  · exact Or.inr (Or.inr (Or.inl h2))
  refine Or.inr (Or.inr (Or.inr ⟨h0, h1, h2, ?_⟩))
  have a0 : w.toInt ≠ 0 := fun e => h0 (sw_i w 0 (by decide) e)
  have a1 : w.toInt ≠ 1 := fun e => h1 (sw_i w 1 (by decide) e)
  have a2 : w.toInt ≠ 2 := fun e => h2 (sw_i w 2 (by decide) e)
  omega
theorem sw5 (w : Int32) : w = 0 ∨ w = 1 ∨ w = 2 ∨ w = 3 ∨ w = 4 ∨ (w ≠ 0 ∧ w ≠ 1 ∧ w ≠ 2 ∧ w ≠ 3 ∧ w ≠ 4 ∧ (w.toInt < 0 ∨ 4 < w.toInt)) := by
  by_cases h0 : w = 0
  · exact Or.inl h0
  by_cases h1 : w = 1
  · exact Or.inr (Or.inl h1)
  by_cases h2 : w = 2
  · exact Or.inr (Or.inr (Or.inl h2))
  by_cases h3 : w = 3
  · exact Or.inr (Or.inr (Or.inr (Or.inl h3)))
  by_cases h4 : w = 4
  · exact Or.inr (Or.inr (Or.inr (Or.inr (Or.inl h4))))
  refine Or.inr (Or.inr (Or.inr (Or.inr (Or.inr ⟨h0, h1, h2, h3, h4, ?_⟩))))
  have a0 : w.toInt ≠ 0 := fun e => h0 (sw_i w 0 (by decide) e)
  have a1 : w.toInt ≠ 1 := fun e => h1 (sw_i w 1 (by decide) e)
  have a2 : w.toInt ≠ 2 := fun e => h2 (sw_i w 2 (by decide) e)
  have a3 : w.toInt ≠ 3 := fun e => h3 (sw_i w 3 (by decide) e)
  have a4 : w.toInt ≠ 4 := fun e => h4 (sw_i w 4 (by decide) e)
  omega
theorem sw2 (w : Int32) : w = 0 ∨ w = 1 ∨ (w ≠ 0 ∧ w ≠ 1 ∧ w.toInt ≠ 0 ∧ w.toInt ≠ 1) := by
  by_cases h0 : w = 0
  · exact Or.inl h0
  by_cases h1 : w = 1
  · exact Or.inr (Or.inl h1)
  exact Or.inr (Or.inr ⟨h0, h1, fun e => h0 (sw_i w 0 (by decide) e), fun e => h1 (sw_i w 1 (by decide) e)⟩)
theorem lk_d {a b x y d k : Int} (h1 : k ≠ a) (h2 : k ≠ b) : Op.lookupswitch.offset #[(a, x), (b, y)].toList d k = d := by
  show (if a = k then x else (if b = k then y else d)) = d
  rw [if_neg (Ne.symm h1), if_neg (Ne.symm h2)]
theorem isRd.k {I : Nat → Nat → Int32} {q : Nat} {ρ : zR} (h : isRd I q ρ) : ∀ k, k < zi ρ → I (q + 1) k = nI (zk ρ k) := h.2.2.2.2.1
theorem isRd.s {I : Nat → Nat → Int32} {q : Nat} {ρ : zR} (h : isRd I q ρ) : ∀ k, k < zi ρ → I (q + 2) k = nI (zs ρ k) := h.2.2.2.2.2.1
theorem isRd.w {I : Nat → Nat → Int32} {q : Nat} {ρ : zR} (h : isRd I q ρ) : ∀ k, k < zn ρ → I (q + 3) k = nI (zw ρ k) := h.2.2.2.2.2.2.1
theorem isRd.f {I : Nat → Nat → Int32} {q : Nat} {ρ : zR} (h : isRd I q ρ) : ∀ k, k < zn ρ → I (q + 4) k = nI (zf ρ k) := h.2.2.2.2.2.2.2.1
theorem isRd.y {I : Nat → Nat → Int32} {q : Nat} {ρ : zR} (h : isRd I q ρ) : ∀ k, k < zg ρ → I (q + 5) k = nI (zy ρ k) := h.2.2.2.2.2.2.2.2.1
theorem isRd.h {I : Nat → Nat → Int32} {q : Nat} {ρ : zR} (h : isRd I q ρ) : ∀ k, k < zg ρ → I (q + 6) k = nI (zh ρ k) := h.2.2.2.2.2.2.2.2.2
theorem isMd.k {I : Nat → Nat → Int32} {ρ : zR} (h : isMd I ρ) : ∀ k, k < zi ρ → I 81 k = nI (zk ρ k) := h.2.2.2.2.1
theorem isMd.s {I : Nat → Nat → Int32} {ρ : zR} (h : isMd I ρ) : ∀ k, k < zi ρ → I 82 k = nI (zs ρ k) := h.2.2.2.2.2.1
theorem isMd.w {I : Nat → Nat → Int32} {ρ : zR} (h : isMd I ρ) : ∀ k, k < zn ρ → I 83 k = nI (zw ρ k) := h.2.2.2.2.2.2.1
theorem isMd.f {I : Nat → Nat → Int32} {ρ : zR} (h : isMd I ρ) : ∀ k, k < zn ρ → I 84 k = nI (zf ρ k) := h.2.2.2.2.2.2.2.1
theorem isMd.y {I : Nat → Nat → Int32} {ρ : zR} (h : isMd I ρ) : ∀ k, k < zg ρ → I 85 k = nI (zy ρ k) := h.2.2.2.2.2.2.2.2.1
theorem isMd.h {I : Nat → Nat → Int32} {ρ : zR} (h : isMd I ρ) : ∀ k, k < zg ρ → I 86 k = nI (zh ρ k) := h.2.2.2.2.2.2.2.2.2
theorem wfR.kd {ρ : zR} (h : wfR ρ) {k : Nat} (hk : k < zi ρ) : zk ρ k = 0 ∨ zk ρ k = 1 ∨ zk ρ k = 2 := by have := h.2.2.2.2.2.2.1 k hk; omega
theorem wfR.s9 {ρ : zR} (h : wfR ρ) {k : Nat} (hk : k < zi ρ) : zs ρ k ≤ 9 := h.2.2.2.2.2.2.2.1 k hk
theorem wfR.w1 {ρ : zR} (h : wfR ρ) {k : Nat} (hk : k < zn ρ) : zw ρ k ≤ 1 := h.2.2.2.2.2.2.2.2.1 k hk
theorem wfR.f5 {ρ : zR} (h : wfR ρ) {k : Nat} (hk : k < zn ρ) : zf ρ k ≤ 5 := h.2.2.2.2.2.2.2.2.2.1 k hk
theorem wfR.y3 {ρ : zR} (h : wfR ρ) {k : Nat} (hk : k < zg ρ) : zy ρ k ≤ 3 := h.2.2.2.2.2.2.2.2.2.2.1 k hk
theorem wfR.hi {ρ : zR} (h : wfR ρ) {k : Nat} (hk : k < zg ρ) : zh ρ k < zi ρ := h.2.2.2.2.2.2.2.2.2.2.2 k hk
def sp_ofInn (ρ : zR) (k w : Int32) : Int32 := if ok k (zi ρ) = true then (if w = 0 then nI (zk ρ (ix k)) else if w = 1 then nI (zs ρ (ix k)) else if w = 2 then nI (keeps (zk ρ (ix k)) (zs ρ (ix k))) else -2) else -1
def sp_ofGuest (ρ : zR) (k w : Int32) : Int32 := if ok k (zg ρ) = true then (if w = 0 then nI (zy ρ (ix k)) else if w = 1 then nI (zh ρ (ix k)) else -2) else -1
def sp_ofNight (ρ : zR) (k w : Int32) : Int32 := if zi ρ = 0 then -3 else if ok k (zn ρ) = true then (if w = 0 then nI (zw ρ (ix k)) else if w = 1 then nI (zf ρ (ix k)) else -2) else -2
def sp_many (σ : zS) (w : Int32) : Int32 := if w = 0 then nI (zi σ.1) else if w = 1 then nI (zn σ.1) else if w = 2 then nI (zg σ.1) else if w = 3 then nI (zl σ.1) else if w = 4 then nI σ.2.1.1 else -2
abbrev wl (ρ : zR) (v : Nat) : zR := ((zi ρ, zn ρ, zg ρ, v), ρ.2)
abbrev wk (ρ : zR) (f : Nat → Nat) : zR := (ρ.1, (f, zs ρ, zw ρ, zf ρ, zy ρ, zh ρ))
abbrev wsn (ρ : zR) (f : Nat → Nat) : zR := (ρ.1, (zk ρ, f, zw ρ, zf ρ, zy ρ, zh ρ))
abbrev ww (ρ : zR) (f : Nat → Nat) : zR := (ρ.1, (zk ρ, zs ρ, f, zf ρ, zy ρ, zh ρ))
abbrev wf (ρ : zR) (f : Nat → Nat) : zR := (ρ.1, (zk ρ, zs ρ, zw ρ, f, zy ρ, zh ρ))
abbrev wh (ρ : zR) (f : Nat → Nat) : zR := (ρ.1, (zk ρ, zs ρ, zw ρ, zf ρ, zy ρ, f))
def sp_rule (ρ : zR) (v : Int32) : zR × Int32 := if ok v 2 = true then (if zi ρ = 0 then (ρ, -3) else (wl ρ (ix v), nI (zl ρ))) else (ρ, -2)
def sp_fall (ρ : zR) (k v : Int32) : zR × Int32 := if zi ρ = 0 then (ρ, -3) else if ok k (zn ρ) = true ∧ ok v 6 = true then (wf ρ (fup (zf ρ) (ix k) (ix v)), nI (zf ρ (ix k))) else (ρ, -2)
/-- b: 0 or 1 -/
def sp_gust (ρ : zR) (k : Int32) (b : Nat) : zR × Int32 := if zi ρ = 0 then (ρ, -3) else if ok k (zn ρ) = true then (ww ρ (fup (zw ρ) (ix k) b), if zw ρ (ix k) = b then 0 else 1) else (ρ, -2)
def sp_lodge (ρ : zR) (g k : Int32) : zR × Int32 := if ok g (zg ρ) = true ∧ ok k (zi ρ) = true then (wh ρ (fup (zh ρ) (ix g) (ix k)), nI (zh ρ (ix g))) else (ρ, -1)
/-- v inches from i to j: the inches behind it, how many came -/
def swp (s : Nat → Nat) (i j v : Nat) : Nat → Nat := fup (fup s i (s i - min v (s i))) j (s j + min (min v (s i)) (9 - s j))
def swc (s : Nat → Nat) (i j v : Nat) : Nat := min (min v (s i)) (9 - s j)
def sp_sweep (ρ : zR) (k : Int32) (b : Nat) (v : Int32) : zR × Int32 := if ok k (zi ρ) = true then (if (b = 1 ∧ ix k + 1 < zi ρ) ∨ (b = 0 ∧ 0 < ix k) then (if ok v 10 = true then (wsn ρ (swp (zs ρ) (ix k) (if b = 1 then ix k + 1 else ix k - 1) (ix v)), nI (swc (zs ρ) (ix k) (if b = 1 then ix k + 1 else ix k - 1) (ix v))) else (ρ, -2)) else (ρ, -1)) else (ρ, -1)
theorem isRd.u_l {I : Nat → Nat → Int32} {q : Nat} {ρ : zR} (h : isRd I q ρ) (v : Nat) : isRd (sm_up I q 9 (nI v)) q (wl ρ v) := by
  obtain ⟨h0, h3, h6, h9, h1, h2, h4, h5, h7, h8⟩ := h
  exact ⟨(up_n (by decide)).trans h0, (up_n (by decide)).trans h3, (up_n (by decide)).trans h6, up_s, fun k hk => by rw [up_o (by omega)]; exact h1 k hk, fun k hk => by rw [up_o (by omega)]; exact h2 k hk, fun k hk => by rw [up_o (by omega)]; exact h4 k hk, fun k hk => by rw [up_o (by omega)]; exact h5 k hk, fun k hk => by rw [up_o (by omega)]; exact h7 k hk, fun k hk => by rw [up_o (by omega)]; exact h8 k hk⟩
theorem fup_nI {f : Nat → Int32} {g : Nat → Nat} {N q j v : Nat} {I : Nat → Nat → Int32} (h : ∀ k, k < N → I q k = nI (g k)) : ∀ k, k < N → sm_up I q j (nI v) q k = nI (fup g j v k) := by
  intro k hk
  by_cases e : k = j
  · subst e; rw [up_s, fup_s]
  · rw [up_n e, fup_n e]; exact h k hk
theorem isRd.u_k {I : Nat → Nat → Int32} {q : Nat} {ρ : zR} (h : isRd I q ρ) (j v : Nat) : isRd (sm_up I (q + 1) j (nI v)) q (wk ρ (fup (zk ρ) j v)) := by
  obtain ⟨h0, h3, h6, h9, h1, h2, h4, h5, h7, h8⟩ := h
  have e : sm_up I (q + 1) j (nI v) q = I q := up_o (by omega)
  exact ⟨by rw [e]; exact h0, by rw [e]; exact h3, by rw [e]; exact h6, by rw [e]; exact h9, fup_nI (f := fun _ => 0) h1, fun k hk => by rw [up_o (by omega)]; exact h2 k hk, fun k hk => by rw [up_o (by omega)]; exact h4 k hk, fun k hk => by rw [up_o (by omega)]; exact h5 k hk, fun k hk => by rw [up_o (by omega)]; exact h7 k hk, fun k hk => by rw [up_o (by omega)]; exact h8 k hk⟩
theorem isMd.u_k {I : Nat → Nat → Int32} {ρ : zR} (h : isMd I ρ) (j v : Nat) : isMd (sm_up I 81 j (nI v)) (wk ρ (fup (zk ρ) j v)) := by
  obtain ⟨h0, h3, h6, h9, h1, h2, h4, h5, h7, h8⟩ := h
  have e : sm_up I 81 j (nI v) 80 = I 80 := up_o (by decide)
  exact ⟨by rw [e]; exact h0, by rw [e]; exact h3, by rw [e]; exact h6, by rw [e]; exact h9, fup_nI (f := fun _ => 0) h1, fun k hk => by rw [up_o (by decide)]; exact h2 k hk, fun k hk => by rw [up_o (by decide)]; exact h4 k hk, fun k hk => by rw [up_o (by decide)]; exact h5 k hk, fun k hk => by rw [up_o (by decide)]; exact h7 k hk, fun k hk => by rw [up_o (by decide)]; exact h8 k hk⟩
theorem isRd.u_s {I : Nat → Nat → Int32} {q : Nat} {ρ : zR} (h : isRd I q ρ) (j v : Nat) : isRd (sm_up I (q + 2) j (nI v)) q (wsn ρ (fup (zs ρ) j v)) := by
  obtain ⟨h0, h3, h6, h9, h1, h2, h4, h5, h7, h8⟩ := h
  have e : sm_up I (q + 2) j (nI v) q = I q := up_o (by omega)
  exact ⟨by rw [e]; exact h0, by rw [e]; exact h3, by rw [e]; exact h6, by rw [e]; exact h9, fun k hk => by rw [up_o (by omega)]; exact h1 k hk, fup_nI (f := fun _ => 0) h2, fun k hk => by rw [up_o (by omega)]; exact h4 k hk, fun k hk => by rw [up_o (by omega)]; exact h5 k hk, fun k hk => by rw [up_o (by omega)]; exact h7 k hk, fun k hk => by rw [up_o (by omega)]; exact h8 k hk⟩
theorem isMd.u_s {I : Nat → Nat → Int32} {ρ : zR} (h : isMd I ρ) (j v : Nat) : isMd (sm_up I 82 j (nI v)) (wsn ρ (fup (zs ρ) j v)) := by
  obtain ⟨h0, h3, h6, h9, h1, h2, h4, h5, h7, h8⟩ := h
  have e : sm_up I 82 j (nI v) 80 = I 80 := up_o (by decide)
  exact ⟨by rw [e]; exact h0, by rw [e]; exact h3, by rw [e]; exact h6, by rw [e]; exact h9, fun k hk => by rw [up_o (by decide)]; exact h1 k hk, fup_nI (f := fun _ => 0) h2, fun k hk => by rw [up_o (by decide)]; exact h4 k hk, fun k hk => by rw [up_o (by decide)]; exact h5 k hk, fun k hk => by rw [up_o (by decide)]; exact h7 k hk, fun k hk => by rw [up_o (by decide)]; exact h8 k hk⟩
theorem isRd.u_w {I : Nat → Nat → Int32} {q : Nat} {ρ : zR} (h : isRd I q ρ) (j v : Nat) : isRd (sm_up I (q + 3) j (nI v)) q (ww ρ (fup (zw ρ) j v)) := by
  obtain ⟨h0, h3, h6, h9, h1, h2, h4, h5, h7, h8⟩ := h
  have e : sm_up I (q + 3) j (nI v) q = I q := up_o (by omega)
  exact ⟨by rw [e]; exact h0, by rw [e]; exact h3, by rw [e]; exact h6, by rw [e]; exact h9, fun k hk => by rw [up_o (by omega)]; exact h1 k hk, fun k hk => by rw [up_o (by omega)]; exact h2 k hk, fup_nI (f := fun _ => 0) h4, fun k hk => by rw [up_o (by omega)]; exact h5 k hk, fun k hk => by rw [up_o (by omega)]; exact h7 k hk, fun k hk => by rw [up_o (by omega)]; exact h8 k hk⟩
theorem isMd.u_w {I : Nat → Nat → Int32} {ρ : zR} (h : isMd I ρ) (j v : Nat) : isMd (sm_up I 83 j (nI v)) (ww ρ (fup (zw ρ) j v)) := by
  obtain ⟨h0, h3, h6, h9, h1, h2, h4, h5, h7, h8⟩ := h
  have e : sm_up I 83 j (nI v) 80 = I 80 := up_o (by decide)
  exact ⟨by rw [e]; exact h0, by rw [e]; exact h3, by rw [e]; exact h6, by rw [e]; exact h9, fun k hk => by rw [up_o (by decide)]; exact h1 k hk, fun k hk => by rw [up_o (by decide)]; exact h2 k hk, fup_nI (f := fun _ => 0) h4, fun k hk => by rw [up_o (by decide)]; exact h5 k hk, fun k hk => by rw [up_o (by decide)]; exact h7 k hk, fun k hk => by rw [up_o (by decide)]; exact h8 k hk⟩
theorem isRd.u_f {I : Nat → Nat → Int32} {q : Nat} {ρ : zR} (h : isRd I q ρ) (j v : Nat) : isRd (sm_up I (q + 4) j (nI v)) q (wf ρ (fup (zf ρ) j v)) := by
  obtain ⟨h0, h3, h6, h9, h1, h2, h4, h5, h7, h8⟩ := h
  have e : sm_up I (q + 4) j (nI v) q = I q := up_o (by omega)
  exact ⟨by rw [e]; exact h0, by rw [e]; exact h3, by rw [e]; exact h6, by rw [e]; exact h9, fun k hk => by rw [up_o (by omega)]; exact h1 k hk, fun k hk => by rw [up_o (by omega)]; exact h2 k hk, fun k hk => by rw [up_o (by omega)]; exact h4 k hk, fup_nI (f := fun _ => 0) h5, fun k hk => by rw [up_o (by omega)]; exact h7 k hk, fun k hk => by rw [up_o (by omega)]; exact h8 k hk⟩
theorem isMd.u_f {I : Nat → Nat → Int32} {ρ : zR} (h : isMd I ρ) (j v : Nat) : isMd (sm_up I 84 j (nI v)) (wf ρ (fup (zf ρ) j v)) := by
  obtain ⟨h0, h3, h6, h9, h1, h2, h4, h5, h7, h8⟩ := h
  have e : sm_up I 84 j (nI v) 80 = I 80 := up_o (by decide)
  exact ⟨by rw [e]; exact h0, by rw [e]; exact h3, by rw [e]; exact h6, by rw [e]; exact h9, fun k hk => by rw [up_o (by decide)]; exact h1 k hk, fun k hk => by rw [up_o (by decide)]; exact h2 k hk, fun k hk => by rw [up_o (by decide)]; exact h4 k hk, fup_nI (f := fun _ => 0) h5, fun k hk => by rw [up_o (by decide)]; exact h7 k hk, fun k hk => by rw [up_o (by decide)]; exact h8 k hk⟩
theorem isRd.u_h {I : Nat → Nat → Int32} {q : Nat} {ρ : zR} (h : isRd I q ρ) (j v : Nat) : isRd (sm_up I (q + 6) j (nI v)) q (wh ρ (fup (zh ρ) j v)) := by
  obtain ⟨h0, h3, h6, h9, h1, h2, h4, h5, h7, h8⟩ := h
  have e : sm_up I (q + 6) j (nI v) q = I q := up_o (by omega)
  exact ⟨by rw [e]; exact h0, by rw [e]; exact h3, by rw [e]; exact h6, by rw [e]; exact h9, fun k hk => by rw [up_o (by omega)]; exact h1 k hk, fun k hk => by rw [up_o (by omega)]; exact h2 k hk, fun k hk => by rw [up_o (by omega)]; exact h4 k hk, fun k hk => by rw [up_o (by omega)]; exact h5 k hk, fun k hk => by rw [up_o (by omega)]; exact h7 k hk, fup_nI (f := fun _ => 0) h8⟩
theorem isMd.u_h {I : Nat → Nat → Int32} {ρ : zR} (h : isMd I ρ) (j v : Nat) : isMd (sm_up I 86 j (nI v)) (wh ρ (fup (zh ρ) j v)) := by
  obtain ⟨h0, h3, h6, h9, h1, h2, h4, h5, h7, h8⟩ := h
  have e : sm_up I 86 j (nI v) 80 = I 80 := up_o (by decide)
  exact ⟨by rw [e]; exact h0, by rw [e]; exact h3, by rw [e]; exact h6, by rw [e]; exact h9, fun k hk => by rw [up_o (by decide)]; exact h1 k hk, fun k hk => by rw [up_o (by decide)]; exact h2 k hk, fun k hk => by rw [up_o (by decide)]; exact h4 k hk, fun k hk => by rw [up_o (by decide)]; exact h5 k hk, fun k hk => by rw [up_o (by decide)]; exact h7 k hk, fup_nI (f := fun _ => 0) h8⟩
theorem isMd.u_l {I : Nat → Nat → Int32} {ρ : zR} (h : isMd I ρ) (v : Nat) : isMd (sm_up I 80 10 (nI v)) (wl ρ v) := by
  obtain ⟨h0, h3, h6, h9, h1, h2, h4, h5, h7, h8⟩ := h
  exact ⟨(up_n (by decide)).trans h0, (up_n (by decide)).trans h3, (up_n (by decide)).trans h6, up_s, fun k hk => by rw [up_o (by decide)]; exact h1 k hk, fun k hk => by rw [up_o (by decide)]; exact h2 k hk, fun k hk => by rw [up_o (by decide)]; exact h4 k hk, fun k hk => by rw [up_o (by decide)]; exact h5 k hk, fun k hk => by rw [up_o (by decide)]; exact h7 k hk, fun k hk => by rw [up_o (by decide)]; exact h8 k hk⟩
/-- the class's state with another ridge in the same places -/
theorem CI.putR {I I' : Nat → Nat → Int32} {ρ ρ' : zR} {δ : zD} {η : zH} {f t : Int32} (h : CI I (ρ, δ, η, f, t)) (hR : isRd I' 2 ρ') (h10 : I' 2 10 = I 2 10) (hs : ∀ r, r < 2 ∨ 8 < r → I' r = I r) : CI I' (ρ', δ, η, f, t) :=
  ⟨hR, h10.trans h.rm, h.D.same (fun r h1 h2 => hs r (by omega)), fun k hk => (h.S k hk).same (hs _ (by omega)) (hs _ (by omega)), by rw [hs 0 (by omega)]; exact h.f, by rw [hs 0 (by omega)]; exact h.t⟩
theorem MI.putR {I I' : Nat → Nat → Int32} {ρ ρ' : zR} {δ : zD} {η : zH} {f t : Int32} (h : MI I (ρ, δ, η, f, t)) (hR : isMd I' ρ') (h80 : ∀ j, (j = 0 ∨ j = 11 ∨ j = 25 ∨ j = 33) → I' 80 j = I 80 j) (hs : ∀ r, 95 ≤ r → r ≤ 100 → I' r = I r) : MI I' (ρ', δ, η, f, t) :=
  ⟨hR, (h80 11 (by omega)).trans h.ck, h.D.same (h80 25 (by omega)) (fun r h1 h2 => hs r (by omega) (by omega)), fun k hk => (h.S k hk).same (hs _ (by omega) (by omega)) (hs _ (by omega) (by omega)) (hs _ (by omega) (by omega)), (h80 0 (by omega)).trans h.f, (h80 33 (by omega)).trans h.t⟩
