theorem ok_lt {k : Int32} {n : Nat} (h : ok k n = true) (hn : n < 2 ^ 31) : ix k < n := by
  rcases ok_cases k hn with ⟨_, j, hj, rfl⟩ | ⟨h2, _⟩
  · rw [ix_nI (by omega)]; exact hj
  · rw [h] at h2; cases h2
theorem WF_0 : WF (zr0, (0, fun _ => (0, 0, 0)), (fun _ => none), 0, 0) :=
  ⟨⟨by decide, by decide, by decide, by decide, fun _ => ⟨rfl, rfl⟩, fun h => absurd h (Nat.not_lt_zero _), fun k hk => absurd hk (Nat.not_lt_zero _), fun k hk => absurd hk (Nat.not_lt_zero _), fun k hk => absurd hk (Nat.not_lt_zero _), fun k hk => absurd hk (Nat.not_lt_zero _), fun k hk => absurd hk (Nat.not_lt_zero _), fun k hk => absurd hk (Nat.not_lt_zero _)⟩, ⟨Nat.zero_le _, fun r hr => absurd hr (Nat.not_lt_zero _)⟩, fun k _ a n f h => by cases h⟩
theorem WF.t {ρ : zR} {δ : zD} {η : zH} {ft tr ft' tr' : Int32} (h : WF (ρ, δ, η, ft, tr)) : WF (ρ, δ, η, ft', tr') := h
theorem wf_rule {ρ : zR} {δ : zD} {η : zH} {ft tr v : Int32} (h : WF (ρ, δ, η, ft, tr)) : WF ((sp_rule ρ v).1, δ, η, ft, tr) := by
  unfold sp_rule
  split
  · rename_i h1
    split
    · exact h
    · exact ⟨h.1.ul (by have := ok_lt h1 (by decide); omega), h.2⟩
  · exact h
theorem wf_fall {ρ : zR} {δ : zD} {η : zH} {ft tr k v : Int32} (h : WF (ρ, δ, η, ft, tr)) : WF ((sp_fall ρ k v).1, δ, η, ft, tr) := by
  unfold sp_fall
  split
  · exact h
  · split
    · rename_i h1
      exact ⟨h.1.uf (fup_le (fun j hj => h.1.f5 hj) (by have := ok_lt h1.2 (by decide); omega)), h.2⟩
    · exact h
theorem wf_gust {ρ : zR} {δ : zD} {η : zH} {ft tr k : Int32} {b : Nat} (hb : b ≤ 1) (h : WF (ρ, δ, η, ft, tr)) : WF ((sp_gust ρ k b).1, δ, η, ft, tr) := by
  unfold sp_gust
  split
  · exact h
  · split
    · exact ⟨h.1.uw (fup_le (fun j hj => h.1.w1 hj) hb), h.2⟩
    · exact h
theorem wf_lodge {ρ : zR} {δ : zD} {η : zH} {ft tr g k : Int32} (h : WF (ρ, δ, η, ft, tr)) : WF ((sp_lodge ρ g k).1, δ, η, ft, tr) := by
  unfold sp_lodge
  split
  · rename_i h1
    refine ⟨h.1.uh (fun j hj => ?_), h.2⟩
    by_cases e : j = ix g
    · subst e; rw [fup_s]; exact ok_lt h1.2 h.1.bi
    · rw [fup_n e]; exact h.1.hi hj
  · exact h
theorem wf_sweep {ρ : zR} {δ : zD} {η : zH} {ft tr k v : Int32} {b : Nat} (h : WF (ρ, δ, η, ft, tr)) : WF ((sp_sweep ρ k b v).1, δ, η, ft, tr) := by
  unfold sp_sweep
  split
  · rename_i h1
    have hk := ok_lt h1 h.1.bi
    split
    · rename_i h2
      split
      · have hw : wfR ρ := h.1
        have hto : (if b = 1 then ix k + 1 else ix k - 1) < zi ρ := by split <;> omega
        exact ⟨hw.us (swp_9 (fun j hj => hw.s9 hj) hk hto), h.2⟩
      · exact h
    · exact h
  · exact h
theorem wf_back {ρ : zR} {δ : zD} {η : zH} {ft tr k : Int32} (h : WF (ρ, δ, η, ft, tr)) : WF (ρ, (sp_back δ k).1, η, ft, tr) := by
  unfold sp_back
  split
  · exact ⟨h.1, ⟨Nat.le_trans (Nat.sub_le _ _) h.2.1.1, fun r hr => h.2.1.2 r (Nat.lt_of_lt_of_le hr (Nat.sub_le _ _))⟩, h.2.2⟩
  · exact h
theorem wf_reading {ρ : zR} {δ : zD} {η : zH} {ft tr g k n : Int32} (h : WF (ρ, δ, η, ft, tr)) : WF (ρ, (sp_reading ρ δ g k n).1, η, ft, tr) := by
  unfold sp_reading
  split
  · rename_i h1
    split
    · rename_i h2
      split
      · rename_i h3
        refine ⟨h.1, ⟨h3, fun r hr => ?_⟩, h.2.2⟩
        have hr : r < δ.1 + 1 := hr
        show ((if r = δ.1 then (ix g, ix k, ix n) else δ.2 r) : Nat × Nat × Nat).1 < zg ρ ∧ ((if r = δ.1 then (ix g, ix k, ix n) else δ.2 r) : Nat × Nat × Nat).2.1 ≤ zi ρ ∧ ((if r = δ.1 then (ix g, ix k, ix n) else δ.2 r) : Nat × Nat × Nat).2.2 < zn ρ
        by_cases e : r = δ.1
        · rw [if_pos e]
          have := ok_lt h1.2 (by have := h.1.1; show zi ρ + 1 < _; have : zi ρ ≤ 6 := h.1.1; omega)
          exact ⟨ok_lt h1.1 h.1.bg, (show ix k ≤ zi ρ by omega), ok_lt h2 h.1.bn⟩
        · rw [if_neg e]; exact h.2.1.2 r (show r < δ.1 by omega)
      · exact h
    · exact h
  · exact h
theorem wfH_up {η : zH} {k : Nat} {o : Option (Nat × Nat × (Nat → Int32))} (h : wfH η) (ho : ∀ a n f, o = some (a, n, f) → a ≤ 2 ∧ n ≤ 60) : wfH (hup η k o) := fun i hi a n f e => by
  unfold hup at e
  by_cases e2 : i = k
  · rw [if_pos e2] at e; exact ho a n f e
  · rw [if_neg e2] at e; exact h i hi a n f e
theorem wf_sheet {ρ : zR} {δ : zD} {η : zH} {ft tr k ln n : Int32} (h : WF (ρ, δ, η, ft, tr)) : WF (ρ, δ, (sp_sheet η k ln n).1, ft, tr) := by
  unfold sp_sheet
  split
  · split
    · rename_i h1
      split
      · exact h
      · rename_i h2
        refine ⟨h.1, h.2.1, wfH_up h.2.2 (fun a m f e => ?_)⟩
        obtain ⟨j, hj, ej⟩ := x_in' (n := 60) h2 h1.2 (by decide)
        cases e
        have := ok_lt h1.1 (by decide)
        refine ⟨by omega, ?_⟩
        rw [ej, ix_nI (by omega)]
        omega
    · exact h
  · exact h
theorem wf_lose {ρ : zR} {δ : zD} {η : zH} {ft tr k : Int32} (h : WF (ρ, δ, η, ft, tr)) : WF (ρ, δ, (sp_lose η k).1, ft, tr) := by
  unfold sp_lose
  split
  · exact ⟨h.1, h.2.1, wfH_up h.2.2 (fun a m f e => by cases e)⟩
  · exact h
theorem wf_put {ρ : zR} {δ : zD} {η : zH} {ft tr k i v : Int32} (h : WF (ρ, δ, η, ft, tr)) : WF (ρ, δ, (sp_put η k i v).1, ft, tr) := by
  unfold sp_put
  split
  · rename_i h1
    have hk := ok_lt h1 (by decide)
    cases e0 : η (ix k) with
    | none => exact h
    | some w =>
      obtain ⟨a, n, f⟩ := w
      simp only []
      split
      · exact ⟨h.1, h.2.1, wfH_up h.2.2 (fun a' m f' e => by cases e; exact h.2.2 _ hk _ _ _ e0)⟩
      · exact h
  · exact h
theorem wf_copy {ρ : zR} {δ : zD} {η : zH} {ft tr k i q j n : Int32} (h : WF (ρ, δ, η, ft, tr)) : WF (ρ, δ, (sp_copy η k i q j n).1, ft, tr) := by
  unfold sp_copy
  split
  · rename_i h1
    have hq := ok_lt h1.2 (by decide)
    cases e0 : η (ix k) with
    | none => exact h
    | some w =>
      obtain ⟨a, nk, f⟩ := w
      cases e1 : η (ix q) with
      | none => exact h
      | some w2 =>
        obtain ⟨b, no, g⟩ := w2
        simp only []
        split
        · split
          · exact ⟨h.1, h.2.1, wfH_up h.2.2 (fun a' m f' e => by cases e; exact h.2.2 _ hq _ _ _ e1)⟩
          · exact h
        · exact h
  · exact h
