/-- who is of the family f -/
def fam (ρ : zR) (f : Int32) : Nat → Bool := fun g => decide (nI (zy ρ g) = f)
def fM (ρ : zR) (f : Int32) : Nat := mk (fam ρ f) (zg ρ)
theorem fM_lt {ρ : zR} {f : Int32} (h : wfR ρ) : fM ρ f < 256 := Nat.lt_of_lt_of_le (mk_lt _ _) (Nat.pow_le_pow_right (by decide) h.2.2.1 : 2 ^ zg ρ ≤ 2 ^ 8)
theorem mk_n1 {p : Nat → Bool} {i : Nat} (h : ¬ mk p i = 0) : ¬ mk p (i + 1) = 0 := by unfold mk; exact fun e => h (Nat.add_eq_zero_iff.mp e).1
theorem mk_n2 {p : Nat → Bool} {i : Nat} (h : p i = true) : ¬ mk p (i + 1) = 0 := by unfold mk; rw [if_pos h]; have h2 : 0 < 2 ^ i := Nat.two_pow_pos i; exact fun e => by rw [Nat.add_eq_zero_iff] at e; omega
theorem mk_z {p : Nat → Bool} {i : Nat} (h : mk p i = 0) (h2 : p i = false) : mk p (i + 1) = 0 := by unfold mk; rw [h, h2]; rfl
theorem mk_all {p : Nat → Bool} : ∀ {i : Nat}, (∀ g, g < i → p g = false) → mk p i = 0
  | 0, _ => rfl
  | i + 1, h => mk_z (mk_all (fun g hg => h g (by omega))) (h i (by omega))
theorem and_sub {A : Nat → Nat} {G k : Nat} {p : Nat → Bool} : mA A G k &&& mk p G = mk p G ↔ ∀ g, g < G → p g = true → A g = k := by
  constructor
  · intro e g hg hp
    have h := congrArg (fun t => t.testBit g) e
    simp only [Nat.testBit_and, mA_bit, mk_bit, hg, hp, decide_true, Bool.true_and, Bool.and_true] at h
    exact of_decide_eq_true h
  · intro h
    apply Nat.eq_of_testBit_eq
    intro g
    rw [Nat.testBit_and, mA_bit, mk_bit]
    by_cases hg : g < G
    · by_cases hp : p g = true
      · simp [hg, hp, h g hg hp]
      · simp [hp]
    · simp [hg]
theorem togB_t {A : Nat → Nat} {G z : Nat} {p : Nat → Bool} (h : ∃ k, k < z ∧ ∀ g, g < G → p g = true → A g = k) : togB A G z (mk p G) = true := decide_eq_true (by obtain ⟨k, hk, h2⟩ := h; exact ⟨k, hk, and_sub.mpr h2⟩)
theorem togB_f {A : Nat → Nat} {G z : Nat} {p : Nat → Bool} (h : ¬ ∃ k, k < z ∧ ∀ g, g < G → p g = true → A g = k) : togB A G z (mk p G) = false := decide_eq_false (by rintro ⟨k, hk, h2⟩; exact h ⟨k, hk, and_sub.mp h2⟩)
theorem wfR.us {ρ : zR} (h : wfR ρ) {s : Nat → Nat} (hs : ∀ k, k < zi ρ → s k ≤ 9) : wfR (wsn ρ s) := ⟨h.1, h.2.1, h.2.2.1, h.2.2.2.1, h.2.2.2.2.1, h.2.2.2.2.2.1, h.2.2.2.2.2.2.1, hs, h.2.2.2.2.2.2.2.2⟩
theorem wfR.uk {ρ : zR} (h : wfR ρ) {s : Nat → Nat} (hs : ∀ k, k < zi ρ → s k ≤ 2) : wfR (wk ρ s) := ⟨h.1, h.2.1, h.2.2.1, h.2.2.2.1, h.2.2.2.2.1, h.2.2.2.2.2.1, hs, h.2.2.2.2.2.2.2⟩
theorem wfR.uw {ρ : zR} (h : wfR ρ) {s : Nat → Nat} (hs : ∀ k, k < zn ρ → s k ≤ 1) : wfR (ww ρ s) := ⟨h.1, h.2.1, h.2.2.1, h.2.2.2.1, h.2.2.2.2.1, h.2.2.2.2.2.1, h.2.2.2.2.2.2.1, h.2.2.2.2.2.2.2.1, hs, h.2.2.2.2.2.2.2.2.2⟩
theorem wfR.uf {ρ : zR} (h : wfR ρ) {s : Nat → Nat} (hs : ∀ k, k < zn ρ → s k ≤ 5) : wfR (wf ρ s) := ⟨h.1, h.2.1, h.2.2.1, h.2.2.2.1, h.2.2.2.2.1, h.2.2.2.2.2.1, h.2.2.2.2.2.2.1, h.2.2.2.2.2.2.2.1, h.2.2.2.2.2.2.2.2.1, hs, h.2.2.2.2.2.2.2.2.2.2⟩
theorem wfR.uh {ρ : zR} (h : wfR ρ) {s : Nat → Nat} (hs : ∀ k, k < zg ρ → s k < zi ρ) : wfR (wh ρ s) := ⟨h.1, h.2.1, h.2.2.1, h.2.2.2.1, h.2.2.2.2.1, h.2.2.2.2.2.1, h.2.2.2.2.2.2.1, h.2.2.2.2.2.2.2.1, h.2.2.2.2.2.2.2.2.1, h.2.2.2.2.2.2.2.2.2.1, h.2.2.2.2.2.2.2.2.2.2.1, hs⟩
theorem wfR.ul {ρ : zR} (h : wfR ρ) {v : Nat} (hs : v ≤ 1) : wfR (wl ρ v) := ⟨h.1, h.2.1, h.2.2.1, hs, h.2.2.2.2⟩
theorem fup_le {f : Nat → Nat} {j v N b : Nat} (h : ∀ k, k < N → f k ≤ b) (hv : v ≤ b) : ∀ k, k < N → fup f j v k ≤ b := fun k hk => by
  by_cases e : k = j
  · subst e; rw [fup_s]; exact hv
  · rw [fup_n e]; exact h k hk
theorem swp_9 {s : Nat → Nat} {i j v N : Nat} (h : ∀ k, k < N → s k ≤ 9) (hi : i < N) (hj : j < N) : ∀ k, k < N → swp s i j v k ≤ 9 := by
  have h1 := h i hi
  have h2 := h j hj
  exact fup_le (fup_le h (by omega)) (by omega)

set_option maxHeartbeats 4000000 in
set_option maxRecDepth 100000 in
theorem lp_X7_noFamily {call : sm_K} {Q : sm_Q} {x : hX} {ρ : zR} {I : Nat → Nat → Int32} (hR : isMd I ρ) (hw : wfR ρ) {f : Int32} (hQ0 : ¬ fM ρ f = 0 → Q (some (.int 0)) (hp x I)) (hQ1 : fM ρ f = 0 → Q (some (.int 1)) (hp x I)) : ∀ (m i : Nat) (b : Int32), i + m = zg ρ → ((b = 1 ∧ ¬ mk (fam ρ f) i = 0) ∨ (b = 0 ∧ mk (fam ρ f) i = 0)) → sm_wp call 0 0 MX7_noFamily Q 4 [.ref 80, .int f, .int b, .int (nI i)] [] (hp x I) 0 0 := by
  have b6 : zi ρ ≤ 6 := hw.1
  have b8 : zn ρ ≤ 8 := hw.2.1
  have bg : zg ρ ≤ 8 := hw.2.2.1
  have bl : zl ρ ≤ 1 := hw.2.2.2.1
  intro m
  induction m with
  | zero =>
    intro i b hi h1
    have hi : i = zg ρ := by omega
    rcases h1 with ⟨rfl, hb⟩ | ⟨rfl, hb⟩
    · refine r_s (pc' := 5) dX7_noFamily_4 rfl rfl ?_
      refine r_s (pc' := 6) dX7_noFamily_5 rfl rfl ?_
      refine h_gi (pc' := 9) dX7_noFamily_6 rfl fX7_93 (hl_ rfl) rfl ?_
      refine r_top (hR.2.2.1) ?_
      refine r_cge_t (tgt := 38) dX7_noFamily_9 (by decide) (by rw [hi]; exact Int32.le_refl _) ?_
      refine r_s (pc' := 39) dX7_noFamily_38 rfl rfl ?_
      refine r_ifne_t (tgt := 46) dX7_noFamily_39 (by decide) (by decide) ?_
      refine r_c (pc' := 47) dX7_noFamily_46 rfl kc_iconst_0 ?_
      refine r_reti dX7_noFamily_47 rfl (rfl) (Nat.le_of_ble_eq_true rfl) (Nat.le_of_ble_eq_true rfl) ?_
      exact hQ0 (by rw [hi] at hb; exact hb)
    · refine r_s (pc' := 5) dX7_noFamily_4 rfl rfl ?_
      refine r_s (pc' := 6) dX7_noFamily_5 rfl rfl ?_
      refine h_gi (pc' := 9) dX7_noFamily_6 rfl fX7_93 (hl_ rfl) rfl ?_
      refine r_top (hR.2.2.1) ?_
      refine r_cge_t (tgt := 38) dX7_noFamily_9 (by decide) (by rw [hi]; exact Int32.le_refl _) ?_
      refine r_s (pc' := 39) dX7_noFamily_38 rfl rfl ?_
      refine r_ifne_f (pc' := 42) (tgt := 46) dX7_noFamily_39 rfl (by decide) (by decide) ?_
      refine r_c (pc' := 43) dX7_noFamily_42 rfl kc_iconst_1 ?_
      refine r_goto (tgt := 47) dX7_noFamily_43 (by decide) ?_
      refine r_reti dX7_noFamily_47 rfl (rfl) (Nat.le_of_ble_eq_true rfl) (Nat.le_of_ble_eq_true rfl) ?_
      exact hQ1 (by rw [hi] at hb; exact hb)
  | succ m ih =>
    intro i b hi h1
    rcases h1 with ⟨rfl, hb⟩ | ⟨rfl, hb⟩
    · refine r_s (pc' := 5) dX7_noFamily_4 rfl rfl ?_
      refine r_s (pc' := 6) dX7_noFamily_5 rfl rfl ?_
      refine h_gi (pc' := 9) dX7_noFamily_6 rfl fX7_93 (hl_ rfl) rfl ?_
      refine r_top (hR.2.2.1) ?_
      refine r_cge_f (pc' := 12) (tgt := 38) dX7_noFamily_9 rfl (by decide) (nI_ge (by omega) (by omega)) ?_
      refine r_s (pc' := 13) dX7_noFamily_12 rfl rfl ?_
      refine r_ifne_t (tgt := 26) dX7_noFamily_13 (by decide) (by decide) ?_
      refine r_c (pc' := 27) dX7_noFamily_26 rfl kc_iconst_1 ?_
      refine r_goto (tgt := 31) dX7_noFamily_27 (by decide) ?_
      refine r_st_2_4 (pc' := 32) dX7_noFamily_31 rfl rfl rfl ?_
      refine r_in_3_4 (pc' := 35) dX7_noFamily_32 rfl rfl (i1 _) ?_
      refine r_goto (tgt := 4) dX7_noFamily_35 (by decide) ?_
      exact ih (i + 1) 1 (by omega) (Or.inl ⟨rfl, mk_n1 hb⟩)
    · refine r_s (pc' := 5) dX7_noFamily_4 rfl rfl ?_
      refine r_s (pc' := 6) dX7_noFamily_5 rfl rfl ?_
      refine h_gi (pc' := 9) dX7_noFamily_6 rfl fX7_93 (hl_ rfl) rfl ?_
      refine r_top (hR.2.2.1) ?_
      refine r_cge_f (pc' := 12) (tgt := 38) dX7_noFamily_9 rfl (by decide) (nI_ge (by omega) (by omega)) ?_
      refine r_s (pc' := 13) dX7_noFamily_12 rfl rfl ?_
      refine r_ifne_f (pc' := 16) (tgt := 26) dX7_noFamily_13 rfl (by decide) (by decide) ?_
      refine r_s (pc' := 17) dX7_noFamily_16 rfl rfl ?_
      refine r_gr (pc' := 20) dX7_noFamily_17 rfl fX7_22 (hl_ rfl) rfl rfl ?_
      refine r_s (pc' := 21) dX7_noFamily_20 rfl rfl ?_
      refine h_ald (pc' := 22) dX7_noFamily_21 rfl (hl_ rfl) rfl (vp_in_nI (by omega) (by decide)) (nI_clamp (by omega)) ?_
      refine r_top (hR.y i (by omega)) ?_
      refine r_s (pc' := 23) dX7_noFamily_22 rfl rfl ?_
      refine r_cne (pc' := 26) (tgt := 30) dX7_noFamily_23 rfl (by decide) (fun c23 => ?_) (fun c23 => ?_)
      · refine r_c (pc' := 31) dX7_noFamily_30 rfl kc_iconst_0 ?_
        refine r_st_2_4 (pc' := 32) dX7_noFamily_31 rfl rfl rfl ?_
        refine r_in_3_4 (pc' := 35) dX7_noFamily_32 rfl rfl (i1 _) ?_
        refine r_goto (tgt := 4) dX7_noFamily_35 (by decide) ?_
        exact ih (i + 1) 0 (by omega) (Or.inr ⟨rfl, mk_z hb (decide_eq_false c23)⟩)
      · refine r_c (pc' := 27) dX7_noFamily_26 rfl kc_iconst_1 ?_
        refine r_goto (tgt := 31) dX7_noFamily_27 (by decide) ?_
        refine r_st_2_4 (pc' := 32) dX7_noFamily_31 rfl rfl rfl ?_
        refine r_in_3_4 (pc' := 35) dX7_noFamily_32 rfl rfl (i1 _) ?_
        refine r_goto (tgt := 4) dX7_noFamily_35 (by decide) ?_
        exact ih (i + 1) 1 (by omega) (Or.inl ⟨rfl, mk_n2 (decide_eq_true c23)⟩)

set_option maxHeartbeats 4000000 in
set_option maxRecDepth 100000 in
theorem ct_X7_noFamily {d : Nat} {x : hX} {I : Nat → Nat → Int32} {ρ : zR} (hR : isMd I ρ) (hw : wfR ρ) {f : Int32} : ci (d + 1) MX7_noFamily [.ref 80, .int f] (hp x I) (fun r h' => (h' = hp x I ∧ r = 0 ∧ ¬ fM ρ f = 0) ∨ (h' = hp x I ∧ r = 1 ∧ fM ρ f = 0)) := by
  refine c_in (L := [.ref 80, .int f, .null, .null]) rfl rfl ?_
  refine r_c (pc' := 1) dX7_noFamily_0 rfl kc_iconst_0 ?_
  refine r_st_2_4 (pc' := 2) dX7_noFamily_1 rfl rfl rfl ?_
  refine r_c (pc' := 3) dX7_noFamily_2 rfl kc_iconst_0 ?_
  refine r_st_3_4 (pc' := 4) dX7_noFamily_3 rfl rfl rfl ?_
  exact lp_X7_noFamily hR hw (fun e => ⟨_, rfl, Or.inl ⟨rfl, rfl, e⟩⟩) (fun e => ⟨_, rfl, Or.inr ⟨rfl, rfl, e⟩⟩) (zg ρ) 0 0 (by omega) (Or.inr ⟨rfl, rfl⟩)

set_option maxHeartbeats 4000000 in
set_option maxRecDepth 100000 in
theorem lp_X7_isTogether {call : sm_K} {Q : sm_Q} {x : hX} {ρ : zR} {I : Nat → Nat → Int32} (hR : isMd I ρ) (hw : wfR ρ) {f : Int32} {A : Nat → Nat} (hA1 : ∀ g, g < zg ρ → I 93 g = nI (A g)) (hA : ∀ g, g < zg ρ → A g ≤ zi ρ) (hM : ¬ fM ρ f = 0) (hQ1 : togB A (zg ρ) (zi ρ) (fM ρ f) = true → Q (some (.int 1)) (hp x I)) (hQ0 : togB A (zg ρ) (zi ρ) (fM ρ f) = false → Q (some (.int 0)) (hp x I)) : ∀ (m i : Nat) (b n : Int32), i + m = zg ρ → ((b = 1 ∧ n = -9 ∧ ∀ g, g < i → fam ρ f g = false) ∨ (b = 1 ∧ ∃ k, k < zi ρ ∧ n = nI k ∧ (∃ g, g < i ∧ fam ρ f g = true) ∧ ∀ g, g < i → fam ρ f g = true → A g = k) ∨ (b = 0 ∧ (∃ k, k ≤ zi ρ ∧ n = nI k) ∧ ¬ ∃ k, k < zi ρ ∧ ∀ g, g < i → fam ρ f g = true → A g = k)) → sm_wp call 0 0 MX7_isTogether Q 8 [.ref 80, .int f, .int b, .int n, .int (nI i)] [] (hp x I) 0 0 := by
  have b6 : zi ρ ≤ 6 := hw.1
  have b8 : zn ρ ≤ 8 := hw.2.1
  have bg : zg ρ ≤ 8 := hw.2.2.1
  have bl : zl ρ ≤ 1 := hw.2.2.2.1
  intro m
  induction m with
  | zero =>
    intro i b n hi h1
    have hi : i = zg ρ := by omega
    rcases h1 with ⟨rfl, rfl, ha⟩ | ⟨rfl, k, hk, rfl, ⟨g0, hg0, hf0⟩, ha⟩ | ⟨rfl, ⟨k, hk, rfl⟩, ha⟩
    · refine r_s (pc' := 10) dX7_isTogether_8 rfl rfl ?_
      refine r_s (pc' := 11) dX7_isTogether_10 rfl rfl ?_
      refine h_gi (pc' := 14) dX7_isTogether_11 rfl fX7_93 (hl_ rfl) rfl ?_
      refine r_top (hR.2.2.1) ?_
      refine r_cge_t (tgt := 79) dX7_isTogether_14 (by decide) (by rw [hi]; exact Int32.le_refl _) ?_
      refine r_s (pc' := 80) dX7_isTogether_79 rfl rfl ?_
      refine r_reti dX7_isTogether_80 rfl (rfl) (Nat.le_of_ble_eq_true rfl) (Nat.le_of_ble_eq_true rfl) ?_
      exact absurd (mk_all (by rw [hi] at ha; exact ha)) hM
    · refine r_s (pc' := 10) dX7_isTogether_8 rfl rfl ?_
      refine r_s (pc' := 11) dX7_isTogether_10 rfl rfl ?_
      refine h_gi (pc' := 14) dX7_isTogether_11 rfl fX7_93 (hl_ rfl) rfl ?_
      refine r_top (hR.2.2.1) ?_
      refine r_cge_t (tgt := 79) dX7_isTogether_14 (by decide) (by rw [hi]; exact Int32.le_refl _) ?_
      refine r_s (pc' := 80) dX7_isTogether_79 rfl rfl ?_
      refine r_reti dX7_isTogether_80 rfl (rfl) (Nat.le_of_ble_eq_true rfl) (Nat.le_of_ble_eq_true rfl) ?_
      exact hQ1 (togB_t ⟨k, hk, by rw [hi] at ha; exact ha⟩)
    · refine r_s (pc' := 10) dX7_isTogether_8 rfl rfl ?_
      refine r_s (pc' := 11) dX7_isTogether_10 rfl rfl ?_
      refine h_gi (pc' := 14) dX7_isTogether_11 rfl fX7_93 (hl_ rfl) rfl ?_
      refine r_top (hR.2.2.1) ?_
      refine r_cge_t (tgt := 79) dX7_isTogether_14 (by decide) (by rw [hi]; exact Int32.le_refl _) ?_
      refine r_s (pc' := 80) dX7_isTogether_79 rfl rfl ?_
      refine r_reti dX7_isTogether_80 rfl (rfl) (Nat.le_of_ble_eq_true rfl) (Nat.le_of_ble_eq_true rfl) ?_
      exact hQ0 (togB_f (by rw [hi] at ha; exact ha))
  | succ m ih =>
    intro i b n hi h1
    have hAi := hA i (by omega)
    rcases h1 with ⟨rfl, rfl, ha⟩ | ⟨rfl, k, hk, rfl, ⟨g0, hg0, hf0⟩, ha⟩ | ⟨rfl, ⟨k, hk, rfl⟩, ha⟩
    · refine r_s (pc' := 10) dX7_isTogether_8 rfl rfl ?_
      refine r_s (pc' := 11) dX7_isTogether_10 rfl rfl ?_
      refine h_gi (pc' := 14) dX7_isTogether_11 rfl fX7_93 (hl_ rfl) rfl ?_
      refine r_top (hR.2.2.1) ?_
      refine r_cge_f (pc' := 17) (tgt := 79) dX7_isTogether_14 rfl (by decide) (nI_ge (by omega) (by omega)) ?_
      refine r_s (pc' := 18) dX7_isTogether_17 rfl rfl ?_
      refine r_gr (pc' := 21) dX7_isTogether_18 rfl fX7_22 (hl_ rfl) rfl rfl ?_
      refine r_s (pc' := 23) dX7_isTogether_21 rfl rfl ?_
      refine h_ald (pc' := 24) dX7_isTogether_23 rfl (hl_ rfl) rfl (vp_in_nI (by omega) (by decide)) (nI_clamp (by omega)) ?_
      refine r_top (hR.y i (by omega)) ?_
      refine r_s (pc' := 25) dX7_isTogether_24 rfl rfl ?_
      refine r_cne (pc' := 28) (tgt := 73) dX7_isTogether_25 rfl (by decide) (fun c25 => ?_) (fun c25 => ?_)
      · refine r_in_4_5 (pc' := 76) dX7_isTogether_73 rfl rfl (i1 _) ?_
        refine r_goto (tgt := 8) dX7_isTogether_76 (by decide) ?_
        refine ih (i + 1) 1 (-9) (by omega) (Or.inl ⟨rfl, rfl, fun g hg => ?_⟩)
        by_cases e : g = i
        · subst e; exact decide_eq_false c25
        · exact ha g (by omega)
      · refine r_s (pc' := 29) dX7_isTogether_28 rfl rfl ?_
        refine r_ifge_f (pc' := 32) (tgt := 42) dX7_isTogether_29 rfl (by decide) (by decide) ?_
        refine r_s (pc' := 33) dX7_isTogether_32 rfl rfl ?_
        refine r_gr (pc' := 36) dX7_isTogether_33 rfl fX7_46 (hl_ rfl) rfl rfl ?_
        refine r_s (pc' := 38) dX7_isTogether_36 rfl rfl ?_
        refine h_ald (pc' := 39) dX7_isTogether_38 rfl (hl_ rfl) rfl (vp_in_nI (by omega) (by decide)) (nI_clamp (by omega)) ?_
        refine r_top (hA1 i (by omega)) ?_
        refine r_goto (tgt := 43) dX7_isTogether_39 (by decide) ?_
        refine r_st_3_5 (pc' := 44) dX7_isTogether_43 rfl rfl rfl ?_
        refine r_s (pc' := 45) dX7_isTogether_44 rfl rfl ?_
        refine r_ifeq_f (pc' := 48) (tgt := 71) dX7_isTogether_45 rfl (by decide) (by decide) ?_
        refine r_s (pc' := 49) dX7_isTogether_48 rfl rfl ?_
        refine r_gr (pc' := 52) dX7_isTogether_49 rfl fX7_46 (hl_ rfl) rfl rfl ?_
        refine r_s (pc' := 54) dX7_isTogether_52 rfl rfl ?_
        refine h_ald (pc' := 55) dX7_isTogether_54 rfl (hl_ rfl) rfl (vp_in_nI (by omega) (by decide)) (nI_clamp (by omega)) ?_
        refine r_top (hA1 i (by omega)) ?_
        refine r_s (pc' := 56) dX7_isTogether_55 rfl rfl ?_
        refine r_cne_f (pc' := 59) (tgt := 71) dX7_isTogether_56 rfl (by decide) (rfl) ?_
        refine r_s (pc' := 60) dX7_isTogether_59 rfl rfl ?_
        refine r_s (pc' := 61) dX7_isTogether_60 rfl rfl ?_
        refine h_gi (pc' := 64) dX7_isTogether_61 rfl fX7_86 (hl_ rfl) rfl ?_
        refine r_top (hR.1) ?_
        refine r_cge (pc' := 67) (tgt := 71) dX7_isTogether_64 rfl (by decide) (fun c64 => ?_) (fun c64 => ?_)
        · refine r_c (pc' := 72) dX7_isTogether_71 rfl kc_iconst_0 ?_
          refine r_st_2_5 (pc' := 73) dX7_isTogether_72 rfl rfl rfl ?_
          refine r_in_4_5 (pc' := 76) dX7_isTogether_73 rfl rfl (i1 _) ?_
          refine r_goto (tgt := 8) dX7_isTogether_76 (by decide) ?_
          refine ih (i + 1) 0 _ (by omega) (Or.inr (Or.inr ⟨rfl, ⟨A i, hAi, rfl⟩, ?_⟩))
          rintro ⟨k, hk, h⟩
          have := h i (by omega) (decide_eq_true c25)
          have := (nI_leI (by omega) (by omega)).mp c64
          omega
        · refine r_c (pc' := 68) dX7_isTogether_67 rfl kc_iconst_1 ?_
          refine r_goto (tgt := 72) dX7_isTogether_68 (by decide) ?_
          refine r_st_2_5 (pc' := 73) dX7_isTogether_72 rfl rfl rfl ?_
          refine r_in_4_5 (pc' := 76) dX7_isTogether_73 rfl rfl (i1 _) ?_
          refine r_goto (tgt := 8) dX7_isTogether_76 (by decide) ?_
          refine ih (i + 1) 1 _ (by omega) (Or.inr (Or.inl ⟨rfl, A i, by have := mt (fun h => nI_le (a := zi ρ) (b := A i) h (by omega)) c64; omega, rfl, ⟨i, by omega, decide_eq_true c25⟩, fun g hg hf => ?_⟩))
          by_cases e : g = i
          · subst e; rfl
          · rw [ha g (by omega)] at hf; cases hf
    · refine r_s (pc' := 10) dX7_isTogether_8 rfl rfl ?_
      refine r_s (pc' := 11) dX7_isTogether_10 rfl rfl ?_
      refine h_gi (pc' := 14) dX7_isTogether_11 rfl fX7_93 (hl_ rfl) rfl ?_
      refine r_top (hR.2.2.1) ?_
      refine r_cge_f (pc' := 17) (tgt := 79) dX7_isTogether_14 rfl (by decide) (nI_ge (by omega) (by omega)) ?_
      refine r_s (pc' := 18) dX7_isTogether_17 rfl rfl ?_
      refine r_gr (pc' := 21) dX7_isTogether_18 rfl fX7_22 (hl_ rfl) rfl rfl ?_
      refine r_s (pc' := 23) dX7_isTogether_21 rfl rfl ?_
      refine h_ald (pc' := 24) dX7_isTogether_23 rfl (hl_ rfl) rfl (vp_in_nI (by omega) (by decide)) (nI_clamp (by omega)) ?_
      refine r_top (hR.y i (by omega)) ?_
      refine r_s (pc' := 25) dX7_isTogether_24 rfl rfl ?_
      refine r_cne (pc' := 28) (tgt := 73) dX7_isTogether_25 rfl (by decide) (fun c25 => ?_) (fun c25 => ?_)
      · refine r_in_4_5 (pc' := 76) dX7_isTogether_73 rfl rfl (i1 _) ?_
        refine r_goto (tgt := 8) dX7_isTogether_76 (by decide) ?_
        refine ih (i + 1) 1 _ (by omega) (Or.inr (Or.inl ⟨rfl, k, hk, rfl, ⟨g0, by omega, hf0⟩, fun g hg hf => ?_⟩))
        by_cases e : g = i
        · subst e; exact absurd (of_decide_eq_true hf) c25
        · exact ha g (by omega) hf
      · refine r_s (pc' := 29) dX7_isTogether_28 rfl rfl ?_
        refine r_ifge_t (tgt := 42) dX7_isTogether_29 (by decide) (nI_pos' (by omega)) ?_
        refine r_s (pc' := 43) dX7_isTogether_42 rfl rfl ?_
        refine r_st_3_5 (pc' := 44) dX7_isTogether_43 rfl rfl rfl ?_
        refine r_s (pc' := 45) dX7_isTogether_44 rfl rfl ?_
        refine r_ifeq_f (pc' := 48) (tgt := 71) dX7_isTogether_45 rfl (by decide) (by decide) ?_
        refine r_s (pc' := 49) dX7_isTogether_48 rfl rfl ?_
        refine r_gr (pc' := 52) dX7_isTogether_49 rfl fX7_46 (hl_ rfl) rfl rfl ?_
        refine r_s (pc' := 54) dX7_isTogether_52 rfl rfl ?_
        refine h_ald (pc' := 55) dX7_isTogether_54 rfl (hl_ rfl) rfl (vp_in_nI (by omega) (by decide)) (nI_clamp (by omega)) ?_
        refine r_top (hA1 i (by omega)) ?_
        refine r_s (pc' := 56) dX7_isTogether_55 rfl rfl ?_
        refine r_cne (pc' := 59) (tgt := 71) dX7_isTogether_56 rfl (by decide) (fun c56 => ?_) (fun c56 => ?_)
        · refine r_c (pc' := 72) dX7_isTogether_71 rfl kc_iconst_0 ?_
          refine r_st_2_5 (pc' := 73) dX7_isTogether_72 rfl rfl rfl ?_
          refine r_in_4_5 (pc' := 76) dX7_isTogether_73 rfl rfl (i1 _) ?_
          refine r_goto (tgt := 8) dX7_isTogether_76 (by decide) ?_
          refine ih (i + 1) 0 _ (by omega) (Or.inr (Or.inr ⟨rfl, ⟨k, by omega, rfl⟩, ?_⟩))
          rintro ⟨k2, hk2, h⟩
          have e1 := h i (by omega) (decide_eq_true c25)
          have e2 := h g0 (by omega) hf0
          have e3 := ha g0 hg0 hf0
          exact c56 (by rw [e1, ← e2, e3])
        · refine r_s (pc' := 60) dX7_isTogether_59 rfl rfl ?_
          refine r_s (pc' := 61) dX7_isTogether_60 rfl rfl ?_
          refine h_gi (pc' := 64) dX7_isTogether_61 rfl fX7_86 (hl_ rfl) rfl ?_
          refine r_top (hR.1) ?_
          refine r_cge_f (pc' := 67) (tgt := 71) dX7_isTogether_64 rfl (by decide) (nI_ge (by omega) (by omega)) ?_
          refine r_c (pc' := 68) dX7_isTogether_67 rfl kc_iconst_1 ?_
          refine r_goto (tgt := 72) dX7_isTogether_68 (by decide) ?_
          refine r_st_2_5 (pc' := 73) dX7_isTogether_72 rfl rfl rfl ?_
          refine r_in_4_5 (pc' := 76) dX7_isTogether_73 rfl rfl (i1 _) ?_
          refine r_goto (tgt := 8) dX7_isTogether_76 (by decide) ?_
          refine ih (i + 1) 1 _ (by omega) (Or.inr (Or.inl ⟨rfl, k, hk, rfl, ⟨g0, by omega, hf0⟩, fun g hg hf => ?_⟩))
          by_cases e : g = i
          · subst e; exact (nI_eq (by omega) (by omega)).mp c56
          · exact ha g (by omega) hf
    · refine r_s (pc' := 10) dX7_isTogether_8 rfl rfl ?_
      refine r_s (pc' := 11) dX7_isTogether_10 rfl rfl ?_
      refine h_gi (pc' := 14) dX7_isTogether_11 rfl fX7_93 (hl_ rfl) rfl ?_
      refine r_top (hR.2.2.1) ?_
      refine r_cge_f (pc' := 17) (tgt := 79) dX7_isTogether_14 rfl (by decide) (nI_ge (by omega) (by omega)) ?_
      refine r_s (pc' := 18) dX7_isTogether_17 rfl rfl ?_
      refine r_gr (pc' := 21) dX7_isTogether_18 rfl fX7_22 (hl_ rfl) rfl rfl ?_
      refine r_s (pc' := 23) dX7_isTogether_21 rfl rfl ?_
      refine h_ald (pc' := 24) dX7_isTogether_23 rfl (hl_ rfl) rfl (vp_in_nI (by omega) (by decide)) (nI_clamp (by omega)) ?_
      refine r_top (hR.y i (by omega)) ?_
      refine r_s (pc' := 25) dX7_isTogether_24 rfl rfl ?_
      refine r_cne (pc' := 28) (tgt := 73) dX7_isTogether_25 rfl (by decide) (fun c25 => ?_) (fun c25 => ?_)
      · refine r_in_4_5 (pc' := 76) dX7_isTogether_73 rfl rfl (i1 _) ?_
        refine r_goto (tgt := 8) dX7_isTogether_76 (by decide) ?_
        refine ih (i + 1) 0 _ (by omega) (Or.inr (Or.inr ⟨rfl, ⟨k, hk, rfl⟩, ?_⟩))
        rintro ⟨k2, hk2, h⟩
        exact ha ⟨k2, hk2, fun g hg hf => h g (by omega) hf⟩
      · refine r_s (pc' := 29) dX7_isTogether_28 rfl rfl ?_
        refine r_ifge_t (tgt := 42) dX7_isTogether_29 (by decide) (nI_pos' (by omega)) ?_
        refine r_s (pc' := 43) dX7_isTogether_42 rfl rfl ?_
        refine r_st_3_5 (pc' := 44) dX7_isTogether_43 rfl rfl rfl ?_
        refine r_s (pc' := 45) dX7_isTogether_44 rfl rfl ?_
        refine r_ifeq_t (tgt := 71) dX7_isTogether_45 (by decide) (by decide) ?_
        refine r_c (pc' := 72) dX7_isTogether_71 rfl kc_iconst_0 ?_
        refine r_st_2_5 (pc' := 73) dX7_isTogether_72 rfl rfl rfl ?_
        refine r_in_4_5 (pc' := 76) dX7_isTogether_73 rfl rfl (i1 _) ?_
        refine r_goto (tgt := 8) dX7_isTogether_76 (by decide) ?_
        refine ih (i + 1) 0 _ (by omega) (Or.inr (Or.inr ⟨rfl, ⟨k, hk, rfl⟩, ?_⟩))
        rintro ⟨k2, hk2, h⟩
        exact ha ⟨k2, hk2, fun g hg hf => h g (by omega) hf⟩

set_option maxHeartbeats 4000000 in
set_option maxRecDepth 100000 in
theorem ct_X7_isTogether {d : Nat} {x : hX} {I : Nat → Nat → Int32} {ρ : zR} (hR : isMd I ρ) (hw : wfR ρ) {f : Int32} {A : Nat → Nat} (hA1 : ∀ g, g < zg ρ → I 93 g = nI (A g)) (hA : ∀ g, g < zg ρ → A g ≤ zi ρ) (hM : ¬ fM ρ f = 0) : ci (d + 1) MX7_isTogether [.ref 80, .int f] (hp x I) (fun r h' => (h' = hp x I ∧ r = 1 ∧ togB A (zg ρ) (zi ρ) (fM ρ f) = true) ∨ (h' = hp x I ∧ r = 0 ∧ togB A (zg ρ) (zi ρ) (fM ρ f) = false)) := by
  refine c_in (L := [.ref 80, .int f, .null, .null, .null]) rfl rfl ?_
  refine r_c (pc' := 1) dX7_isTogether_0 rfl kc_iconst_1 ?_
  refine r_st_2_5 (pc' := 2) dX7_isTogether_1 rfl rfl rfl ?_
  refine r_c (pc' := 4) dX7_isTogether_2 rfl kc_bipush_m9 ?_
  refine r_st_3_5 (pc' := 5) dX7_isTogether_4 rfl rfl rfl ?_
  refine r_c (pc' := 6) dX7_isTogether_5 rfl kc_iconst_0 ?_
  refine r_st_4_5 (pc' := 8) dX7_isTogether_6 rfl rfl rfl ?_
  exact lp_X7_isTogether hR hw hA1 hA hM (fun e => ⟨_, rfl, Or.inl ⟨rfl, rfl, e⟩⟩) (fun e => ⟨_, rfl, Or.inr ⟨rfl, rfl, e⟩⟩) (zg ρ) 0 1 (-9) (by omega) (Or.inl ⟨rfl, rfl, fun g hg => absurd hg (by omega)⟩)

set_option maxHeartbeats 4000000 in
set_option maxRecDepth 100000 in
theorem lp_X7_meetsIn {d : Nat} {Q : sm_Q} {x : hX} {ρ : zR} {I0 : Nat → Nat → Int32} (hR : isMd I0 ρ) (hw : wfR ρ) {rm n : Nat} (hz : 0 < zi ρ) (hn : n ≤ zn ρ) (hrm : I0 80 11 = rmI rm) {f : Int32} (hM : ¬ fM ρ f = 0) (hQ : ∀ I, frM I0 I → Q (some (.int (fmI (mts ρ rm (zw ρ) (fM ρ f)) n))) (hp x I)) : ∀ (m i : Nat) (v : Int32) (I : Nat → Nat → Int32), i + m = n → ((v = -9 ∧ ∀ j, j < i → mts ρ rm (zw ρ) (fM ρ f) j = false) ∨ (∃ j, j < i ∧ v = nI j ∧ mts ρ rm (zw ρ) (fM ρ f) j = true ∧ ∀ k, k < j → mts ρ rm (zw ρ) (fM ρ f) k = false)) → MR I ρ (sim ρ rm (zw ρ) i) → frM I0 I → sm_wp (sm_c (d + 3)) 0 0 MX7_meetsIn Q 10 [.ref 80, .int f, .int (nI n), .int v, .int (nI i)] [] (hp x I) 0 0 := by
  have b6 : zi ρ ≤ 6 := hw.1
  have b8 : zn ρ ≤ 8 := hw.2.1
  have bg : zg ρ ≤ 8 := hw.2.2.1
  have bl : zl ρ ≤ 1 := hw.2.2.2.1
  intro m
  induction m with
  | zero =>
    intro i v I hi h1 hs h2
    have hi : i = n := by omega
    rcases h1 with ⟨rfl, ha⟩ | ⟨j, hj, rfl, hj1, hj2⟩
    · refine r_s (pc' := 12) dX7_meetsIn_10 rfl rfl ?_
      refine r_s (pc' := 13) dX7_meetsIn_12 rfl rfl ?_
      refine r_cge_t (tgt := 47) dX7_meetsIn_13 (by decide) (by rw [hi]; exact Int32.le_refl _) ?_
      refine r_s (pc' := 48) dX7_meetsIn_47 rfl rfl ?_
      refine r_reti dX7_meetsIn_48 rfl (rfl) (Nat.le_of_ble_eq_true rfl) (Nat.le_of_ble_eq_true rfl) ?_
      rw [hi] at ha; rw [← fmI_no ha]; exact hQ I h2
    · refine r_s (pc' := 12) dX7_meetsIn_10 rfl rfl ?_
      refine r_s (pc' := 13) dX7_meetsIn_12 rfl rfl ?_
      refine r_cge_t (tgt := 47) dX7_meetsIn_13 (by decide) (by rw [hi]; exact Int32.le_refl _) ?_
      refine r_s (pc' := 48) dX7_meetsIn_47 rfl rfl ?_
      refine r_reti dX7_meetsIn_48 rfl (rfl) (Nat.le_of_ble_eq_true rfl) (Nat.le_of_ble_eq_true rfl) ?_
      rw [hi] at hj; rw [← fmI_at hj hj1 hj2]; exact hQ I h2
  | succ m ih =>
    intro i v I hi h1 hs h2
    rcases h1 with ⟨rfl, ha⟩ | ⟨j, hj, rfl, hj1, hj2⟩
    · refine r_s (pc' := 12) dX7_meetsIn_10 rfl rfl ?_
      refine r_s (pc' := 13) dX7_meetsIn_12 rfl rfl ?_
      refine r_cge_f (pc' := 16) (tgt := 47) dX7_meetsIn_13 rfl (by decide) (nI_ge (by omega) (by omega)) ?_
      refine r_s (pc' := 17) dX7_meetsIn_16 rfl rfl ?_
      refine r_s (pc' := 19) dX7_meetsIn_17 rfl rfl ?_
      refine r_Vv1 (pc' := 22) dX7_meetsIn_19 rfl lX7_189 (hl_ rfl) rfl rfl rfl rfl (Nat.le_of_ble_eq_true rfl) (Nat.le_of_ble_eq_true rfl) (ct_X7_goNight (S := sim ρ rm (zw ρ) i) (hR.fr h2) hw hz (by omega) (by rw [h2.2 11 (by decide)]; exact hrm) hs (sim_ok hw hz rm (zw ρ) i)) (fun h19 e19 => ?_)
      obtain ⟨I1, rfl, a1, a2⟩ := e19
      refine r_s (pc' := 23) dX7_meetsIn_22 rfl rfl ?_
      refine r_ifge_f (pc' := 26) (tgt := 39) dX7_meetsIn_23 rfl (by decide) (by decide) ?_
      refine r_s (pc' := 27) dX7_meetsIn_26 rfl rfl ?_
      refine r_s (pc' := 28) dX7_meetsIn_27 rfl rfl ?_
      refine r_Vi1 (pc' := 31) dX7_meetsIn_28 rfl lX7_199 (hl_ rfl) rfl rfl rfl rfl (Nat.le_of_ble_eq_true rfl) (Nat.le_of_ble_eq_true rfl) (ct_X7_isTogether ((hR.fr h2).fr a2) hw a1.1 (sim_ok hw hz rm (zw ρ) (i + 1)).1 hM) (fun r28 h28 e28 => ?_)
      rcases e28 with ⟨rfl, rfl, hb⟩ | ⟨rfl, rfl, hb⟩
      · refine r_ifeq_f (pc' := 34) (tgt := 39) dX7_meetsIn_31 rfl (by decide) (by decide) ?_
        refine r_s (pc' := 36) dX7_meetsIn_34 rfl rfl ?_
        refine r_goto (tgt := 40) dX7_meetsIn_36 (by decide) ?_
        refine r_st_3_5 (pc' := 41) dX7_meetsIn_40 rfl rfl rfl ?_
        refine r_in_4_5 (pc' := 44) dX7_meetsIn_41 rfl rfl (i1 _) ?_
        refine r_goto (tgt := 10) dX7_meetsIn_44 (by decide) ?_
        exact ih (i + 1) _ I1 (by omega) (Or.inr ⟨i, by omega, rfl, hb, ha⟩) a1 (h2.tr a2)
      · refine r_ifeq_t (tgt := 39) dX7_meetsIn_31 (by decide) (by decide) ?_
        refine r_s (pc' := 40) dX7_meetsIn_39 rfl rfl ?_
        refine r_st_3_5 (pc' := 41) dX7_meetsIn_40 rfl rfl rfl ?_
        refine r_in_4_5 (pc' := 44) dX7_meetsIn_41 rfl rfl (i1 _) ?_
        refine r_goto (tgt := 10) dX7_meetsIn_44 (by decide) ?_
        refine ih (i + 1) _ I1 (by omega) (Or.inl ⟨rfl, fun j hj => ?_⟩) a1 (h2.tr a2)
        by_cases e : j = i
        · subst e; exact hb
        · exact ha j (by omega)
    · refine r_s (pc' := 12) dX7_meetsIn_10 rfl rfl ?_
      refine r_s (pc' := 13) dX7_meetsIn_12 rfl rfl ?_
      refine r_cge_f (pc' := 16) (tgt := 47) dX7_meetsIn_13 rfl (by decide) (nI_ge (by omega) (by omega)) ?_
      refine r_s (pc' := 17) dX7_meetsIn_16 rfl rfl ?_
      refine r_s (pc' := 19) dX7_meetsIn_17 rfl rfl ?_
      refine r_Vv1 (pc' := 22) dX7_meetsIn_19 rfl lX7_189 (hl_ rfl) rfl rfl rfl rfl (Nat.le_of_ble_eq_true rfl) (Nat.le_of_ble_eq_true rfl) (ct_X7_goNight (S := sim ρ rm (zw ρ) i) (hR.fr h2) hw hz (by omega) (by rw [h2.2 11 (by decide)]; exact hrm) hs (sim_ok hw hz rm (zw ρ) i)) (fun h19 e19 => ?_)
      obtain ⟨I1, rfl, a1, a2⟩ := e19
      refine r_s (pc' := 23) dX7_meetsIn_22 rfl rfl ?_
      refine r_ifge_t (tgt := 39) dX7_meetsIn_23 (by decide) (nI_pos' (by omega)) ?_
      refine r_s (pc' := 40) dX7_meetsIn_39 rfl rfl ?_
      refine r_st_3_5 (pc' := 41) dX7_meetsIn_40 rfl rfl rfl ?_
      refine r_in_4_5 (pc' := 44) dX7_meetsIn_41 rfl rfl (i1 _) ?_
      refine r_goto (tgt := 10) dX7_meetsIn_44 (by decide) ?_
      exact ih (i + 1) _ I1 (by omega) (Or.inr ⟨j, by omega, rfl, hj1, hj2⟩) a1 (h2.tr a2)

set_option maxHeartbeats 4000000 in
set_option maxRecDepth 100000 in
theorem ct_X7_meetsIn {d : Nat} {x : hX} {I : Nat → Nat → Int32} {ρ : zR} {rm n : Nat} (hR : isMd I ρ) (hw : wfR ρ) (hz : 0 < zi ρ) (hn : n ≤ zn ρ) (hrm : I 80 11 = rmI rm) {f : Int32} (hM : ¬ fM ρ f = 0) : ci (d + 4) MX7_meetsIn [.ref 80, .int f, .int (nI n)] (hp x I) (fun r h' => ∃ I', h' = hp x I' ∧ frM I I' ∧ r = fmI (mts ρ rm (zw ρ) (fM ρ f)) n) := by
  refine c_in (L := [.ref 80, .int f, .int (nI n), .null, .null]) rfl rfl ?_
  refine r_s (pc' := 1) dX7_meetsIn_0 rfl rfl ?_
  refine r_Vv0 (pc' := 4) dX7_meetsIn_1 rfl lX7_186 (hl_ rfl) rfl rfl rfl rfl (Nat.le_of_ble_eq_true rfl) (Nat.le_of_ble_eq_true rfl) (ct_X7_begin hR hw) (fun h1 e1 => ?_)
  obtain ⟨I1, rfl, a1, a2⟩ := e1
  refine r_c (pc' := 6) dX7_meetsIn_4 rfl kc_bipush_m9 ?_
  refine r_st_3_5 (pc' := 7) dX7_meetsIn_6 rfl rfl rfl ?_
  refine r_c (pc' := 8) dX7_meetsIn_7 rfl kc_iconst_0 ?_
  refine r_st_4_5 (pc' := 10) dX7_meetsIn_8 rfl rfl rfl ?_
  exact lp_X7_meetsIn (I0 := I) hR hw hz hn hrm hM (fun I2 g2 => ⟨_, rfl, I2, rfl, g2, rfl⟩) n 0 (-9) _ (by omega) (Or.inl ⟨rfl, fun j hj => absurd hj (by omega)⟩) a1 a2

set_option maxHeartbeats 4000000 in
set_option maxRecDepth 100000 in
theorem lp_X7_isNobodyOut {d : Nat} {Q : sm_Q} {x : hX} {ρ : zR} {I0 : Nat → Nat → Int32} (hR : isMd I0 ρ) (hw : wfR ρ) {rm n : Nat} (hz : 0 < zi ρ) (hn : n ≤ zn ρ) (hrm : I0 80 11 = rmI rm) (hQ1 : ∀ I, frM I0 I → allB (rds ρ rm (zw ρ)) n = true → Q (some (.int 1)) (hp x I)) (hQ0 : ∀ I, frM I0 I → allB (rds ρ rm (zw ρ)) n = false → Q (some (.int 0)) (hp x I)) : ∀ (m i : Nat) (b : Int32) (I : Nat → Nat → Int32), i + m = n → ((b = 1 ∧ ∀ j, j < i → rds ρ rm (zw ρ) j = true) ∨ (b = 0 ∧ ∃ j, j < i ∧ rds ρ rm (zw ρ) j = false)) → MR I ρ (sim ρ rm (zw ρ) i) → frM I0 I → sm_wp (sm_c (d + 3)) 0 0 MX7_isNobodyOut Q 8 [.ref 80, .int (nI n), .int b, .int (nI i)] [] (hp x I) 0 0 := by
  have b6 : zi ρ ≤ 6 := hw.1
  have b8 : zn ρ ≤ 8 := hw.2.1
  have bg : zg ρ ≤ 8 := hw.2.2.1
  have bl : zl ρ ≤ 1 := hw.2.2.2.1
  intro m
  induction m with
  | zero =>
    intro i b I hi h1 hs h2
    have hi : i = n := by omega
    rcases h1 with ⟨rfl, ha⟩ | ⟨rfl, j, hj, hb⟩
    · refine r_s (pc' := 9) dX7_isNobodyOut_8 rfl rfl ?_
      refine r_s (pc' := 10) dX7_isNobodyOut_9 rfl rfl ?_
      refine r_cge_t (tgt := 45) dX7_isNobodyOut_10 (by decide) (by rw [hi]; exact Int32.le_refl _) ?_
      refine r_s (pc' := 46) dX7_isNobodyOut_45 rfl rfl ?_
      refine r_reti dX7_isNobodyOut_46 rfl (rfl) (Nat.le_of_ble_eq_true rfl) (Nat.le_of_ble_eq_true rfl) ?_
      exact hQ1 I h2 (decide_eq_true (by rw [hi] at ha; exact ha))
    · refine r_s (pc' := 9) dX7_isNobodyOut_8 rfl rfl ?_
      refine r_s (pc' := 10) dX7_isNobodyOut_9 rfl rfl ?_
      refine r_cge_t (tgt := 45) dX7_isNobodyOut_10 (by decide) (by rw [hi]; exact Int32.le_refl _) ?_
      refine r_s (pc' := 46) dX7_isNobodyOut_45 rfl rfl ?_
      refine r_reti dX7_isNobodyOut_46 rfl (rfl) (Nat.le_of_ble_eq_true rfl) (Nat.le_of_ble_eq_true rfl) ?_
      exact hQ0 I h2 (decide_eq_false (fun h => by rw [h j (by omega)] at hb; cases hb))
  | succ m ih =>
    intro i b I hi h1 hs h2
    rcases h1 with ⟨rfl, ha⟩ | ⟨rfl, j, hj, hb⟩
    · refine r_s (pc' := 9) dX7_isNobodyOut_8 rfl rfl ?_
      refine r_s (pc' := 10) dX7_isNobodyOut_9 rfl rfl ?_
      refine r_cge_f (pc' := 13) (tgt := 45) dX7_isNobodyOut_10 rfl (by decide) (nI_ge (by omega) (by omega)) ?_
      refine r_s (pc' := 14) dX7_isNobodyOut_13 rfl rfl ?_
      refine r_s (pc' := 15) dX7_isNobodyOut_14 rfl rfl ?_
      refine r_Vv1 (pc' := 18) dX7_isNobodyOut_15 rfl lX7_189 (hl_ rfl) rfl rfl rfl rfl (Nat.le_of_ble_eq_true rfl) (Nat.le_of_ble_eq_true rfl) (ct_X7_goNight (S := sim ρ rm (zw ρ) i) (hR.fr h2) hw hz (by omega) (by rw [h2.2 11 (by decide)]; exact hrm) hs (sim_ok hw hz rm (zw ρ) i)) (fun h15 e15 => ?_)
      obtain ⟨I1, rfl, a1, a2⟩ := e15
      refine r_s (pc' := 19) dX7_isNobodyOut_18 rfl rfl ?_
      refine r_ifeq_f (pc' := 22) (tgt := 37) dX7_isNobodyOut_19 rfl (by decide) (by decide) ?_
      refine r_s (pc' := 23) dX7_isNobodyOut_22 rfl rfl ?_
      refine r_s (pc' := 24) dX7_isNobodyOut_23 rfl rfl ?_
      refine h_gi (pc' := 27) dX7_isNobodyOut_24 rfl fX7_86 (hl_ rfl) rfl ?_
      refine r_top (((hR.fr h2).fr a2).1) ?_
      refine r_Vi1 (pc' := 30) dX7_isNobodyOut_27 rfl lX7_196 (hl_ rfl) rfl rfl rfl rfl (Nat.le_of_ble_eq_true rfl) (Nat.le_of_ble_eq_true rfl) (ct_X7_inBeds (k := zi ρ) ((hR.fr h2).fr a2) hw a1.1 (sim_ok hw hz rm (zw ρ) (i + 1)).1 b6) (fun r27 h27 e27 => ?_)
      obtain ⟨rfl, rfl⟩ := e27
      refine r_ifne (pc' := 33) (tgt := 37) dX7_isNobodyOut_30 rfl (by decide) (fun c30 => ?_) (fun c30 => ?_)
      · refine r_c (pc' := 38) dX7_isNobodyOut_37 rfl kc_iconst_0 ?_
        refine r_st_2_4 (pc' := 39) dX7_isNobodyOut_38 rfl rfl rfl ?_
        refine r_in_3_4 (pc' := 42) dX7_isNobodyOut_39 rfl rfl (i1 _) ?_
        refine r_goto (tgt := 8) dX7_isNobodyOut_42 (by decide) ?_
        exact ih (i + 1) 0 I1 (by omega) (Or.inr ⟨rfl, i, by omega, decide_eq_false (fun e => c30 (congrArg nI e))⟩) a1 (h2.tr a2)
      · refine r_c (pc' := 34) dX7_isNobodyOut_33 rfl kc_iconst_1 ?_
        refine r_goto (tgt := 38) dX7_isNobodyOut_34 (by decide) ?_
        refine r_st_2_4 (pc' := 39) dX7_isNobodyOut_38 rfl rfl rfl ?_
        refine r_in_3_4 (pc' := 42) dX7_isNobodyOut_39 rfl rfl (i1 _) ?_
        refine r_goto (tgt := 8) dX7_isNobodyOut_42 (by decide) ?_
        refine ih (i + 1) 1 I1 (by omega) (Or.inl ⟨rfl, fun j hj => ?_⟩) a1 (h2.tr a2)
        by_cases e : j = i
        · subst e; exact decide_eq_true ((nI_eq (by have := mA_lt (A := (sim ρ rm (zw ρ) (j + 1)).1) (k := zi ρ) bg; omega) (by decide)).mp c30)
        · exact ha j (by omega)
    · refine r_s (pc' := 9) dX7_isNobodyOut_8 rfl rfl ?_
      refine r_s (pc' := 10) dX7_isNobodyOut_9 rfl rfl ?_
      refine r_cge_f (pc' := 13) (tgt := 45) dX7_isNobodyOut_10 rfl (by decide) (nI_ge (by omega) (by omega)) ?_
      refine r_s (pc' := 14) dX7_isNobodyOut_13 rfl rfl ?_
      refine r_s (pc' := 15) dX7_isNobodyOut_14 rfl rfl ?_
      refine r_Vv1 (pc' := 18) dX7_isNobodyOut_15 rfl lX7_189 (hl_ rfl) rfl rfl rfl rfl (Nat.le_of_ble_eq_true rfl) (Nat.le_of_ble_eq_true rfl) (ct_X7_goNight (S := sim ρ rm (zw ρ) i) (hR.fr h2) hw hz (by omega) (by rw [h2.2 11 (by decide)]; exact hrm) hs (sim_ok hw hz rm (zw ρ) i)) (fun h15 e15 => ?_)
      obtain ⟨I1, rfl, a1, a2⟩ := e15
      refine r_s (pc' := 19) dX7_isNobodyOut_18 rfl rfl ?_
      refine r_ifeq_t (tgt := 37) dX7_isNobodyOut_19 (by decide) (by decide) ?_
      refine r_c (pc' := 38) dX7_isNobodyOut_37 rfl kc_iconst_0 ?_
      refine r_st_2_4 (pc' := 39) dX7_isNobodyOut_38 rfl rfl rfl ?_
      refine r_in_3_4 (pc' := 42) dX7_isNobodyOut_39 rfl rfl (i1 _) ?_
      refine r_goto (tgt := 8) dX7_isNobodyOut_42 (by decide) ?_
      exact ih (i + 1) 0 I1 (by omega) (Or.inr ⟨rfl, j, by omega, hb⟩) a1 (h2.tr a2)

set_option maxHeartbeats 4000000 in
set_option maxRecDepth 100000 in
theorem ct_X7_isNobodyOut {d : Nat} {x : hX} {I : Nat → Nat → Int32} {ρ : zR} {rm n : Nat} (hR : isMd I ρ) (hw : wfR ρ) (hz : 0 < zi ρ) (hn : n ≤ zn ρ) (hrm : I 80 11 = rmI rm) : ci (d + 4) MX7_isNobodyOut [.ref 80, .int (nI n)] (hp x I) (fun r h' => (∃ I', h' = hp x I' ∧ frM I I' ∧ r = 1 ∧ allB (rds ρ rm (zw ρ)) n = true) ∨ (∃ I', h' = hp x I' ∧ frM I I' ∧ r = 0 ∧ allB (rds ρ rm (zw ρ)) n = false)) := by
  refine c_in (L := [.ref 80, .int (nI n), .null, .null]) rfl rfl ?_
  refine r_s (pc' := 1) dX7_isNobodyOut_0 rfl rfl ?_
  refine r_Vv0 (pc' := 4) dX7_isNobodyOut_1 rfl lX7_186 (hl_ rfl) rfl rfl rfl rfl (Nat.le_of_ble_eq_true rfl) (Nat.le_of_ble_eq_true rfl) (ct_X7_begin hR hw) (fun h1 e1 => ?_)
  obtain ⟨I1, rfl, a1, a2⟩ := e1
  refine r_c (pc' := 5) dX7_isNobodyOut_4 rfl kc_iconst_1 ?_
  refine r_st_2_4 (pc' := 6) dX7_isNobodyOut_5 rfl rfl rfl ?_
  refine r_c (pc' := 7) dX7_isNobodyOut_6 rfl kc_iconst_0 ?_
  refine r_st_3_4 (pc' := 8) dX7_isNobodyOut_7 rfl rfl rfl ?_
  exact lp_X7_isNobodyOut (I0 := I) hR hw hz hn hrm (fun I2 g2 e => ⟨_, rfl, Or.inl ⟨I2, rfl, g2, rfl, e⟩⟩) (fun I2 g2 e => ⟨_, rfl, Or.inr ⟨I2, rfl, g2, rfl, e⟩⟩) n 0 1 _ (by omega) (Or.inl ⟨rfl, fun j hj => absurd hj (by omega)⟩) a1 a2

/-- by sweeping v from k to 'to' nobody is on the road -/
def byB (ρ : zR) (rm k to v n : Nat) : Bool := decide (v ≤ zs ρ k) && allB (rds (wsn ρ (swp (zs ρ) k to v)) rm (zw ρ)) n

set_option maxHeartbeats 4000000 in
set_option maxRecDepth 100000 in
theorem ct_X7_isBy {d : Nat} {x : hX} {I : Nat → Nat → Int32} {ρ : zR} {rm n : Nat} (hR : isMd I ρ) (hw : wfR ρ) (hz : 0 < zi ρ) (hn : n ≤ zn ρ) (hrm : I 80 11 = rmI rm) {k to v : Nat} (hk : k < zi ρ) (ht : to < zi ρ) (hne : k ≠ to) (hv : v ≤ 9) : ci (d + 5) MX7_isBy [.ref 80, .int (nI k), .int (nI to), .int (nI v), .int (nI n)] (hp x I) (fun r h' => (∃ I', h' = hp x I' ∧ frM I I' ∧ r = 1 ∧ byB ρ rm k to v n = true) ∨ (∃ I', h' = hp x I' ∧ frM I I' ∧ r = 0 ∧ byB ρ rm k to v n = false)) := by
  have b6 : zi ρ ≤ 6 := hw.1
  have b8 : zn ρ ≤ 8 := hw.2.1
  have bg : zg ρ ≤ 8 := hw.2.2.1
  have bl : zl ρ ≤ 1 := hw.2.2.2.1
  have s1 := hw.s9 hk
  have s2 := hw.s9 ht
  have hfr : ∀ I1, frM (sm_up (sm_up I 82 k (nI (zs ρ k - min v (zs ρ k)))) 82 to (nI (zs ρ to + min (min v (zs ρ k)) (9 - zs ρ to)))) I1 → frM I (sm_up (sm_up I1 82 k (nI (zs ρ k))) 82 to (nI (zs ρ to))) := fun I1 h => by
    refine ⟨fun t t1 t2 t3 => ?_, fun j hj => by rw [up_o (by decide), up_o (by decide), h.2 j hj, up_o (by decide), up_o (by decide)]⟩
    by_cases e : t = 82
    · subst e
      funext j
      by_cases e1 : j = to
      · subst e1; rw [up_s, hR.s _ ht]
      · rw [up_n e1]
        by_cases e2 : j = k
        · subst e2; rw [up_s, hR.s _ hk]
        · rw [up_n e2, h.1 82 (by decide) (by decide) (by decide), up_n e1, up_n e2]
    · rw [up_o e, up_o e, h.1 t t1 t2 t3, up_o e, up_o e]
  refine c_in (L := [.ref 80, .int (nI k), .int (nI to), .int (nI v), .int (nI n), .null, .null, .null]) rfl rfl ?_
  refine r_s (pc' := 1) dX7_isBy_0 rfl rfl ?_
  refine r_gr (pc' := 4) dX7_isBy_1 rfl fX7_13 (hl_ rfl) rfl rfl ?_
  refine r_s (pc' := 5) dX7_isBy_4 rfl rfl ?_
  refine h_ald (pc' := 6) dX7_isBy_5 rfl (hl_ rfl) rfl (vp_in_nI (by omega) (by decide)) (nI_clamp (by omega)) ?_
  refine r_top (hR.s k hk) ?_
  refine r_st_5_8 (pc' := 8) dX7_isBy_6 rfl rfl rfl ?_
  refine r_s (pc' := 9) dX7_isBy_8 rfl rfl ?_
  refine r_gr (pc' := 12) dX7_isBy_9 rfl fX7_13 (hl_ rfl) rfl rfl ?_
  refine r_s (pc' := 13) dX7_isBy_12 rfl rfl ?_
  refine h_ald (pc' := 14) dX7_isBy_13 rfl (hl_ rfl) rfl (vp_in_nI (by omega) (by decide)) (nI_clamp (by omega)) ?_
  refine r_top (hR.s to ht) ?_
  refine r_st_6_8 (pc' := 16) dX7_isBy_14 rfl rfl rfl ?_
  refine r_s (pc' := 17) dX7_isBy_16 rfl rfl ?_
  refine r_s (pc' := 19) dX7_isBy_17 rfl rfl ?_
  refine r_cle (pc' := 22) (tgt := 24) dX7_isBy_19 rfl (by decide) (fun c19 => ?_) (fun c19 => ?_)
  · refine r_s (pc' := 25) dX7_isBy_24 rfl rfl ?_
    refine r_s (pc' := 26) dX7_isBy_25 rfl rfl ?_
    refine r_s (pc' := 27) dX7_isBy_26 rfl rfl ?_
    refine r_s (pc' := 28) dX7_isBy_27 rfl rfl ?_
    refine r_Vi3 (pc' := 31) dX7_isBy_28 rfl lX7_175 (hl_ rfl) rfl rfl rfl rfl (Nat.le_of_ble_eq_true rfl) (Nat.le_of_ble_eq_true rfl) (ct_X7_swept (by omega) (by omega) hne (hR.s k hk) (hR.s to ht) s1 s2 hv) (fun r28 h28 e28 => ?_)
    obtain ⟨rfl, rfl⟩ := e28
    refine r_s (pc' := 32) dX7_isBy_31 rfl rfl ?_
    refine r_s (pc' := 33) dX7_isBy_32 rfl rfl ?_
    refine r_s (pc' := 35) dX7_isBy_33 rfl rfl ?_
    refine r_Vi1 (pc' := 38) dX7_isBy_35 rfl lX7_208 (hl_ rfl) rfl rfl rfl rfl (Nat.le_of_ble_eq_true rfl) (Nat.le_of_ble_eq_true rfl) (ct_X7_isNobodyOut (rm := rm) (ρ := wsn ρ (swp (zs ρ) k to v)) (hR.swp k to v hne) (hw.us (swp_9 (fun j hj => hw.s9 hj) hk ht)) hz hn (by rw [up_o (by decide), up_o (by decide)]; exact hrm)) (fun r35 h35 e35 => ?_)
    rcases e35 with ⟨I1, rfl, a1, rfl, hb⟩ | ⟨I1, rfl, a1, rfl, hb⟩
    · refine r_st_7_8 (pc' := 40) dX7_isBy_38 rfl rfl rfl ?_
      refine r_s (pc' := 41) dX7_isBy_40 rfl rfl ?_
      refine r_gr (pc' := 44) dX7_isBy_41 rfl fX7_13 (hl_ rfl) rfl rfl ?_
      refine r_s (pc' := 45) dX7_isBy_44 rfl rfl ?_
      refine r_s (pc' := 47) dX7_isBy_45 rfl rfl ?_
      refine h_ast (pc' := 48) dX7_isBy_47 rfl (hl_ rfl) rfl (vp_in_nI (by omega) (by decide)) (nI_clamp (by omega)) ?_
      refine r_s (pc' := 49) dX7_isBy_48 rfl rfl ?_
      refine r_gr (pc' := 52) dX7_isBy_49 rfl fX7_13 (hl_ rfl) rfl rfl ?_
      refine r_s (pc' := 53) dX7_isBy_52 rfl rfl ?_
      refine r_s (pc' := 55) dX7_isBy_53 rfl rfl ?_
      refine h_ast (pc' := 56) dX7_isBy_55 rfl (hl_ rfl) rfl (vp_in_nI (by omega) (by decide)) (nI_clamp (by omega)) ?_
      refine r_s (pc' := 58) dX7_isBy_56 rfl rfl ?_
      refine r_reti dX7_isBy_58 rfl (rfl) (Nat.le_of_ble_eq_true rfl) (Nat.le_of_ble_eq_true rfl) ⟨_, rfl, ?_⟩
      exact Or.inl ⟨_, rfl, hfr I1 a1, rfl, by unfold byB; rw [decide_eq_true ((nI_leI (by omega) (by omega)).mp c19), hb]; rfl⟩
    · refine r_st_7_8 (pc' := 40) dX7_isBy_38 rfl rfl rfl ?_
      refine r_s (pc' := 41) dX7_isBy_40 rfl rfl ?_
      refine r_gr (pc' := 44) dX7_isBy_41 rfl fX7_13 (hl_ rfl) rfl rfl ?_
      refine r_s (pc' := 45) dX7_isBy_44 rfl rfl ?_
      refine r_s (pc' := 47) dX7_isBy_45 rfl rfl ?_
      refine h_ast (pc' := 48) dX7_isBy_47 rfl (hl_ rfl) rfl (vp_in_nI (by omega) (by decide)) (nI_clamp (by omega)) ?_
      refine r_s (pc' := 49) dX7_isBy_48 rfl rfl ?_
      refine r_gr (pc' := 52) dX7_isBy_49 rfl fX7_13 (hl_ rfl) rfl rfl ?_
      refine r_s (pc' := 53) dX7_isBy_52 rfl rfl ?_
      refine r_s (pc' := 55) dX7_isBy_53 rfl rfl ?_
      refine h_ast (pc' := 56) dX7_isBy_55 rfl (hl_ rfl) rfl (vp_in_nI (by omega) (by decide)) (nI_clamp (by omega)) ?_
      refine r_s (pc' := 58) dX7_isBy_56 rfl rfl ?_
      refine r_reti dX7_isBy_58 rfl (rfl) (Nat.le_of_ble_eq_true rfl) (Nat.le_of_ble_eq_true rfl) ⟨_, rfl, ?_⟩
      exact Or.inr ⟨_, rfl, hfr I1 a1, rfl, by unfold byB; rw [decide_eq_true ((nI_leI (by omega) (by omega)).mp c19), hb]; rfl⟩
  · refine r_c (pc' := 23) dX7_isBy_22 rfl kc_iconst_0 ?_
    refine r_reti dX7_isBy_23 rfl (rfl) (Nat.le_of_ble_eq_true rfl) (Nat.le_of_ble_eq_true rfl) ⟨_, rfl, ?_⟩
    exact Or.inr ⟨I, rfl, frM.rfl', rfl, by unfold byB; rw [decide_eq_false (fun h => c19 (nI_le h (by omega)))]; rfl⟩
