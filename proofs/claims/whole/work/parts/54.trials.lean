/-- all but the trials' own -/
def frT (I I' : Nat → Nat → Int32) : Prop := ∀ t, (t < 43 ∨ 71 < t) → I' t = I t
theorem CI.frT {I I' : Nat → Nat → Int32} {σ : zS} (h : CI I σ) (hf : frT I I') : CI I' σ := h.same (fun r hr => hf r (by unfold atC at hr; omega))
theorem frT.m {I I' : Nat → Nat → Int32} (hf : frT I I') : ∀ t, 80 ≤ t → I' t = I t := fun t ht => hf t (by omega)
theorem frT.tr {I J K : Nat → Nat → Int32} (h : frT I J) (h2 : frT J K) : frT I K := fun t ht => by rw [h2 t ht, h t ht]
theorem frN.t {I I' : Nat → Nat → Int32} (h : frN 50 I I') : frT I I' := fun t ht => h t (by omega)
theorem frN.tr {q : Nat} {I J K : Nat → Nat → Int32} (h : frN q I J) (h2 : frN q J K) : frN q I K := fun t ht => by rw [h2 t ht, h t ht]
theorem isDC.frN {I I' : Nat → Nat → Int32} {δ : zD} (h : isDC I δ) (hf : frN 50 I I') : isDC I' δ := h.same (fun r h1 h2 => hf r (by omega))
theorem isDC.frT {I I' : Nat → Nat → Int32} {δ : zD} (h : isDC I δ) (hf : frT I I') : isDC I' δ := h.same (fun r h1 h2 => hf r (by omega))
theorem isRd.frT {I I' : Nat → Nat → Int32} {ρ : zR} (h : isRd I 2 ρ) (hf : frT I I') : isRd I' 2 ρ := h.same (fun t t1 t2 => hf t (by omega))
/-- all but what stands at k of the trial's table a -/
def frY (a k : Nat) (J I : Nat → Nat → Int32) : Prop := (∀ t, (t < 50 ∨ 71 < t) → t ≠ a → I t = J t) ∧ ∀ j, j ≠ k → I a j = J a j
theorem frY_0 {a k : Nat} {I : Nat → Nat → Int32} : frY a k I I := ⟨fun _ _ _ => rfl, fun _ _ => rfl⟩
theorem frY_up {a k : Nat} {J I : Nat → Nat → Int32} (h : frY a k J I) (v : Int32) : frN 50 (sm_up J a k v) (sm_up I a k v) := fun t ht => by
  by_cases e : t = a
  · subst e
    funext j
    by_cases e2 : j = k
    · subst e2; rw [up_s, up_s]
    · rw [up_n e2, up_n e2]; exact h.2 j e2
  · rw [up_o e, up_o e]; exact h.1 t (by omega) e
theorem frY_of {a k : Nat} {J I : Nat → Nat → Int32} {v : Int32} (h : frN 50 (sm_up J a k v) I) (ha : a < 50) : frY a k J I :=
  ⟨fun t ht e => by rw [h t (by omega), up_o e], fun j hj => by rw [h a (by omega), up_n hj]⟩
theorem frY_end {a k : Nat} {J I : Nat → Nat → Int32} {v : Int32} (h : frY a k J I) (e : J a k = v) : frN 50 J (sm_up I a k v) := fun t ht => by
  by_cases e1 : t = a
  · subst e1
    funext j
    by_cases e2 : j = k
    · subst e2; rw [up_s, e]
    · rw [up_n e2]; exact h.2 j e2
  · rw [up_o e1]; exact h.1 t (by omega) e1
theorem frY_T {a k : Nat} {I J K : Nat → Nat → Int32} (h0 : ∀ r, (r < 43 ∨ 49 < r) → J r = I r) (h : frY a k J K) (ha : 43 ≤ a) (ha2 : a ≤ 49) : frT I K := fun t ht => by rw [h.1 t (by omega) (by omega), h0 t (by omega)]
theorem frN_T {I J K : Nat → Nat → Int32} (h0 : ∀ r, (r < 43 ∨ 49 < r) → J r = I r) (h : frN 50 J K) : frT I K := fun t ht => by rw [h t (by omega), h0 t (by omega)]
theorem mk_f {p : Nat → Bool} {i : Nat} (h : p i = false) : mk p (i + 1) = mk p i := by rw [mk, h]; rfl
theorem fmI_e {p : Nat → Bool} {n : Nat} (hn : n < 2 ^ 31) (h : fmI p n = -9) : decide (∃ j, j < n ∧ p j = true) = false := fmI_n hn (by rw [h]; decide)
theorem fmI_ne {p : Nat → Bool} {n : Nat} (hn : n < 2 ^ 31) (h : ¬ fmI p n = -9) : decide (∃ j, j < n ∧ p j = true) = true := fmI_p (fun h2 => by
  unfold fmI at h h2
  by_cases h1 : fa_first p n < n
  · rw [if_pos h1] at h2; exact nI_pos (by omega) h2
  · rw [if_neg h1] at h; exact h rfl)

set_option maxHeartbeats 4000000 in
set_option maxRecDepth 100000 in
theorem lp_X1_areSo {d : Nat} {Q : sm_Q} {x : hX} {ρ : zR} {δ : zD} {rm : Nat} {I : Nat → Nat → Int32} (hN : isN 50 43) (hD : isDC I δ) (hw : wfR ρ) (hW : wfD ρ δ) (hS : ∀ j, j ≤ zn ρ → NR I 50 ρ j (sim ρ rm (zw ρ) j)) (hQ1 : arB ρ rm δ = true → Q (some (.int 1)) (hp x I)) (hQ0 : arB ρ rm δ = false → Q (some (.int 0)) (hp x I)) : ∀ (m i : Nat) , i + m = δ.1 → (∀ r, r < i → okx ρ rm δ r) → sm_wp (sm_c (d + 1)) 0 0 MX1_areSo Q 2 [.ref 38, .ref 50, .int (nI i)] [] (hp x I) 0 0 := by
  have b6 : zi ρ ≤ 6 := hw.1
  have b8 : zn ρ ≤ 8 := hw.2.1
  have bg : zg ρ ≤ 8 := hw.2.2.1
  have bl : zl ρ ≤ 1 := hw.2.2.2.1
  have d8 : δ.1 ≤ 8 := hW.1
  intro m
  induction m with
  | zero =>
    intro i  hi h1
    have hi : i = δ.1 := by omega
    refine r_s (pc' := 3) dX1_areSo_2 rfl rfl ?_
    refine r_s (pc' := 4) dX1_areSo_3 rfl rfl ?_
    refine h_gi (pc' := 7) dX1_areSo_4 rfl fX1_9 (hl_ rfl) rfl ?_
    refine r_top (hD.1) ?_
    refine r_cge_t (tgt := 45) dX1_areSo_7 (by decide) (by rw [hi]; exact Int32.le_refl _) ?_
    refine r_c (pc' := 46) dX1_areSo_45 rfl kc_iconst_1 ?_
    refine r_reti dX1_areSo_46 rfl (rfl) (Nat.le_of_ble_eq_true rfl) (Nat.le_of_ble_eq_true rfl) ?_
    rw [hi] at h1; exact hQ1 (arB_t h1)
  | succ m ih =>
    intro i  hi h1
    have hx := hW.2 i (by omega)
    refine r_s (pc' := 3) dX1_areSo_2 rfl rfl ?_
    refine r_s (pc' := 4) dX1_areSo_3 rfl rfl ?_
    refine h_gi (pc' := 7) dX1_areSo_4 rfl fX1_9 (hl_ rfl) rfl ?_
    refine r_top (hD.1) ?_
    refine r_cge_f (pc' := 10) (tgt := 45) dX1_areSo_7 rfl (by decide) (nI_ge (by omega) (by omega)) ?_
    refine r_s (pc' := 11) dX1_areSo_10 rfl rfl ?_
    refine r_s (pc' := 12) dX1_areSo_11 rfl rfl ?_
    refine r_gr (pc' := 15) dX1_areSo_12 rfl fX1_15 (hl_ rfl) rfl rfl ?_
    refine r_s (pc' := 16) dX1_areSo_15 rfl rfl ?_
    refine h_ald (pc' := 17) dX1_areSo_16 rfl (hl_ rfl) rfl (vp_in_nI (by omega) (by decide)) (nI_clamp (by omega)) ?_
    refine r_top ((hD.2 i (by omega)).1) ?_
    refine r_s (pc' := 18) dX1_areSo_17 rfl rfl ?_
    refine r_gr (pc' := 21) dX1_areSo_18 rfl fX1_19 (hl_ rfl) rfl rfl ?_
    refine r_s (pc' := 22) dX1_areSo_21 rfl rfl ?_
    refine h_ald (pc' := 23) dX1_areSo_22 rfl (hl_ rfl) rfl (vp_in_nI (by omega) (by decide)) (nI_clamp (by omega)) ?_
    refine r_top ((hD.2 i (by omega)).2.1) ?_
    refine r_s (pc' := 24) dX1_areSo_23 rfl rfl ?_
    refine r_gr (pc' := 27) dX1_areSo_24 rfl fX1_22 (hl_ rfl) rfl rfl ?_
    refine r_s (pc' := 28) dX1_areSo_27 rfl rfl ?_
    refine h_ald (pc' := 29) dX1_areSo_28 rfl (hl_ rfl) rfl (vp_in_nI (by omega) (by decide)) (nI_clamp (by omega)) ?_
    refine r_top ((hD.2 i (by omega)).2.2) ?_
    refine r_c (pc' := 30) dX1_areSo_29 rfl kc_iconst_1 ?_
    refine r_s (pc' := 31) dX1_areSo_30 rfl rfl ?_
    refine r_top (nI_1 _) ?_
    refine r_Vi3 (pc' := 34) dX1_areSo_31 rfl lX1_25 (hl_ rfl) rfl rfl rfl rfl (Nat.le_of_ble_eq_true rfl) (Nat.le_of_ble_eq_true rfl) (ct_X0_isAt hN (by omega) (by omega) (by omega) (mA_lt bg) ((hS _ (by omega)).2.1 _ hx.2.1)) (fun r31 h31 e31 => ?_)
    rcases e31 with ⟨rfl, rfl, hb⟩ | ⟨rfl, rfl, hb⟩
    · refine r_ifne_t (tgt := 39) dX1_areSo_34 (by decide) (by decide) ?_
      refine r_in_2_3 (pc' := 42) dX1_areSo_39 rfl rfl (i1 _) ?_
      refine r_goto (tgt := 2) dX1_areSo_42 (by decide) ?_
      refine ih (i + 1) (by omega) (fun r hr => ?_)
      by_cases e : r = i
      · subst e; rw [mA_bit, decide_eq_true hx.1, Bool.true_and] at hb; unfold okx; exact of_decide_eq_true hb
      · exact h1 r (by omega)
    · refine r_ifne_f (pc' := 37) (tgt := 39) dX1_areSo_34 rfl (by decide) (by decide) ?_
      refine r_c (pc' := 38) dX1_areSo_37 rfl kc_iconst_0 ?_
      refine r_reti dX1_areSo_38 rfl (rfl) (Nat.le_of_ble_eq_true rfl) (Nat.le_of_ble_eq_true rfl) ?_
      exact hQ0 (arB_f (r := i) (by omega) (fun h => by unfold okx at h; rw [mA_bit, decide_eq_true hx.1, decide_eq_true h] at hb; cases hb))

set_option maxHeartbeats 4000000 in
set_option maxRecDepth 100000 in
theorem ct_X1_areSo {d : Nat} {x : hX} {I : Nat → Nat → Int32} {ρ : zR} {δ : zD} {rm : Nat} (hN : isN 50 43) (hD : isDC I δ) (hw : wfR ρ) (hW : wfD ρ δ) (hS : ∀ j, j ≤ zn ρ → NR I 50 ρ j (sim ρ rm (zw ρ) j)) : ci (d + 2) MX1_areSo [.ref 38, .ref 50] (hp x I) (fun r h' => (h' = hp x I ∧ r = 1 ∧ arB ρ rm δ = true) ∨ (h' = hp x I ∧ r = 0 ∧ arB ρ rm δ = false)) := by
  refine c_in (L := [.ref 38, .ref 50, .null]) rfl rfl ?_
  refine r_c (pc' := 1) dX1_areSo_0 rfl kc_iconst_0 ?_
  refine r_st_2_3 (pc' := 2) dX1_areSo_1 rfl rfl rfl ?_
  exact lp_X1_areSo hN hD hw hW hS (fun e => ⟨_, rfl, Or.inl ⟨rfl, rfl, e⟩⟩) (fun e => ⟨_, rfl, Or.inr ⟨rfl, rfl, e⟩⟩) δ.1 0 (by omega) (fun r hr => absurd hr (by omega))

set_option maxHeartbeats 4000000 in
set_option maxRecDepth 100000 in
theorem ct_X5_bitIfFit {d : Nat} {x : hX} {I : Nat → Nat → Int32} {ρ : zR} {δ : zD} {rm : Nat} {v : Nat} (hR : isRd I 43 ρ) (hw : wfR ρ) (hz : 0 < zi ρ) (hrm : I 43 10 = rmI rm) (hD : isDC I δ) (hW : wfD ρ δ) (hv : v < 31) : ci (d + 5) MX5_bitIfFit [.ref 42, .int (nI v)] (hp x I) (fun r h' => (∃ I', h' = hp x I' ∧ frN 50 I I' ∧ r = nI (2 ^ v) ∧ arB ρ rm δ = true) ∨ (∃ I', h' = hp x I' ∧ frN 50 I I' ∧ r = 0 ∧ arB ρ rm δ = false)) := by
  have b6 : zi ρ ≤ 6 := hw.1
  have b8 : zn ρ ≤ 8 := hw.2.1
  have bg : zg ρ ≤ 8 := hw.2.2.1
  have bl : zl ρ ≤ 1 := hw.2.2.2.1
  have hN : isN 50 43 := Or.inr ⟨rfl, rfl⟩
  refine c_in (L := [.ref 42, .int (nI v)]) rfl rfl ?_
  refine r_s (pc' := 1) dX5_bitIfFit_0 rfl rfl ?_
  refine r_gr (pc' := 4) dX5_bitIfFit_1 rfl fX5_23 (hl_ rfl) rfl rfl ?_
  refine r_s (pc' := 5) dX5_bitIfFit_4 rfl rfl ?_
  refine r_gr (pc' := 8) dX5_bitIfFit_5 rfl fX5_12 (hl_ rfl) rfl rfl ?_
  refine h_gi (pc' := 11) dX5_bitIfFit_8 rfl fX5_98 (hl_ rfl) rfl ?_
  refine r_top (hR.2.1) ?_
  refine r_Vv1 (pc' := 14) dX5_bitIfFit_11 rfl lX5_74 (hl_ rfl) rfl rfl rfl rfl (Nat.le_of_ble_eq_true rfl) (Nat.le_of_ble_eq_true rfl) (ct_X0_run (rm := rm) hN hR hw hz hrm (Nat.le_refl _)) (fun h11 e11 => ?_)
  obtain ⟨I1, rfl, g1, g2⟩ := e11
  refine r_s (pc' := 15) dX5_bitIfFit_14 rfl rfl ?_
  refine r_gr (pc' := 18) dX5_bitIfFit_15 rfl fX5_30 (hl_ rfl) rfl rfl ?_
  refine r_s (pc' := 19) dX5_bitIfFit_18 rfl rfl ?_
  refine r_gr (pc' := 22) dX5_bitIfFit_19 rfl fX5_23 (hl_ rfl) rfl rfl ?_
  refine r_Vi1 (pc' := 25) dX5_bitIfFit_22 rfl lX5_100 (hl_ rfl) rfl rfl rfl rfl (Nat.le_of_ble_eq_true rfl) (Nat.le_of_ble_eq_true rfl) (ct_X1_areSo hN (hD.frN g2) hw hW g1) (fun r22 h22 e22 => ?_)
  rcases e22 with ⟨rfl, rfl, hb⟩ | ⟨rfl, rfl, hb⟩
  · refine r_ifeq_f (pc' := 28) (tgt := 34) dX5_bitIfFit_25 rfl (by decide) (by decide) ?_
    refine r_c (pc' := 29) dX5_bitIfFit_28 rfl kc_iconst_1 ?_
    refine r_s (pc' := 30) dX5_bitIfFit_29 rfl rfl ?_
    refine r_s (pc' := 31) dX5_bitIfFit_30 rfl rfl ?_
    refine r_top (sh1 hv) ?_
    refine r_goto (tgt := 35) dX5_bitIfFit_31 (by decide) ?_
    refine r_reti dX5_bitIfFit_35 rfl (rfl) (Nat.le_of_ble_eq_true rfl) (Nat.le_of_ble_eq_true rfl) ⟨_, rfl, ?_⟩
    exact Or.inl ⟨I1, rfl, g2, rfl, hb⟩
  · refine r_ifeq_t (tgt := 34) dX5_bitIfFit_25 (by decide) (by decide) ?_
    refine r_c (pc' := 35) dX5_bitIfFit_34 rfl kc_iconst_0 ?_
    refine r_reti dX5_bitIfFit_35 rfl (rfl) (Nat.le_of_ble_eq_true rfl) (Nat.le_of_ble_eq_true rfl) ⟨_, rfl, ?_⟩
    exact Or.inr ⟨I1, rfl, g2, rfl, hb⟩

set_option maxHeartbeats 4000000 in
set_option maxRecDepth 100000 in
theorem lp_X5_rulesThatFit {d : Nat} {Q : sm_Q} {x : hX} {ρ : zR} {δ : zD} {J : Nat → Nat → Int32} (hR : isRd J 43 ρ) (hD : isDC J δ) (hw : wfR ρ) (hW : wfD ρ δ) (hz : 0 < zi ρ) (hck : J 43 10 = rmI 6) (hQ : ∀ I, frY 43 9 J I → Q (some (.int (nI (mk (fun v => arB (wl ρ v) 6 δ) 2)))) (hp x I)) : ∀ (m i : Nat) (I : Nat → Nat → Int32), i + m = 2 → frY 43 9 J I → sm_wp (sm_c (d + 5)) 0 0 MX5_rulesThatFit Q 15 [.ref 42, .int (nI (mk (fun v => arB (wl ρ v) 6 δ) i)), .int (nI i)] [] (hp x I) 0 0 := by
  have b6 : zi ρ ≤ 6 := hw.1
  have b8 : zn ρ ≤ 8 := hw.2.1
  have bg : zg ρ ≤ 8 := hw.2.2.1
  have bl : zl ρ ≤ 1 := hw.2.2.2.1
  have hN : isN 50 43 := Or.inr ⟨rfl, rfl⟩
  intro m
  induction m with
  | zero =>
    intro i I hi h2
    have hi : i = 2 := by omega
    refine r_s (pc' := 16) dX5_rulesThatFit_15 rfl rfl ?_
    refine r_c (pc' := 17) dX5_rulesThatFit_16 rfl kc_iconst_2 ?_
    refine r_cge_t (tgt := 42) dX5_rulesThatFit_17 (by decide) (by rw [hi]; exact Int32.le_refl _) ?_
    refine r_s (pc' := 43) dX5_rulesThatFit_42 rfl rfl ?_
    refine r_reti dX5_rulesThatFit_43 rfl (rfl) (Nat.le_of_ble_eq_true rfl) (Nat.le_of_ble_eq_true rfl) ?_
    rw [hi]; exact hQ _ h2
  | succ m ih =>
    intro i I hi h2
    have hx10 : I 43 10 = rmI 6 := by rw [h2.2 10 (by decide)]; exact hck
    refine r_s (pc' := 16) dX5_rulesThatFit_15 rfl rfl ?_
    refine r_c (pc' := 17) dX5_rulesThatFit_16 rfl kc_iconst_2 ?_
    refine r_cge_f (pc' := 20) (tgt := 42) dX5_rulesThatFit_17 rfl (by decide) (nI_ge (b := 2) (by omega) (by decide)) ?_
    refine r_s (pc' := 21) dX5_rulesThatFit_20 rfl rfl ?_
    refine r_gr (pc' := 24) dX5_rulesThatFit_21 rfl fX5_12 (hl_ rfl) rfl rfl ?_
    refine r_s (pc' := 25) dX5_rulesThatFit_24 rfl rfl ?_
    refine h_pi (pc' := 28) dX5_rulesThatFit_25 rfl fX5_86 rfl (hl_ rfl) rfl ?_
    refine r_s (pc' := 29) dX5_rulesThatFit_28 rfl rfl ?_
    refine r_s (pc' := 30) dX5_rulesThatFit_29 rfl rfl ?_
    refine r_s (pc' := 31) dX5_rulesThatFit_30 rfl rfl ?_
    refine r_Vi1 (pc' := 34) dX5_rulesThatFit_31 rfl lX5_89 (hl_ rfl) rfl rfl rfl rfl (Nat.le_of_ble_eq_true rfl) (Nat.le_of_ble_eq_true rfl) (ct_X5_bitIfFit (rm := 6) (ρ := wl ρ i) ((hR.u_l i).frN hN (frY_up h2 (nI i))) (hw.ul (by omega)) hz (by rw [up_n (by decide)]; exact hx10) (isDC.frN (I := sm_up J 43 9 (nI i)) (hD.same (fun r r1 r2 => up_o (by omega))) (frY_up h2 (nI i))) hW (by omega)) (fun r31 h31 e31 => ?_)
    rcases e31 with ⟨I1, rfl, a2, rfl, hb⟩ | ⟨I1, rfl, a2, rfl, hb⟩
    · refine r_s (pc' := 35) dX5_rulesThatFit_34 rfl rfl ?_
      refine r_top (show _ = nI (mk (fun v => arB (wl ρ v) 6 δ) (i + 1)) from or_t (p := (fun v => arB (wl ρ v) 6 δ)) hb) ?_
      refine r_st_1_3 (pc' := 36) dX5_rulesThatFit_35 rfl rfl rfl ?_
      refine r_in_2_3 (pc' := 39) dX5_rulesThatFit_36 rfl rfl (i1 _) ?_
      refine r_goto (tgt := 15) dX5_rulesThatFit_39 (by decide) ?_
      exact ih (i + 1) I1 (by omega) (frY_of ((frY_up h2 (nI i)).tr a2) (by decide))
    · refine r_s (pc' := 35) dX5_rulesThatFit_34 rfl rfl ?_
      refine r_top (show _ = nI (mk (fun v => arB (wl ρ v) 6 δ) (i + 1)) from or_f (p := (fun v => arB (wl ρ v) 6 δ)) hb) ?_
      refine r_st_1_3 (pc' := 36) dX5_rulesThatFit_35 rfl rfl rfl ?_
      refine r_in_2_3 (pc' := 39) dX5_rulesThatFit_36 rfl rfl (i1 _) ?_
      refine r_goto (tgt := 15) dX5_rulesThatFit_39 (by decide) ?_
      exact ih (i + 1) I1 (by omega) (frY_of ((frY_up h2 (nI i)).tr a2) (by decide))

set_option maxHeartbeats 4000000 in
set_option maxRecDepth 100000 in
theorem ct_X5_rulesThatFit {d : Nat} {x : hX} {I : Nat → Nat → Int32} {ρ : zR} {δ : zD} (hR : isRd I 2 ρ) (hD : isDC I δ) (hw : wfR ρ) (hW : wfD ρ δ) (hz : 0 < zi ρ) (hck : I 2 10 = rmI 6) : ci (d + 6) MX5_rulesThatFit [.ref 42] (hp x I) (fun r h' => ∃ I', h' = hp x I' ∧ frT I I' ∧ r = nI (mk (fun v => arB (wl ρ v) 6 δ) 2)) := by
  refine c_in (L := [.ref 42, .null, .null]) rfl rfl ?_
  refine r_s (pc' := 1) dX5_rulesThatFit_0 rfl rfl ?_
  refine r_gr (pc' := 4) dX5_rulesThatFit_1 rfl fX5_12 (hl_ rfl) rfl rfl ?_
  refine r_s (pc' := 5) dX5_rulesThatFit_4 rfl rfl ?_
  refine r_gr (pc' := 8) dX5_rulesThatFit_5 rfl fX5_27 (hl_ rfl) rfl rfl ?_
  refine r_Vv1 (pc' := 11) dX5_rulesThatFit_8 rfl lX5_34 (hl_ rfl) rfl rfl rfl rfl (Nat.le_of_ble_eq_true rfl) (Nat.le_of_ble_eq_true rfl) (ct_X2_become_43 hR hw) (fun h8 e8 => ?_)
  obtain ⟨I1, rfl, b1, b2, b3⟩ := e8
  refine r_c (pc' := 12) dX5_rulesThatFit_11 rfl kc_iconst_0 ?_
  refine r_st_1_3 (pc' := 13) dX5_rulesThatFit_12 rfl rfl rfl ?_
  refine r_c (pc' := 14) dX5_rulesThatFit_13 rfl kc_iconst_0 ?_
  refine r_st_2_3 (pc' := 15) dX5_rulesThatFit_14 rfl rfl rfl ?_
  exact lp_X5_rulesThatFit (J := I1) b2 (hD.same (fun r r1 r2 => b1 r (by omega))) hw hW hz (by rw [b3]; exact hck) (fun I2 g2 => ⟨_, rfl, I2, rfl, frY_T b1 g2 (by decide) (by decide), rfl⟩) 2 0 I1 (by omega) frY_0

set_option maxHeartbeats 4000000 in
set_option maxRecDepth 100000 in
theorem lp_X5_kindsThatFit {d : Nat} {Q : sm_Q} {x : hX} {ρ : zR} {δ : zD} {J : Nat → Nat → Int32} (hR : isRd J 43 ρ) (hD : isDC J δ) (hw : wfR ρ) (hW : wfD ρ δ) (hz : 0 < zi ρ) (hck : J 43 10 = rmI 6) {k : Nat} (hk : k < zi ρ) (hQ : ∀ I, frY 44 k J I → Q (some (.int (nI (mk (fun v => arB (wk ρ (fup (zk ρ) k v)) 6 δ) 3)))) (hp x I)) : ∀ (m i : Nat) (I : Nat → Nat → Int32), i + m = 3 → frY 44 k J I → sm_wp (sm_c (d + 5)) 0 0 MX5_kindsThatFit Q 15 [.ref 42, .int (nI k), .int (nI (mk (fun v => arB (wk ρ (fup (zk ρ) k v)) 6 δ) i)), .int (nI i)] [] (hp x I) 0 0 := by
  have b6 : zi ρ ≤ 6 := hw.1
  have b8 : zn ρ ≤ 8 := hw.2.1
  have bg : zg ρ ≤ 8 := hw.2.2.1
  have bl : zl ρ ≤ 1 := hw.2.2.2.1
  have hN : isN 50 43 := Or.inr ⟨rfl, rfl⟩
  intro m
  induction m with
  | zero =>
    intro i I hi h2
    have hi : i = 3 := by omega
    refine r_s (pc' := 16) dX5_kindsThatFit_15 rfl rfl ?_
    refine r_c (pc' := 17) dX5_kindsThatFit_16 rfl kc_iconst_3 ?_
    refine r_cge_t (tgt := 44) dX5_kindsThatFit_17 (by decide) (by rw [hi]; exact Int32.le_refl _) ?_
    refine r_s (pc' := 45) dX5_kindsThatFit_44 rfl rfl ?_
    refine r_reti dX5_kindsThatFit_45 rfl (rfl) (Nat.le_of_ble_eq_true rfl) (Nat.le_of_ble_eq_true rfl) ?_
    rw [hi]; exact hQ _ h2
  | succ m ih =>
    intro i I hi h2
    have hx10 : I 43 10 = rmI 6 := by rw [h2.1 43 (by omega) (by decide)]; exact hck
    refine r_s (pc' := 16) dX5_kindsThatFit_15 rfl rfl ?_
    refine r_c (pc' := 17) dX5_kindsThatFit_16 rfl kc_iconst_3 ?_
    refine r_cge_f (pc' := 20) (tgt := 44) dX5_kindsThatFit_17 rfl (by decide) (nI_ge (b := 3) (by omega) (by decide)) ?_
    refine r_s (pc' := 21) dX5_kindsThatFit_20 rfl rfl ?_
    refine r_gr (pc' := 24) dX5_kindsThatFit_21 rfl fX5_12 (hl_ rfl) rfl rfl ?_
    refine r_gr (pc' := 27) dX5_kindsThatFit_24 rfl fX5_92 (hl_ rfl) rfl rfl ?_
    refine r_s (pc' := 28) dX5_kindsThatFit_27 rfl rfl ?_
    refine r_s (pc' := 29) dX5_kindsThatFit_28 rfl rfl ?_
    refine h_ast (pc' := 30) dX5_kindsThatFit_29 rfl (hl_ rfl) rfl (vp_in_nI (by omega) (by decide)) (nI_clamp (by omega)) ?_
    refine r_s (pc' := 31) dX5_kindsThatFit_30 rfl rfl ?_
    refine r_s (pc' := 32) dX5_kindsThatFit_31 rfl rfl ?_
    refine r_s (pc' := 33) dX5_kindsThatFit_32 rfl rfl ?_
    refine r_Vi1 (pc' := 36) dX5_kindsThatFit_33 rfl lX5_89 (hl_ rfl) rfl rfl rfl rfl (Nat.le_of_ble_eq_true rfl) (Nat.le_of_ble_eq_true rfl) (ct_X5_bitIfFit (rm := 6) (ρ := wk ρ (fup (zk ρ) k i)) ((hR.u_k k i).frN hN (frY_up h2 (nI i))) (hw.uk (fup_le (fun j hj => hw.2.2.2.2.2.2.1 j hj) (by omega))) hz (by rw [up_o (by decide)]; exact hx10) (isDC.frN (I := sm_up J 44 k (nI i)) (hD.same (fun r r1 r2 => up_o (by omega))) (frY_up h2 (nI i))) hW (by omega)) (fun r33 h33 e33 => ?_)
    rcases e33 with ⟨I1, rfl, a2, rfl, hb⟩ | ⟨I1, rfl, a2, rfl, hb⟩
    · refine r_s (pc' := 37) dX5_kindsThatFit_36 rfl rfl ?_
      refine r_top (show _ = nI (mk (fun v => arB (wk ρ (fup (zk ρ) k v)) 6 δ) (i + 1)) from or_t (p := (fun v => arB (wk ρ (fup (zk ρ) k v)) 6 δ)) hb) ?_
      refine r_st_2_4 (pc' := 38) dX5_kindsThatFit_37 rfl rfl rfl ?_
      refine r_in_3_4 (pc' := 41) dX5_kindsThatFit_38 rfl rfl (i1 _) ?_
      refine r_goto (tgt := 15) dX5_kindsThatFit_41 (by decide) ?_
      exact ih (i + 1) I1 (by omega) (frY_of ((frY_up h2 (nI i)).tr a2) (by decide))
    · refine r_s (pc' := 37) dX5_kindsThatFit_36 rfl rfl ?_
      refine r_top (show _ = nI (mk (fun v => arB (wk ρ (fup (zk ρ) k v)) 6 δ) (i + 1)) from or_f (p := (fun v => arB (wk ρ (fup (zk ρ) k v)) 6 δ)) hb) ?_
      refine r_st_2_4 (pc' := 38) dX5_kindsThatFit_37 rfl rfl rfl ?_
      refine r_in_3_4 (pc' := 41) dX5_kindsThatFit_38 rfl rfl (i1 _) ?_
      refine r_goto (tgt := 15) dX5_kindsThatFit_41 (by decide) ?_
      exact ih (i + 1) I1 (by omega) (frY_of ((frY_up h2 (nI i)).tr a2) (by decide))

set_option maxHeartbeats 4000000 in
set_option maxRecDepth 100000 in
theorem ct_X5_kindsThatFit {d : Nat} {x : hX} {I : Nat → Nat → Int32} {ρ : zR} {δ : zD} (hR : isRd I 2 ρ) (hD : isDC I δ) (hw : wfR ρ) (hW : wfD ρ δ) (hz : 0 < zi ρ) (hck : I 2 10 = rmI 6) {k : Nat} (hk : k < zi ρ) : ci (d + 6) MX5_kindsThatFit [.ref 42, .int (nI k)] (hp x I) (fun r h' => ∃ I', h' = hp x I' ∧ frT I I' ∧ r = nI (mk (fun v => arB (wk ρ (fup (zk ρ) k v)) 6 δ) 3)) := by
  refine c_in (L := [.ref 42, .int (nI k), .null, .null]) rfl rfl ?_
  refine r_s (pc' := 1) dX5_kindsThatFit_0 rfl rfl ?_
  refine r_gr (pc' := 4) dX5_kindsThatFit_1 rfl fX5_12 (hl_ rfl) rfl rfl ?_
  refine r_s (pc' := 5) dX5_kindsThatFit_4 rfl rfl ?_
  refine r_gr (pc' := 8) dX5_kindsThatFit_5 rfl fX5_27 (hl_ rfl) rfl rfl ?_
  refine r_Vv1 (pc' := 11) dX5_kindsThatFit_8 rfl lX5_34 (hl_ rfl) rfl rfl rfl rfl (Nat.le_of_ble_eq_true rfl) (Nat.le_of_ble_eq_true rfl) (ct_X2_become_43 hR hw) (fun h8 e8 => ?_)
  obtain ⟨I1, rfl, b1, b2, b3⟩ := e8
  refine r_c (pc' := 12) dX5_kindsThatFit_11 rfl kc_iconst_0 ?_
  refine r_st_2_4 (pc' := 13) dX5_kindsThatFit_12 rfl rfl rfl ?_
  refine r_c (pc' := 14) dX5_kindsThatFit_13 rfl kc_iconst_0 ?_
  refine r_st_3_4 (pc' := 15) dX5_kindsThatFit_14 rfl rfl rfl ?_
  exact lp_X5_kindsThatFit (J := I1) b2 (hD.same (fun r r1 r2 => b1 r (by omega))) hw hW hz (by rw [b3]; exact hck) hk (fun I2 g2 => ⟨_, rfl, I2, rfl, frY_T b1 g2 (by decide) (by decide), rfl⟩) 3 0 I1 (by omega) frY_0

set_option maxHeartbeats 4000000 in
set_option maxRecDepth 100000 in
theorem lp_X5_depthsThatFit {d : Nat} {Q : sm_Q} {x : hX} {ρ : zR} {δ : zD} {J : Nat → Nat → Int32} (hR : isRd J 43 ρ) (hD : isDC J δ) (hw : wfR ρ) (hW : wfD ρ δ) (hz : 0 < zi ρ) (hck : J 43 10 = rmI 6) {k : Nat} (hk : k < zi ρ) (hQ : ∀ I, frY 45 k J I → Q (some (.int (nI (mk (fun v => arB (wsn ρ (fup (zs ρ) k v)) 6 δ) 10)))) (hp x I)) : ∀ (m i : Nat) (I : Nat → Nat → Int32), i + m = 10 → frY 45 k J I → sm_wp (sm_c (d + 5)) 0 0 MX5_depthsThatFit Q 15 [.ref 42, .int (nI k), .int (nI (mk (fun v => arB (wsn ρ (fup (zs ρ) k v)) 6 δ) i)), .int (nI i)] [] (hp x I) 0 0 := by
  have b6 : zi ρ ≤ 6 := hw.1
  have b8 : zn ρ ≤ 8 := hw.2.1
  have bg : zg ρ ≤ 8 := hw.2.2.1
  have bl : zl ρ ≤ 1 := hw.2.2.2.1
  have hN : isN 50 43 := Or.inr ⟨rfl, rfl⟩
  intro m
  induction m with
  | zero =>
    intro i I hi h2
    have hi : i = 10 := by omega
    refine r_s (pc' := 16) dX5_depthsThatFit_15 rfl rfl ?_
    refine r_c (pc' := 18) dX5_depthsThatFit_16 rfl kc_bipush_9 ?_
    refine r_cgt_t (tgt := 45) dX5_depthsThatFit_18 (by decide) (by rw [hi]; exact (by decide : nI 9 < nI 10)) ?_
    refine r_s (pc' := 46) dX5_depthsThatFit_45 rfl rfl ?_
    refine r_reti dX5_depthsThatFit_46 rfl (rfl) (Nat.le_of_ble_eq_true rfl) (Nat.le_of_ble_eq_true rfl) ?_
    rw [hi]; exact hQ _ h2
  | succ m ih =>
    intro i I hi h2
    have hx10 : I 43 10 = rmI 6 := by rw [h2.1 43 (by omega) (by decide)]; exact hck
    refine r_s (pc' := 16) dX5_depthsThatFit_15 rfl rfl ?_
    refine r_c (pc' := 18) dX5_depthsThatFit_16 rfl kc_bipush_9 ?_
    refine r_cgt_f (pc' := 21) (tgt := 45) dX5_depthsThatFit_18 rfl (by decide) (nI_nlt (b := i) (a := 9) (by omega) (by decide)) ?_
    refine r_s (pc' := 22) dX5_depthsThatFit_21 rfl rfl ?_
    refine r_gr (pc' := 25) dX5_depthsThatFit_22 rfl fX5_12 (hl_ rfl) rfl rfl ?_
    refine r_gr (pc' := 28) dX5_depthsThatFit_25 rfl fX5_52 (hl_ rfl) rfl rfl ?_
    refine r_s (pc' := 29) dX5_depthsThatFit_28 rfl rfl ?_
    refine r_s (pc' := 30) dX5_depthsThatFit_29 rfl rfl ?_
    refine h_ast (pc' := 31) dX5_depthsThatFit_30 rfl (hl_ rfl) rfl (vp_in_nI (by omega) (by decide)) (nI_clamp (by omega)) ?_
    refine r_s (pc' := 32) dX5_depthsThatFit_31 rfl rfl ?_
    refine r_s (pc' := 33) dX5_depthsThatFit_32 rfl rfl ?_
    refine r_s (pc' := 34) dX5_depthsThatFit_33 rfl rfl ?_
    refine r_Vi1 (pc' := 37) dX5_depthsThatFit_34 rfl lX5_89 (hl_ rfl) rfl rfl rfl rfl (Nat.le_of_ble_eq_true rfl) (Nat.le_of_ble_eq_true rfl) (ct_X5_bitIfFit (rm := 6) (ρ := wsn ρ (fup (zs ρ) k i)) ((hR.u_s k i).frN hN (frY_up h2 (nI i))) (hw.us (fup_le (fun j hj => hw.s9 hj) (by omega))) hz (by rw [up_o (by decide)]; exact hx10) (isDC.frN (I := sm_up J 45 k (nI i)) (hD.same (fun r r1 r2 => up_o (by omega))) (frY_up h2 (nI i))) hW (by omega)) (fun r34 h34 e34 => ?_)
    rcases e34 with ⟨I1, rfl, a2, rfl, hb⟩ | ⟨I1, rfl, a2, rfl, hb⟩
    · refine r_s (pc' := 38) dX5_depthsThatFit_37 rfl rfl ?_
      refine r_top (show _ = nI (mk (fun v => arB (wsn ρ (fup (zs ρ) k v)) 6 δ) (i + 1)) from or_t (p := (fun v => arB (wsn ρ (fup (zs ρ) k v)) 6 δ)) hb) ?_
      refine r_st_2_4 (pc' := 39) dX5_depthsThatFit_38 rfl rfl rfl ?_
      refine r_in_3_4 (pc' := 42) dX5_depthsThatFit_39 rfl rfl (i1 _) ?_
      refine r_goto (tgt := 15) dX5_depthsThatFit_42 (by decide) ?_
      exact ih (i + 1) I1 (by omega) (frY_of ((frY_up h2 (nI i)).tr a2) (by decide))
    · refine r_s (pc' := 38) dX5_depthsThatFit_37 rfl rfl ?_
      refine r_top (show _ = nI (mk (fun v => arB (wsn ρ (fup (zs ρ) k v)) 6 δ) (i + 1)) from or_f (p := (fun v => arB (wsn ρ (fup (zs ρ) k v)) 6 δ)) hb) ?_
      refine r_st_2_4 (pc' := 39) dX5_depthsThatFit_38 rfl rfl rfl ?_
      refine r_in_3_4 (pc' := 42) dX5_depthsThatFit_39 rfl rfl (i1 _) ?_
      refine r_goto (tgt := 15) dX5_depthsThatFit_42 (by decide) ?_
      exact ih (i + 1) I1 (by omega) (frY_of ((frY_up h2 (nI i)).tr a2) (by decide))

set_option maxHeartbeats 4000000 in
set_option maxRecDepth 100000 in
theorem ct_X5_depthsThatFit {d : Nat} {x : hX} {I : Nat → Nat → Int32} {ρ : zR} {δ : zD} (hR : isRd I 2 ρ) (hD : isDC I δ) (hw : wfR ρ) (hW : wfD ρ δ) (hz : 0 < zi ρ) (hck : I 2 10 = rmI 6) {k : Nat} (hk : k < zi ρ) : ci (d + 6) MX5_depthsThatFit [.ref 42, .int (nI k)] (hp x I) (fun r h' => ∃ I', h' = hp x I' ∧ frT I I' ∧ r = nI (mk (fun v => arB (wsn ρ (fup (zs ρ) k v)) 6 δ) 10)) := by
  refine c_in (L := [.ref 42, .int (nI k), .null, .null]) rfl rfl ?_
  refine r_s (pc' := 1) dX5_depthsThatFit_0 rfl rfl ?_
  refine r_gr (pc' := 4) dX5_depthsThatFit_1 rfl fX5_12 (hl_ rfl) rfl rfl ?_
  refine r_s (pc' := 5) dX5_depthsThatFit_4 rfl rfl ?_
  refine r_gr (pc' := 8) dX5_depthsThatFit_5 rfl fX5_27 (hl_ rfl) rfl rfl ?_
  refine r_Vv1 (pc' := 11) dX5_depthsThatFit_8 rfl lX5_34 (hl_ rfl) rfl rfl rfl rfl (Nat.le_of_ble_eq_true rfl) (Nat.le_of_ble_eq_true rfl) (ct_X2_become_43 hR hw) (fun h8 e8 => ?_)
  obtain ⟨I1, rfl, b1, b2, b3⟩ := e8
  refine r_c (pc' := 12) dX5_depthsThatFit_11 rfl kc_iconst_0 ?_
  refine r_st_2_4 (pc' := 13) dX5_depthsThatFit_12 rfl rfl rfl ?_
  refine r_c (pc' := 14) dX5_depthsThatFit_13 rfl kc_iconst_0 ?_
  refine r_st_3_4 (pc' := 15) dX5_depthsThatFit_14 rfl rfl rfl ?_
  exact lp_X5_depthsThatFit (J := I1) b2 (hD.same (fun r r1 r2 => b1 r (by omega))) hw hW hz (by rw [b3]; exact hck) hk (fun I2 g2 => ⟨_, rfl, I2, rfl, frY_T b1 g2 (by decide) (by decide), rfl⟩) 10 0 I1 (by omega) frY_0

set_option maxHeartbeats 4000000 in
set_option maxRecDepth 100000 in
theorem lp_X5_fallsThatFit {d : Nat} {Q : sm_Q} {x : hX} {ρ : zR} {δ : zD} {J : Nat → Nat → Int32} (hR : isRd J 43 ρ) (hD : isDC J δ) (hw : wfR ρ) (hW : wfD ρ δ) (hz : 0 < zi ρ) (hck : J 43 10 = rmI 6) {k : Nat} (hk : k < zn ρ) (hQ : ∀ I, frY 47 k J I → Q (some (.int (nI (mk (fun v => arB (wf ρ (fup (zf ρ) k v)) 6 δ) 6)))) (hp x I)) : ∀ (m i : Nat) (I : Nat → Nat → Int32), i + m = 6 → frY 47 k J I → sm_wp (sm_c (d + 5)) 0 0 MX5_fallsThatFit Q 15 [.ref 42, .int (nI k), .int (nI (mk (fun v => arB (wf ρ (fup (zf ρ) k v)) 6 δ) i)), .int (nI i)] [] (hp x I) 0 0 := by
  have b6 : zi ρ ≤ 6 := hw.1
  have b8 : zn ρ ≤ 8 := hw.2.1
  have bg : zg ρ ≤ 8 := hw.2.2.1
  have bl : zl ρ ≤ 1 := hw.2.2.2.1
  have hN : isN 50 43 := Or.inr ⟨rfl, rfl⟩
  intro m
  induction m with
  | zero =>
    intro i I hi h2
    have hi : i = 6 := by omega
    refine r_s (pc' := 16) dX5_fallsThatFit_15 rfl rfl ?_
    refine r_c (pc' := 17) dX5_fallsThatFit_16 rfl kc_iconst_5 ?_
    refine r_cgt_t (tgt := 44) dX5_fallsThatFit_17 (by decide) (by rw [hi]; exact (by decide : nI 5 < nI 6)) ?_
    refine r_s (pc' := 45) dX5_fallsThatFit_44 rfl rfl ?_
    refine r_reti dX5_fallsThatFit_45 rfl (rfl) (Nat.le_of_ble_eq_true rfl) (Nat.le_of_ble_eq_true rfl) ?_
    rw [hi]; exact hQ _ h2
  | succ m ih =>
    intro i I hi h2
    have hx10 : I 43 10 = rmI 6 := by rw [h2.1 43 (by omega) (by decide)]; exact hck
    refine r_s (pc' := 16) dX5_fallsThatFit_15 rfl rfl ?_
    refine r_c (pc' := 17) dX5_fallsThatFit_16 rfl kc_iconst_5 ?_
    refine r_cgt_f (pc' := 20) (tgt := 44) dX5_fallsThatFit_17 rfl (by decide) (nI_nlt (b := i) (a := 5) (by omega) (by decide)) ?_
    refine r_s (pc' := 21) dX5_fallsThatFit_20 rfl rfl ?_
    refine r_gr (pc' := 24) dX5_fallsThatFit_21 rfl fX5_12 (hl_ rfl) rfl rfl ?_
    refine r_gr (pc' := 27) dX5_fallsThatFit_24 rfl fX5_95 (hl_ rfl) rfl rfl ?_
    refine r_s (pc' := 28) dX5_fallsThatFit_27 rfl rfl ?_
    refine r_s (pc' := 29) dX5_fallsThatFit_28 rfl rfl ?_
    refine h_ast (pc' := 30) dX5_fallsThatFit_29 rfl (hl_ rfl) rfl (vp_in_nI (by omega) (by decide)) (nI_clamp (by omega)) ?_
    refine r_s (pc' := 31) dX5_fallsThatFit_30 rfl rfl ?_
    refine r_s (pc' := 32) dX5_fallsThatFit_31 rfl rfl ?_
    refine r_s (pc' := 33) dX5_fallsThatFit_32 rfl rfl ?_
    refine r_Vi1 (pc' := 36) dX5_fallsThatFit_33 rfl lX5_89 (hl_ rfl) rfl rfl rfl rfl (Nat.le_of_ble_eq_true rfl) (Nat.le_of_ble_eq_true rfl) (ct_X5_bitIfFit (rm := 6) (ρ := wf ρ (fup (zf ρ) k i)) ((hR.u_f k i).frN hN (frY_up h2 (nI i))) (hw.uf (fup_le (fun j hj => hw.f5 hj) (by omega))) hz (by rw [up_o (by decide)]; exact hx10) (isDC.frN (I := sm_up J 47 k (nI i)) (hD.same (fun r r1 r2 => up_o (by omega))) (frY_up h2 (nI i))) hW (by omega)) (fun r33 h33 e33 => ?_)
    rcases e33 with ⟨I1, rfl, a2, rfl, hb⟩ | ⟨I1, rfl, a2, rfl, hb⟩
    · refine r_s (pc' := 37) dX5_fallsThatFit_36 rfl rfl ?_
      refine r_top (show _ = nI (mk (fun v => arB (wf ρ (fup (zf ρ) k v)) 6 δ) (i + 1)) from or_t (p := (fun v => arB (wf ρ (fup (zf ρ) k v)) 6 δ)) hb) ?_
      refine r_st_2_4 (pc' := 38) dX5_fallsThatFit_37 rfl rfl rfl ?_
      refine r_in_3_4 (pc' := 41) dX5_fallsThatFit_38 rfl rfl (i1 _) ?_
      refine r_goto (tgt := 15) dX5_fallsThatFit_41 (by decide) ?_
      exact ih (i + 1) I1 (by omega) (frY_of ((frY_up h2 (nI i)).tr a2) (by decide))
    · refine r_s (pc' := 37) dX5_fallsThatFit_36 rfl rfl ?_
      refine r_top (show _ = nI (mk (fun v => arB (wf ρ (fup (zf ρ) k v)) 6 δ) (i + 1)) from or_f (p := (fun v => arB (wf ρ (fup (zf ρ) k v)) 6 δ)) hb) ?_
      refine r_st_2_4 (pc' := 38) dX5_fallsThatFit_37 rfl rfl rfl ?_
      refine r_in_3_4 (pc' := 41) dX5_fallsThatFit_38 rfl rfl (i1 _) ?_
      refine r_goto (tgt := 15) dX5_fallsThatFit_41 (by decide) ?_
      exact ih (i + 1) I1 (by omega) (frY_of ((frY_up h2 (nI i)).tr a2) (by decide))

set_option maxHeartbeats 4000000 in
set_option maxRecDepth 100000 in
theorem ct_X5_fallsThatFit {d : Nat} {x : hX} {I : Nat → Nat → Int32} {ρ : zR} {δ : zD} (hR : isRd I 2 ρ) (hD : isDC I δ) (hw : wfR ρ) (hW : wfD ρ δ) (hz : 0 < zi ρ) (hck : I 2 10 = rmI 6) {k : Nat} (hk : k < zn ρ) : ci (d + 6) MX5_fallsThatFit [.ref 42, .int (nI k)] (hp x I) (fun r h' => ∃ I', h' = hp x I' ∧ frT I I' ∧ r = nI (mk (fun v => arB (wf ρ (fup (zf ρ) k v)) 6 δ) 6)) := by
  refine c_in (L := [.ref 42, .int (nI k), .null, .null]) rfl rfl ?_
  refine r_s (pc' := 1) dX5_fallsThatFit_0 rfl rfl ?_
  refine r_gr (pc' := 4) dX5_fallsThatFit_1 rfl fX5_12 (hl_ rfl) rfl rfl ?_
  refine r_s (pc' := 5) dX5_fallsThatFit_4 rfl rfl ?_
  refine r_gr (pc' := 8) dX5_fallsThatFit_5 rfl fX5_27 (hl_ rfl) rfl rfl ?_
  refine r_Vv1 (pc' := 11) dX5_fallsThatFit_8 rfl lX5_34 (hl_ rfl) rfl rfl rfl rfl (Nat.le_of_ble_eq_true rfl) (Nat.le_of_ble_eq_true rfl) (ct_X2_become_43 hR hw) (fun h8 e8 => ?_)
  obtain ⟨I1, rfl, b1, b2, b3⟩ := e8
  refine r_c (pc' := 12) dX5_fallsThatFit_11 rfl kc_iconst_0 ?_
  refine r_st_2_4 (pc' := 13) dX5_fallsThatFit_12 rfl rfl rfl ?_
  refine r_c (pc' := 14) dX5_fallsThatFit_13 rfl kc_iconst_0 ?_
  refine r_st_3_4 (pc' := 15) dX5_fallsThatFit_14 rfl rfl rfl ?_
  exact lp_X5_fallsThatFit (J := I1) b2 (hD.same (fun r r1 r2 => b1 r (by omega))) hw hW hz (by rw [b3]; exact hck) hk (fun I2 g2 => ⟨_, rfl, I2, rfl, frY_T b1 g2 (by decide) (by decide), rfl⟩) 6 0 I1 (by omega) frY_0

set_option maxHeartbeats 4000000 in
set_option maxRecDepth 100000 in
theorem ct_X5_manyOnRoad {d : Nat} {x : hX} {I : Nat → Nat → Int32} {ρ : zR} {rm n : Nat} (hR : isRd I 43 ρ) (hw : wfR ρ) (hz : 0 < zi ρ) (hrm : I 43 10 = rmI rm) (hn : n < zn ρ) : ci (d + 5) MX5_manyOnRoad [.ref 42, .int (nI n)] (hp x I) (fun r h' => ∃ I', h' = hp x I' ∧ frN 50 I I' ∧ r = nI (rdn ρ rm (n + 1))) := by
  have b6 : zi ρ ≤ 6 := hw.1
  have b8 : zn ρ ≤ 8 := hw.2.1
  have bg : zg ρ ≤ 8 := hw.2.2.1
  have bl : zl ρ ≤ 1 := hw.2.2.2.1
  have hN : isN 50 43 := Or.inr ⟨rfl, rfl⟩
  refine c_in (L := [.ref 42, .int (nI n)]) rfl rfl ?_
  refine r_s (pc' := 1) dX5_manyOnRoad_0 rfl rfl ?_
  refine r_gr (pc' := 4) dX5_manyOnRoad_1 rfl fX5_23 (hl_ rfl) rfl rfl ?_
  refine r_s (pc' := 5) dX5_manyOnRoad_4 rfl rfl ?_
  refine r_c (pc' := 6) dX5_manyOnRoad_5 rfl kc_iconst_1 ?_
  refine r_s (pc' := 7) dX5_manyOnRoad_6 rfl rfl ?_
  refine r_top (nI_1 n) ?_
  refine r_Vv1 (pc' := 10) dX5_manyOnRoad_7 rfl lX5_74 (hl_ rfl) rfl rfl rfl rfl (Nat.le_of_ble_eq_true rfl) (Nat.le_of_ble_eq_true rfl) (ct_X0_run (rm := rm) hN hR hw hz hrm (by omega)) (fun h7 e7 => ?_)
  obtain ⟨I1, rfl, g1, g2⟩ := e7
  refine r_s (pc' := 11) dX5_manyOnRoad_10 rfl rfl ?_
  refine r_gr (pc' := 14) dX5_manyOnRoad_11 rfl fX5_23 (hl_ rfl) rfl rfl ?_
  refine r_s (pc' := 15) dX5_manyOnRoad_14 rfl rfl ?_
  refine r_c (pc' := 16) dX5_manyOnRoad_15 rfl kc_iconst_1 ?_
  refine r_s (pc' := 17) dX5_manyOnRoad_16 rfl rfl ?_
  refine r_top (nI_1 n) ?_
  refine r_Vi1 (pc' := 20) dX5_manyOnRoad_17 rfl lX5_78 (hl_ rfl) rfl rfl rfl rfl (Nat.le_of_ble_eq_true rfl) (Nat.le_of_ble_eq_true rfl) (ct_X0_onRoad (S := sim ρ rm (zw ρ) (n + 1)) hN (hR.frN hN g2) hw (by omega) (g1 _ (Nat.le_refl _))) (fun r17 h17 e17 => ?_)
  obtain ⟨rfl, rfl⟩ := e17
  refine r_Si1 (pc' := 23) dX5_manyOnRoad_20 rfl lX5_81 rfl (Nat.le_of_ble_eq_true rfl) (Nat.le_of_ble_eq_true rfl) (ct_bitCount (mA_lt bg)) (fun r20 h20 e20 => ?_)
  obtain ⟨rfl, rfl⟩ := e20
  refine r_reti dX5_manyOnRoad_23 rfl (rfl) (Nat.le_of_ble_eq_true rfl) (Nat.le_of_ble_eq_true rfl) ⟨_, rfl, ?_⟩
  exact ⟨I1, rfl, g2, rfl⟩

theorem isRd.up10 {I : Nat → Nat → Int32} {q : Nat} {ρ : zR} {v : Int32} (h : isRd I q ρ) : isRd (sm_up I q 10 v) q ρ := by
  obtain ⟨h0, h3, h6, h9, h1, h2, h4, h5, h7, h8⟩ := h
  exact ⟨by rw [up_n (by decide)]; exact h0, by rw [up_n (by decide)]; exact h3, by rw [up_n (by decide)]; exact h6, by rw [up_n (by decide)]; exact h9, fun k hk => by rw [up_o (by omega)]; exact h1 k hk, fun k hk => by rw [up_o (by omega)]; exact h2 k hk, fun k hk => by rw [up_o (by omega)]; exact h4 k hk, fun k hk => by rw [up_o (by omega)]; exact h5 k hk, fun k hk => by rw [up_o (by omega)]; exact h7 k hk, fun k hk => by rw [up_o (by omega)]; exact h8 k hk⟩

set_option maxHeartbeats 4000000 in
set_option maxRecDepth 100000 in
theorem lp_X5_innsThatCork {d : Nat} {Q : sm_Q} {x : hX} {ρ : zR} {J : Nat → Nat → Int32} {n : Nat} (hR2 : J 2 0 = nI (zi ρ)) (hR : isRd J 43 ρ) (hw : wfR ρ) (hz : 0 < zi ρ) (hn : n < zn ρ) (hQ : ∀ I, frY 43 10 J I → Q (some (.int (nI (mk (crk ρ n) (zi ρ))))) (hp x I)) : ∀ (m i : Nat) (I : Nat → Nat → Int32), i + m = zi ρ → frY 43 10 J I → sm_wp (sm_c (d + 5)) 0 0 MX5_innsThatCork Q 22 [.ref 42, .int (nI n), .int (nI (rdn ρ 6 (n + 1))), .int (nI (mk (crk ρ n) i)), .int (nI i)] [] (hp x I) 0 0 := by
  have b6 : zi ρ ≤ 6 := hw.1
  have b8 : zn ρ ≤ 8 := hw.2.1
  have bg : zg ρ ≤ 8 := hw.2.2.1
  have bl : zl ρ ≤ 1 := hw.2.2.2.1
  have hN : isN 50 43 := Or.inr ⟨rfl, rfl⟩
  intro m
  induction m with
  | zero =>
    intro i I hi h2
    have hi : i = zi ρ := by omega
    refine r_s (pc' := 24) dX5_innsThatCork_22 rfl rfl ?_
    refine r_s (pc' := 25) dX5_innsThatCork_24 rfl rfl ?_
    refine r_gr (pc' := 28) dX5_innsThatCork_25 rfl fX5_27 (hl_ rfl) rfl rfl ?_
    refine h_gi (pc' := 31) dX5_innsThatCork_28 rfl fX5_41 (hl_ rfl) rfl ?_
    refine r_top ((show _ = nI (zi ρ) by rw [h2.1 2 (by omega) (by decide)]; exact hR2)) ?_
    refine r_cge_t (tgt := 65) dX5_innsThatCork_31 (by decide) (by rw [hi]; exact Int32.le_refl _) ?_
    refine r_s (pc' := 66) dX5_innsThatCork_65 rfl rfl ?_
    refine r_reti dX5_innsThatCork_66 rfl (rfl) (Nat.le_of_ble_eq_true rfl) (Nat.le_of_ble_eq_true rfl) ?_
    rw [hi]; exact hQ _ h2
  | succ m ih =>
    intro i I hi h2
    have hRi : isRd (sm_up J 43 10 (nI i)) 43 ρ := hR.up10
    refine r_s (pc' := 24) dX5_innsThatCork_22 rfl rfl ?_
    refine r_s (pc' := 25) dX5_innsThatCork_24 rfl rfl ?_
    refine r_gr (pc' := 28) dX5_innsThatCork_25 rfl fX5_27 (hl_ rfl) rfl rfl ?_
    refine h_gi (pc' := 31) dX5_innsThatCork_28 rfl fX5_41 (hl_ rfl) rfl ?_
    refine r_top ((show _ = nI (zi ρ) by rw [h2.1 2 (by omega) (by decide)]; exact hR2)) ?_
    refine r_cge_f (pc' := 34) (tgt := 65) dX5_innsThatCork_31 rfl (by decide) (nI_ge (by omega) (by omega)) ?_
    refine r_s (pc' := 35) dX5_innsThatCork_34 rfl rfl ?_
    refine r_gr (pc' := 38) dX5_innsThatCork_35 rfl fX5_12 (hl_ rfl) rfl rfl ?_
    refine r_s (pc' := 40) dX5_innsThatCork_38 rfl rfl ?_
    refine h_pi (pc' := 43) dX5_innsThatCork_40 rfl fX5_71 rfl (hl_ rfl) rfl ?_
    refine r_s (pc' := 44) dX5_innsThatCork_43 rfl rfl ?_
    refine r_s (pc' := 45) dX5_innsThatCork_44 rfl rfl ?_
    refine r_Vi1 (pc' := 48) dX5_innsThatCork_45 rfl lX5_67 (hl_ rfl) rfl rfl rfl rfl (Nat.le_of_ble_eq_true rfl) (Nat.le_of_ble_eq_true rfl) (ct_X5_manyOnRoad (rm := i) (isRd.frN (I := sm_up J 43 10 (nI i)) hRi hN (frY_up h2 (nI i))) hw hz (by rw [up_s, rmI_lt (by omega)]) hn) (fun r45 h45 e45 => ?_)
    obtain ⟨I1, rfl, a2, rfl⟩ := e45
    refine r_s (pc' := 49) dX5_innsThatCork_48 rfl rfl ?_
    refine r_cge (pc' := 52) (tgt := 59) dX5_innsThatCork_49 rfl (by decide) (fun c49 => ?_) (fun c49 => ?_)
    · refine r_in_4_5 (pc' := 62) dX5_innsThatCork_59 rfl rfl (i1 _) ?_
      refine r_goto (tgt := 22) dX5_innsThatCork_62 (by decide) ?_
      have ef : crk ρ n i = false := decide_eq_false (Nat.not_lt.mpr ((nI_leI (by have := rdn_8 (rm := 6) (n := n + 1) hw; have := rdn_8 (rm := i) (n := n + 1) hw; omega) (by have := rdn_8 (rm := 6) (n := n + 1) hw; have := rdn_8 (rm := i) (n := n + 1) hw; omega)).mp c49))
      have hr := ih (i + 1) I1 (by omega) (frY_of ((frY_up h2 (nI i)).tr a2) (by decide))
      rw [mk_f ef] at hr; exact hr
    · refine r_s (pc' := 53) dX5_innsThatCork_52 rfl rfl ?_
      refine r_c (pc' := 54) dX5_innsThatCork_53 rfl kc_iconst_1 ?_
      refine r_s (pc' := 56) dX5_innsThatCork_54 rfl rfl ?_
      refine r_s (pc' := 57) dX5_innsThatCork_56 rfl rfl ?_
      refine r_top (sh1 (by omega)) ?_
      refine r_s (pc' := 58) dX5_innsThatCork_57 rfl rfl ?_
      refine r_top (show _ = nI (mk (crk ρ n) (i + 1)) from or_t (p := crk ρ n) (decide_eq_true (Nat.lt_of_not_le (fun h => c49 (nI_le h (by have := rdn_8 (rm := 6) (n := n + 1) hw; have := rdn_8 (rm := i) (n := n + 1) hw; omega)))))) ?_
      refine r_st_3_5 (pc' := 59) dX5_innsThatCork_58 rfl rfl rfl ?_
      refine r_in_4_5 (pc' := 62) dX5_innsThatCork_59 rfl rfl (i1 _) ?_
      refine r_goto (tgt := 22) dX5_innsThatCork_62 (by decide) ?_
      exact ih (i + 1) I1 (by omega) (frY_of ((frY_up h2 (nI i)).tr a2) (by decide))

set_option maxHeartbeats 4000000 in
set_option maxRecDepth 100000 in
theorem ct_X5_innsThatCork {d : Nat} {x : hX} {I : Nat → Nat → Int32} {ρ : zR} (hR : isRd I 2 ρ) (hw : wfR ρ) (hz : 0 < zi ρ) (hck : I 2 10 = rmI 6) {n : Nat} (hn : n < zn ρ) : ci (d + 6) MX5_innsThatCork [.ref 42, .int (nI n)] (hp x I) (fun r h' => ∃ I', h' = hp x I' ∧ frT I I' ∧ r = nI (mk (crk ρ n) (zi ρ))) := by
  refine c_in (L := [.ref 42, .int (nI n), .null, .null, .null]) rfl rfl ?_
  refine r_s (pc' := 1) dX5_innsThatCork_0 rfl rfl ?_
  refine r_gr (pc' := 4) dX5_innsThatCork_1 rfl fX5_12 (hl_ rfl) rfl rfl ?_
  refine r_s (pc' := 5) dX5_innsThatCork_4 rfl rfl ?_
  refine r_gr (pc' := 8) dX5_innsThatCork_5 rfl fX5_27 (hl_ rfl) rfl rfl ?_
  refine r_Vv1 (pc' := 11) dX5_innsThatCork_8 rfl lX5_34 (hl_ rfl) rfl rfl rfl rfl (Nat.le_of_ble_eq_true rfl) (Nat.le_of_ble_eq_true rfl) (ct_X2_become_43 hR hw) (fun h8 e8 => ?_)
  obtain ⟨I0, rfl, b1, b2, b3⟩ := e8
  refine r_s (pc' := 12) dX5_innsThatCork_11 rfl rfl ?_
  refine r_s (pc' := 13) dX5_innsThatCork_12 rfl rfl ?_
  refine r_Vi1 (pc' := 16) dX5_innsThatCork_13 rfl lX5_67 (hl_ rfl) rfl rfl rfl rfl (Nat.le_of_ble_eq_true rfl) (Nat.le_of_ble_eq_true rfl) (ct_X5_manyOnRoad (rm := 6) b2 hw hz (by rw [b3]; exact hck) hn) (fun r13 h13 e13 => ?_)
  obtain ⟨I1, rfl, a2, rfl⟩ := e13
  refine r_st_2_5 (pc' := 17) dX5_innsThatCork_16 rfl rfl rfl ?_
  refine r_c (pc' := 18) dX5_innsThatCork_17 rfl kc_iconst_0 ?_
  refine r_st_3_5 (pc' := 19) dX5_innsThatCork_18 rfl rfl rfl ?_
  refine r_c (pc' := 20) dX5_innsThatCork_19 rfl kc_iconst_0 ?_
  refine r_st_4_5 (pc' := 22) dX5_innsThatCork_20 rfl rfl rfl ?_
  exact lp_X5_innsThatCork (J := I0) (by rw [b1 2 (by decide)]; exact hR.1) b2 hw hz hn (fun I2 g2 => ⟨_, rfl, I2, rfl, frY_T b1 g2 (by decide) (by decide), rfl⟩) (zi ρ) 0 I1 (by omega) ⟨fun t ht _ => a2 t ht, fun j _ => by rw [a2 43 (by decide)]⟩

set_option maxHeartbeats 4000000 in
set_option maxRecDepth 100000 in
theorem lp_X5_firstTurn {d : Nat} {Q : sm_Q} {x : hX} {ρ : zR} {J : Nat → Nat → Int32} {n M : Nat} (hR2 : ∀ k, k < zn ρ → J 5 k = nI (zw ρ k)) (hR : isRd J 43 ρ) (hw : wfR ρ) (hz : 0 < zi ρ) (hn : n ≤ zn ρ) (hM : M < 256) (hck : J 43 10 = rmI 6) (hQ : ∀ I, frN 50 J I ∨ (∃ k, frY 46 k J I) → Q (some (.int (fmI (fun j => meB (ww ρ (fup (zw ρ) j (1 - zw ρ j))) M n) n))) (hp x I)) : ∀ (m i : Nat) (I : Nat → Nat → Int32), i + m = n → (∀ j, j < i → meB (ww ρ (fup (zw ρ) j (1 - zw ρ j))) M n = false) → frN 50 J I → sm_wp (sm_c (d + 4)) 0 0 MX5_firstTurn Q 30 [.ref 42, .int (nI M), .int (nI n), .int (nI i)] [] (hp x I) 0 0 := by
  have b6 : zi ρ ≤ 6 := hw.1
  have b8 : zn ρ ≤ 8 := hw.2.1
  have bg : zg ρ ≤ 8 := hw.2.2.1
  have bl : zl ρ ≤ 1 := hw.2.2.2.1
  have hN : isN 50 43 := Or.inr ⟨rfl, rfl⟩
  intro m
  induction m with
  | zero =>
    intro i I hi h1 h2
    have hi : i = n := by omega
    refine r_s (pc' := 31) dX5_firstTurn_30 rfl rfl ?_
    refine r_s (pc' := 32) dX5_firstTurn_31 rfl rfl ?_
    refine r_cge_t (tgt := 101) dX5_firstTurn_32 (by decide) (by rw [hi]; exact Int32.le_refl _) ?_
    refine r_c (pc' := 103) dX5_firstTurn_101 rfl kc_bipush_m9 ?_
    refine r_reti dX5_firstTurn_103 rfl (rfl) (Nat.le_of_ble_eq_true rfl) (Nat.le_of_ble_eq_true rfl) ?_
    rw [hi] at h1; rw [← fmI_no (p := (fun j => meB (ww ρ (fup (zw ρ) j (1 - zw ρ j))) M n)) h1]; exact hQ _ (Or.inl h2)
  | succ m ih =>
    intro i I hi h1 h2
    refine r_s (pc' := 31) dX5_firstTurn_30 rfl rfl ?_
    refine r_s (pc' := 32) dX5_firstTurn_31 rfl rfl ?_
    refine r_cge_f (pc' := 35) (tgt := 101) dX5_firstTurn_32 rfl (by decide) (nI_ge (by omega) (by omega)) ?_
    refine r_s (pc' := 36) dX5_firstTurn_35 rfl rfl ?_
    refine r_gr (pc' := 39) dX5_firstTurn_36 rfl fX5_12 (hl_ rfl) rfl rfl ?_
    refine r_gr (pc' := 42) dX5_firstTurn_39 rfl fX5_64 (hl_ rfl) rfl rfl ?_
    refine r_s (pc' := 43) dX5_firstTurn_42 rfl rfl ?_
    refine r_s (pc' := 44) dX5_firstTurn_43 rfl rfl ?_
    refine r_gr (pc' := 47) dX5_firstTurn_44 rfl fX5_27 (hl_ rfl) rfl rfl ?_
    refine r_gr (pc' := 50) dX5_firstTurn_47 rfl fX5_64 (hl_ rfl) rfl rfl ?_
    refine r_s (pc' := 51) dX5_firstTurn_50 rfl rfl ?_
    refine h_ald (pc' := 52) dX5_firstTurn_51 rfl (hl_ rfl) rfl (vp_in_nI (by omega) (by decide)) (nI_clamp (by omega)) ?_
    refine r_top ((show _ = nI (zw ρ i) by rw [h2 5 (by decide)]; exact hR2 i (by omega))) ?_
    refine r_ifne (pc' := 55) (tgt := 59) dX5_firstTurn_52 rfl (by decide) (fun c52 => ?_) (fun c52 => ?_)
    · refine r_c (pc' := 60) dX5_firstTurn_59 rfl kc_iconst_0 ?_
      refine r_top (show _ = nI (1 - zw ρ i) from by rw [show zw ρ i = 1 from (by have := z1 c52; have := hw.w1 (k := i) (by omega); omega)]; rfl) ?_
      refine h_ast (pc' := 61) dX5_firstTurn_60 rfl (hl_ rfl) rfl (vp_in_nI (by omega) (by decide)) (nI_clamp (by omega)) ?_
      refine r_s (pc' := 62) dX5_firstTurn_61 rfl rfl ?_
      refine r_gr (pc' := 65) dX5_firstTurn_62 rfl fX5_23 (hl_ rfl) rfl rfl ?_
      refine r_s (pc' := 66) dX5_firstTurn_65 rfl rfl ?_
      refine r_s (pc' := 67) dX5_firstTurn_66 rfl rfl ?_
      refine r_Vi2 (pc' := 70) dX5_firstTurn_67 rfl lX5_60 (hl_ rfl) rfl rfl rfl rfl (Nat.le_of_ble_eq_true rfl) (Nat.le_of_ble_eq_true rfl) (ct_X0_firstMeeting (rm := 6) (ρ := ww ρ (fup (zw ρ) i (1 - zw ρ i))) hN (isRd.u_w (hR.frN hN h2) i (1 - zw ρ i)) (hw.uw (fup_le (fun k hk => hw.w1 hk) (by omega))) hz (by rw [up_o (by decide), h2 43 (by decide)]; exact hck) hn hM) (fun r67 h67 e67 => ?_)
      obtain ⟨I1, rfl, a2, rfl⟩ := e67
      refine r_c (pc' := 72) dX5_firstTurn_70 rfl kc_bipush_m9 ?_
      refine r_ceq (pc' := 75) (tgt := 77) dX5_firstTurn_72 rfl (by decide) (fun c72 => ?_) (fun c72 => ?_)
      · refine r_s (pc' := 78) dX5_firstTurn_77 rfl rfl ?_
        refine r_gr (pc' := 81) dX5_firstTurn_78 rfl fX5_12 (hl_ rfl) rfl rfl ?_
        refine r_gr (pc' := 84) dX5_firstTurn_81 rfl fX5_64 (hl_ rfl) rfl rfl ?_
        refine r_s (pc' := 85) dX5_firstTurn_84 rfl rfl ?_
        refine r_s (pc' := 86) dX5_firstTurn_85 rfl rfl ?_
        refine r_gr (pc' := 89) dX5_firstTurn_86 rfl fX5_27 (hl_ rfl) rfl rfl ?_
        refine r_gr (pc' := 92) dX5_firstTurn_89 rfl fX5_64 (hl_ rfl) rfl rfl ?_
        refine r_s (pc' := 93) dX5_firstTurn_92 rfl rfl ?_
        refine h_ald (pc' := 94) dX5_firstTurn_93 rfl (hl_ rfl) rfl (vp_in_nI (by omega) (by decide)) (nI_clamp (by omega)) ?_
        refine r_top ((show _ = nI (zw ρ i) by rw [a2 5 (by decide), up_o (by decide), h2 5 (by decide)]; exact hR2 i (by omega))) ?_
        refine h_ast (pc' := 95) dX5_firstTurn_94 rfl (hl_ rfl) rfl (vp_in_nI (by omega) (by decide)) (nI_clamp (by omega)) ?_
        refine r_in_3_4 (pc' := 98) dX5_firstTurn_95 rfl rfl (i1 _) ?_
        refine r_goto (tgt := 30) dX5_firstTurn_98 (by decide) ?_
        refine ih (i + 1) _ (by omega) (fun j hj => ?_) (h2.tr (frY_end (frY_of a2 (by decide)) (by rw [h2 46 (by decide)]; exact hR.w i (by omega))))
        by_cases e : j = i
        · subst e; exact fmI_e (by omega) c72
        · exact h1 j (by omega)
      · refine r_s (pc' := 76) dX5_firstTurn_75 rfl rfl ?_
        refine r_reti dX5_firstTurn_76 rfl (rfl) (Nat.le_of_ble_eq_true rfl) (Nat.le_of_ble_eq_true rfl) ?_
        rw [← fmI_at (p := (fun j => meB (ww ρ (fup (zw ρ) j (1 - zw ρ j))) M n)) (n := n) (by omega) (fmI_ne (by omega) c72) h1]; exact hQ _ (Or.inr ⟨i, frY_of ((frY_up (a := 46) (k := i) ⟨fun t ht _ => h2 t ht, fun j _ => by rw [h2 46 (by decide)]⟩ _).tr a2) (by decide)⟩)
    · refine r_c (pc' := 56) dX5_firstTurn_55 rfl kc_iconst_1 ?_
      refine r_goto (tgt := 60) dX5_firstTurn_56 (by decide) ?_
      refine r_top (show _ = nI (1 - zw ρ i) from by rw [show zw ρ i = 0 from z0 c52 (by have := hw.w1 (k := i) (by omega); omega)]; rfl) ?_
      refine h_ast (pc' := 61) dX5_firstTurn_60 rfl (hl_ rfl) rfl (vp_in_nI (by omega) (by decide)) (nI_clamp (by omega)) ?_
      refine r_s (pc' := 62) dX5_firstTurn_61 rfl rfl ?_
      refine r_gr (pc' := 65) dX5_firstTurn_62 rfl fX5_23 (hl_ rfl) rfl rfl ?_
      refine r_s (pc' := 66) dX5_firstTurn_65 rfl rfl ?_
      refine r_s (pc' := 67) dX5_firstTurn_66 rfl rfl ?_
      refine r_Vi2 (pc' := 70) dX5_firstTurn_67 rfl lX5_60 (hl_ rfl) rfl rfl rfl rfl (Nat.le_of_ble_eq_true rfl) (Nat.le_of_ble_eq_true rfl) (ct_X0_firstMeeting (rm := 6) (ρ := ww ρ (fup (zw ρ) i (1 - zw ρ i))) hN (isRd.u_w (hR.frN hN h2) i (1 - zw ρ i)) (hw.uw (fup_le (fun k hk => hw.w1 hk) (by omega))) hz (by rw [up_o (by decide), h2 43 (by decide)]; exact hck) hn hM) (fun r67 h67 e67 => ?_)
      obtain ⟨I1, rfl, a2, rfl⟩ := e67
      refine r_c (pc' := 72) dX5_firstTurn_70 rfl kc_bipush_m9 ?_
      refine r_ceq (pc' := 75) (tgt := 77) dX5_firstTurn_72 rfl (by decide) (fun c72 => ?_) (fun c72 => ?_)
      · refine r_s (pc' := 78) dX5_firstTurn_77 rfl rfl ?_
        refine r_gr (pc' := 81) dX5_firstTurn_78 rfl fX5_12 (hl_ rfl) rfl rfl ?_
        refine r_gr (pc' := 84) dX5_firstTurn_81 rfl fX5_64 (hl_ rfl) rfl rfl ?_
        refine r_s (pc' := 85) dX5_firstTurn_84 rfl rfl ?_
        refine r_s (pc' := 86) dX5_firstTurn_85 rfl rfl ?_
        refine r_gr (pc' := 89) dX5_firstTurn_86 rfl fX5_27 (hl_ rfl) rfl rfl ?_
        refine r_gr (pc' := 92) dX5_firstTurn_89 rfl fX5_64 (hl_ rfl) rfl rfl ?_
        refine r_s (pc' := 93) dX5_firstTurn_92 rfl rfl ?_
        refine h_ald (pc' := 94) dX5_firstTurn_93 rfl (hl_ rfl) rfl (vp_in_nI (by omega) (by decide)) (nI_clamp (by omega)) ?_
        refine r_top ((show _ = nI (zw ρ i) by rw [a2 5 (by decide), up_o (by decide), h2 5 (by decide)]; exact hR2 i (by omega))) ?_
        refine h_ast (pc' := 95) dX5_firstTurn_94 rfl (hl_ rfl) rfl (vp_in_nI (by omega) (by decide)) (nI_clamp (by omega)) ?_
        refine r_in_3_4 (pc' := 98) dX5_firstTurn_95 rfl rfl (i1 _) ?_
        refine r_goto (tgt := 30) dX5_firstTurn_98 (by decide) ?_
        refine ih (i + 1) _ (by omega) (fun j hj => ?_) (h2.tr (frY_end (frY_of a2 (by decide)) (by rw [h2 46 (by decide)]; exact hR.w i (by omega))))
        by_cases e : j = i
        · subst e; exact fmI_e (by omega) c72
        · exact h1 j (by omega)
      · refine r_s (pc' := 76) dX5_firstTurn_75 rfl rfl ?_
        refine r_reti dX5_firstTurn_76 rfl (rfl) (Nat.le_of_ble_eq_true rfl) (Nat.le_of_ble_eq_true rfl) ?_
        rw [← fmI_at (p := (fun j => meB (ww ρ (fup (zw ρ) j (1 - zw ρ j))) M n)) (n := n) (by omega) (fmI_ne (by omega) c72) h1]; exact hQ _ (Or.inr ⟨i, frY_of ((frY_up (a := 46) (k := i) ⟨fun t ht _ => h2 t ht, fun j _ => by rw [h2 46 (by decide)]⟩ _).tr a2) (by decide)⟩)

set_option maxHeartbeats 4000000 in
set_option maxRecDepth 100000 in
theorem ct_X5_firstTurn {d : Nat} {x : hX} {I : Nat → Nat → Int32} {ρ : zR} (hR : isRd I 2 ρ) (hw : wfR ρ) (hz : 0 < zi ρ) (hck : I 2 10 = rmI 6) {n M : Nat} (hn : n ≤ zn ρ) (hM : M < 256) : ci (d + 5) MX5_firstTurn [.ref 42, .int (nI M), .int (nI n)] (hp x I) (fun r h' => ∃ I', h' = hp x I' ∧ frT I I' ∧ r = trn ρ M n) := by
  have b6 : zi ρ ≤ 6 := hw.1
  have b8 : zn ρ ≤ 8 := hw.2.1
  have bg : zg ρ ≤ 8 := hw.2.2.1
  have bl : zl ρ ≤ 1 := hw.2.2.2.1
  have hN : isN 50 43 := Or.inr ⟨rfl, rfl⟩
  refine c_in (L := [.ref 42, .int (nI M), .int (nI n), .null]) rfl rfl ?_
  refine r_s (pc' := 1) dX5_firstTurn_0 rfl rfl ?_
  refine r_gr (pc' := 4) dX5_firstTurn_1 rfl fX5_12 (hl_ rfl) rfl rfl ?_
  refine r_s (pc' := 5) dX5_firstTurn_4 rfl rfl ?_
  refine r_gr (pc' := 8) dX5_firstTurn_5 rfl fX5_27 (hl_ rfl) rfl rfl ?_
  refine r_Vv1 (pc' := 11) dX5_firstTurn_8 rfl lX5_34 (hl_ rfl) rfl rfl rfl rfl (Nat.le_of_ble_eq_true rfl) (Nat.le_of_ble_eq_true rfl) (ct_X2_become_43 hR hw) (fun h8 e8 => ?_)
  obtain ⟨I0, rfl, b1, b2, b3⟩ := e8
  refine r_s (pc' := 12) dX5_firstTurn_11 rfl rfl ?_
  refine r_gr (pc' := 15) dX5_firstTurn_12 rfl fX5_23 (hl_ rfl) rfl rfl ?_
  refine r_s (pc' := 16) dX5_firstTurn_15 rfl rfl ?_
  refine r_s (pc' := 17) dX5_firstTurn_16 rfl rfl ?_
  refine r_Vi2 (pc' := 20) dX5_firstTurn_17 rfl lX5_60 (hl_ rfl) rfl rfl rfl rfl (Nat.le_of_ble_eq_true rfl) (Nat.le_of_ble_eq_true rfl) (ct_X0_firstMeeting (rm := 6) (ρ := ρ) hN b2 hw hz (by rw [b3]; exact hck) hn hM) (fun r17 h17 e17 => ?_)
  obtain ⟨I1, rfl, a2, rfl⟩ := e17
  refine r_c (pc' := 22) dX5_firstTurn_20 rfl kc_bipush_m9 ?_
  refine r_ceq (pc' := 25) (tgt := 28) dX5_firstTurn_22 rfl (by decide) (fun c22 => ?_) (fun c22 => ?_)
  · refine r_c (pc' := 29) dX5_firstTurn_28 rfl kc_iconst_0 ?_
    refine r_st_3_4 (pc' := 30) dX5_firstTurn_29 rfl rfl rfl ?_
    exact lp_X5_firstTurn (J := I0) (fun k hk => by rw [b1 5 (by decide)]; exact hR.w k hk) b2 hw hz hn hM (by rw [b3]; exact hck) (fun I2 g2 => ⟨_, rfl, I2, rfl, by rcases g2 with g2 | ⟨k, g2⟩; exact frN_T b1 g2; exact frY_T b1 g2 (by decide) (by decide), by rw [trn, if_neg (fun e => by rw [show meB ρ M n = false from fmI_e (by omega) c22] at e; cases e)]⟩) n 0 I1 (by omega) (fun j hj => absurd hj (by omega)) a2
  · refine r_c (pc' := 27) dX5_firstTurn_25 rfl kc_bipush_m9 ?_
    refine r_reti dX5_firstTurn_27 rfl (rfl) (Nat.le_of_ble_eq_true rfl) (Nat.le_of_ble_eq_true rfl) ⟨_, rfl, ?_⟩
    exact ⟨I1, rfl, frN_T b1 a2, by rw [trn, if_pos (show meB ρ M n = true from fmI_ne (by omega) c22)]⟩
