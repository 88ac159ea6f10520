/-- what the reference has read so far -/
def isRm (I : Nat → Nat → Int32) (ρ : zR) : Prop := I 80 13 = nI (zi ρ) ∧ I 80 14 = nI (zn ρ) ∧ I 80 15 = nI (zg ρ) ∧ (∀ k, k < zi ρ → I 87 k = nI (zk ρ k)) ∧ (∀ k, k < zi ρ → I 88 k = nI (zs ρ k)) ∧ (∀ n, n < zn ρ → I 89 n = nI (zw ρ n)) ∧ (∀ n, n < zn ρ → I 90 n = nI (zf ρ n)) ∧ (∀ g, g < zg ρ → I 91 g = nI (zy ρ g)) ∧ (∀ g, g < zg ρ → I 92 g = nI (zh ρ g))
def isTm (I : Nat → Nat → Int32) (k f m a : Nat) : Prop := I 80 12 = nI a ∧ a ≤ m ∧ f + m ≤ 60 ∧ k < 4
def isCm (I : Nat → Nat → Int32) (k f m : Nat) (c : Nat → Int32) : Prop := ∀ j, j < m → I 100 (60 * k + (f + j)) = c j
def frP (I I' : Nat → Nat → Int32) : Prop := (∀ t, t ≠ 80 → ¬ (87 ≤ t ∧ t ≤ 92) → I' t = I t) ∧ ∀ j, (j < 12 ∨ 15 < j) → I' 80 j = I 80 j
theorem frP.tr {I J K : Nat → Nat → Int32} (h : frP I J) (h2 : frP J K) : frP I K := ⟨fun t a b => by rw [h2.1 t a b, h.1 t a b], fun j hj => by rw [h2.2 j hj, h.2 j hj]⟩
theorem frP_0 {I : Nat → Nat → Int32} : frP I I := ⟨fun _ _ _ => rfl, fun _ _ => rfl⟩
theorem frP_f {I : Nat → Nat → Int32} {j : Nat} {v : Int32} (h1 : 12 ≤ j) (h2 : j ≤ 15) : frP I (sm_up I 80 j v) := ⟨fun t a _ => up_o a, fun i hi => up_n (by omega)⟩
theorem frP_a {I : Nat → Nat → Int32} {q j : Nat} {v : Int32} (h1 : 87 ≤ q) (h2 : q ≤ 92) : frP I (sm_up I q j v) := ⟨fun t _ b => up_o (by omega), fun i hi => by rw [up_o (by omega)]⟩
theorem isCm.fr {I I' : Nat → Nat → Int32} {k f m : Nat} {c : Nat → Int32} (h : isCm I k f m c) (hf : frP I I') : isCm I' k f m c := fun j hj => by rw [hf.1 100 (by decide) (by decide)]; exact h j hj
theorem isTm.at {I : Nat → Nat → Int32} {k f m a : Nat} (h : isTm I k f m a) (ha : a < m) : isTm (sm_up I 80 12 (nI (a + 1))) k f m (a + 1) := ⟨up_s, ha, h.2.2⟩
theorem isTm.up {I : Nat → Nat → Int32} {k f m a q j : Nat} {v : Int32} (h : isTm I k f m a) (hq : q ≠ 80 ∨ j ≠ 12) : isTm (sm_up I q j v) k f m a := ⟨by
  rcases hq with hq | hq
  · rw [up_o (Ne.symm hq)]; exact h.1
  · by_cases e : q = 80
    · subst e; rw [up_n (Ne.symm hq)]; exact h.1
    · rw [up_o (Ne.symm e)]; exact h.1, h.2⟩
theorem isRm.at {I : Nat → Nat → Int32} {ρ : zR} {v : Int32} (h : isRm I ρ) : isRm (sm_up I 80 12 v) ρ :=
  ⟨by rw [up_n (by decide)]; exact h.1, by rw [up_n (by decide)]; exact h.2.1, by rw [up_n (by decide)]; exact h.2.2.1, fun k hk => by rw [up_o (by decide)]; exact h.2.2.2.1 k hk, fun k hk => by rw [up_o (by decide)]; exact h.2.2.2.2.1 k hk, fun k hk => by rw [up_o (by decide)]; exact h.2.2.2.2.2.1 k hk, fun k hk => by rw [up_o (by decide)]; exact h.2.2.2.2.2.2.1 k hk, fun k hk => by rw [up_o (by decide)]; exact h.2.2.2.2.2.2.2.1 k hk, fun k hk => by rw [up_o (by decide)]; exact h.2.2.2.2.2.2.2.2 k hk⟩
theorem up_id {I : Nat → Nat → Int32} {q j : Nat} {v : Int32} (h : I q j = v) : sm_up I q j v = I := funext (fun t => funext (fun i => by
  unfold sm_up
  by_cases e : t = q
  · rw [if_pos e]
    by_cases e2 : i = j
    · rw [if_pos e2, e, e2, h]
    · rw [if_neg e2]
  · rw [if_neg e]))

theorem isRm.I {I : Nat → Nat → Int32} {ρ : zR} {kd v : Nat} (h : isRm I ρ) : isRm (sm_up (sm_up (sm_up I 87 (zi ρ) (nI kd)) 88 (zi ρ) (nI v)) 80 13 (nI (zi ρ + 1))) (adI ρ kd v) := by
  obtain ⟨h0, h3, h6, h1, h2, h4, h5, h7, h8⟩ := h
  refine ⟨?_, ?_, ?_, ?_, ?_, ?_, ?_, ?_, ?_⟩
  · exact up_s
  · rw [up_n (by decide), up_o (by decide), up_o (by decide)]; exact h3
  · rw [up_n (by decide), up_o (by decide), up_o (by decide)]; exact h6
  · intro k hk
    have hk : k < zi ρ + 1 := hk
    show _ = nI (fup (zk ρ) (zi ρ) kd k)
    by_cases e : k = zi ρ
    · subst e; rw [up_o (by decide), up_o (by decide), up_s, fup_s]
    · rw [up_o (by decide), up_o (by decide), up_n e, fup_n e]; exact h1 k (by omega)
  · intro k hk
    have hk : k < zi ρ + 1 := hk
    show _ = nI (fup (zs ρ) (zi ρ) v k)
    by_cases e : k = zi ρ
    · subst e; rw [up_o (by decide), up_s, fup_s]
    · rw [up_o (by decide), up_n e, fup_n e]; rw [up_o (by decide)]; exact h2 k (by omega)
  · intro k hk; rw [up_o (by decide), up_o (by decide), up_o (by decide)]; exact h4 k hk
  · intro k hk; rw [up_o (by decide), up_o (by decide), up_o (by decide)]; exact h5 k hk
  · intro k hk; rw [up_o (by decide), up_o (by decide), up_o (by decide)]; exact h7 k hk
  · intro k hk; rw [up_o (by decide), up_o (by decide), up_o (by decide)]; exact h8 k hk

theorem isRm.N {I : Nat → Nat → Int32} {ρ : zR} {w v : Nat} (h : isRm I ρ) : isRm (sm_up (sm_up (sm_up I 89 (zn ρ) (nI w)) 90 (zn ρ) (nI v)) 80 14 (nI (zn ρ + 1))) (adN ρ w v) := by
  obtain ⟨h0, h3, h6, h1, h2, h4, h5, h7, h8⟩ := h
  refine ⟨?_, ?_, ?_, ?_, ?_, ?_, ?_, ?_, ?_⟩
  · rw [up_n (by decide), up_o (by decide), up_o (by decide)]; exact h0
  · exact up_s
  · rw [up_n (by decide), up_o (by decide), up_o (by decide)]; exact h6
  · intro k hk; rw [up_o (by decide), up_o (by decide), up_o (by decide)]; exact h1 k hk
  · intro k hk; rw [up_o (by decide), up_o (by decide), up_o (by decide)]; exact h2 k hk
  · intro k hk
    have hk : k < zn ρ + 1 := hk
    show _ = nI (fup (zw ρ) (zn ρ) w k)
    by_cases e : k = zn ρ
    · subst e; rw [up_o (by decide), up_o (by decide), up_s, fup_s]
    · rw [up_o (by decide), up_o (by decide), up_n e, fup_n e]; exact h4 k (by omega)
  · intro k hk
    have hk : k < zn ρ + 1 := hk
    show _ = nI (fup (zf ρ) (zn ρ) v k)
    by_cases e : k = zn ρ
    · subst e; rw [up_o (by decide), up_s, fup_s]
    · rw [up_o (by decide), up_n e, fup_n e]; rw [up_o (by decide)]; exact h5 k (by omega)
  · intro k hk; rw [up_o (by decide), up_o (by decide), up_o (by decide)]; exact h7 k hk
  · intro k hk; rw [up_o (by decide), up_o (by decide), up_o (by decide)]; exact h8 k hk

theorem isRm.G {I : Nat → Nat → Int32} {ρ : zR} {y v : Nat} (h : isRm I ρ) : isRm (sm_up (sm_up (sm_up I 91 (zg ρ) (nI y)) 92 (zg ρ) (nI v)) 80 15 (nI (zg ρ + 1))) (adG ρ y v) := by
  obtain ⟨h0, h3, h6, h1, h2, h4, h5, h7, h8⟩ := h
  refine ⟨?_, ?_, ?_, ?_, ?_, ?_, ?_, ?_, ?_⟩
  · rw [up_n (by decide), up_o (by decide), up_o (by decide)]; exact h0
  · rw [up_n (by decide), up_o (by decide), up_o (by decide)]; exact h3
  · exact up_s
  · intro k hk; rw [up_o (by decide), up_o (by decide), up_o (by decide)]; exact h1 k hk
  · intro k hk; rw [up_o (by decide), up_o (by decide), up_o (by decide)]; exact h2 k hk
  · intro k hk; rw [up_o (by decide), up_o (by decide), up_o (by decide)]; exact h4 k hk
  · intro k hk; rw [up_o (by decide), up_o (by decide), up_o (by decide)]; exact h5 k hk
  · intro k hk
    have hk : k < zg ρ + 1 := hk
    show _ = nI (fup (zy ρ) (zg ρ) y k)
    by_cases e : k = zg ρ
    · subst e; rw [up_o (by decide), up_o (by decide), up_s, fup_s]
    · rw [up_o (by decide), up_o (by decide), up_n e, fup_n e]; exact h7 k (by omega)
  · intro k hk
    have hk : k < zg ρ + 1 := hk
    show _ = nI (fup (zh ρ) (zg ρ) v k)
    by_cases e : k = zg ρ
    · subst e; rw [up_o (by decide), up_s, fup_s]
    · rw [up_o (by decide), up_n e, fup_n e]; rw [up_o (by decide)]; exact h8 k (by omega)

set_option maxHeartbeats 4000000 in
set_option maxRecDepth 100000 in
theorem ct_X7_codeAt {d : Nat} {x : hX} {I : Nat → Nat → Int32} {k f m a : Nat} {c : Nat → Int32} (hT : isTm I k f m a) (hc : isCm I k f m c) : ci (d + 1) MX7_codeAt [.ref 80, .int (nI (60 * k + f)), .int (nI m)] (hp x I) (fun r h' => h' = hp x I ∧ r = cde c m a) := by
  have ham := hT.2.1
  have hfm := hT.2.2.1
  have hk4 := hT.2.2.2
  refine c_in (L := [.ref 80, .int (nI (60 * k + f)), .int (nI m)]) rfl rfl ?_
  refine r_s (pc' := 1) dX7_codeAt_0 rfl rfl ?_
  refine h_gi (pc' := 4) dX7_codeAt_1 rfl fX7_99 (hl_ rfl) rfl ?_
  refine r_top (hT.1) ?_
  refine r_s (pc' := 5) dX7_codeAt_4 rfl rfl ?_
  refine r_cge (pc' := 8) (tgt := 22) dX7_codeAt_5 rfl (by decide) (fun c5 => ?_) (fun c5 => ?_)
  · refine r_c (pc' := 24) dX7_codeAt_22 rfl kc_bipush_m9 ?_
    refine r_reti dX7_codeAt_24 rfl (rfl) (Nat.le_of_ble_eq_true rfl) (Nat.le_of_ble_eq_true rfl) ⟨_, rfl, ?_⟩
    exact ⟨rfl, by rw [cde_out ((nI_leI (by omega) (by omega)).mp c5)]⟩
  · have hlt : a < m := Nat.lt_of_not_le (fun h => c5 (nI_le h (by omega)))
    refine r_s (pc' := 9) dX7_codeAt_8 rfl rfl ?_
    refine r_gr (pc' := 12) dX7_codeAt_9 rfl fX7_67 (hl_ rfl) rfl rfl ?_
    refine r_s (pc' := 13) dX7_codeAt_12 rfl rfl ?_
    refine r_s (pc' := 14) dX7_codeAt_13 rfl rfl ?_
    refine h_gi (pc' := 17) dX7_codeAt_14 rfl fX7_99 (hl_ rfl) rfl ?_
    refine r_top (hT.1) ?_
    refine r_s (pc' := 18) dX7_codeAt_17 rfl rfl ?_
    refine r_top (nI_add _ _) ?_
    refine h_ald (pc' := 19) dX7_codeAt_18 rfl (hl_ rfl) rfl (vp_in_nI (by omega) (by decide)) (nI_clamp (by omega)) ?_
    refine r_top ((show _ = c a by rw [Nat.add_assoc]; exact hc a hlt)) ?_
    refine r_goto (tgt := 24) dX7_codeAt_19 (by decide) ?_
    refine r_reti dX7_codeAt_24 rfl (rfl) (Nat.le_of_ble_eq_true rfl) (Nat.le_of_ble_eq_true rfl) ⟨_, rfl, ?_⟩
    exact ⟨rfl, by rw [cde_in hlt]⟩

set_option maxHeartbeats 4000000 in
set_option maxRecDepth 100000 in
theorem ct_X7_figure {d : Nat} {x : hX} {I : Nat → Nat → Int32} {k f m a : Nat} {c : Nat → Int32} (hT : isTm I k f m a) (hc : isCm I k f m c) {g : Nat} (hg : g ≤ 9) : ci (d + 2) MX7_figure [.ref 80, .int (nI (60 * k + f)), .int (nI m), .int 0, .int (nI g)] (hp x I) (fun r h' => (∃ v, v ≤ g ∧ h' = hp x (sm_up I 80 12 (nI (a + 1))) ∧ r = nI v ∧ a < m ∧ dgt (cde c m a) (g + 1) = some v) ∨ (h' = hp x I ∧ r = -9 ∧ dgt (cde c m a) (g + 1) = none)) := by
  have ham := hT.2.1
  have hfm := hT.2.2.1
  have hk4 := hT.2.2.2
  refine c_in (L := [.ref 80, .int (nI (60 * k + f)), .int (nI m), .int 0, .int (nI g), .null, .null]) rfl rfl ?_
  refine r_s (pc' := 1) dX7_figure_0 rfl rfl ?_
  refine r_s (pc' := 2) dX7_figure_1 rfl rfl ?_
  refine r_s (pc' := 3) dX7_figure_2 rfl rfl ?_
  refine r_Vi2 (pc' := 6) dX7_figure_3 rfl lX7_102 (hl_ rfl) rfl rfl rfl rfl (Nat.le_of_ble_eq_true rfl) (Nat.le_of_ble_eq_true rfl) (ct_X7_codeAt hT hc) (fun r3 h3 e3 => ?_)
  obtain ⟨rfl, rfl⟩ := e3
  refine r_c (pc' := 8) dX7_figure_6 rfl kc_bipush_48 ?_
  refine r_s (pc' := 9) dX7_figure_8 rfl rfl ?_
  refine r_st_5_7 (pc' := 11) dX7_figure_9 rfl rfl rfl ?_
  refine r_s (pc' := 13) dX7_figure_11 rfl rfl ?_
  refine r_s (pc' := 14) dX7_figure_13 rfl rfl ?_
  refine r_s (pc' := 15) dX7_figure_14 rfl rfl ?_
  refine r_s (pc' := 16) dX7_figure_15 rfl rfl ?_
  refine r_topl ((show (0 : Int32).toInt64 = 0 from rfl)) ?_
  refine r_s (pc' := 18) dX7_figure_16 rfl rfl ?_
  refine r_s (pc' := 19) dX7_figure_18 rfl rfl ?_
  refine r_topl (nI_l (by omega)) ?_
  refine r_Si3 (pc' := 22) dX7_figure_19 rfl lX7_89 rfl (Nat.le_of_ble_eq_true rfl) (Nat.le_of_ble_eq_true rfl) (ct_in_m (n := g) (by omega)) (fun r19 h19 e19 => ?_)
  rcases e19 with ⟨rfl, rfl, j19, hj19, e19⟩ | ⟨rfl, rfl, hn19⟩
  · refine r_st_6_7 (pc' := 24) dX7_figure_22 rfl rfl rfl ?_
    have hlt : a < m := Nat.lt_of_not_le (fun h => by rw [cde_out h] at e19; exact absurd (show ((-9 : Int32) - 48) < 0 by decide) (by rw [e19]; exact nI_pos (by omega)))
    refine r_s (pc' := 25) dX7_figure_24 rfl rfl ?_
    refine r_s (pc' := 26) dX7_figure_25 rfl rfl ?_
    refine h_gi (pc' := 29) dX7_figure_26 rfl fX7_99 (hl_ rfl) rfl ?_
    refine r_top (hT.1) ?_
    refine r_s (pc' := 31) dX7_figure_29 rfl rfl ?_
    refine r_ifeq_f (pc' := 34) (tgt := 38) dX7_figure_31 rfl (by decide) (by decide) ?_
    refine r_c (pc' := 35) dX7_figure_34 rfl kc_iconst_1 ?_
    refine r_goto (tgt := 39) dX7_figure_35 (by decide) ?_
    refine r_s (pc' := 40) dX7_figure_39 rfl rfl ?_
    refine r_top (nI_1 _) ?_
    refine h_pi (pc' := 43) dX7_figure_40 rfl fX7_99 rfl (hl_ rfl) rfl ?_
    refine r_s (pc' := 45) dX7_figure_43 rfl rfl ?_
    refine r_ifeq_f (pc' := 48) (tgt := 53) dX7_figure_45 rfl (by decide) (by decide) ?_
    refine r_s (pc' := 50) dX7_figure_48 rfl rfl ?_
    refine r_goto (tgt := 55) dX7_figure_50 (by decide) ?_
    refine r_reti dX7_figure_55 rfl (rfl) (Nat.le_of_ble_eq_true rfl) (Nat.le_of_ble_eq_true rfl) ⟨_, rfl, ?_⟩
    exact Or.inl ⟨j19, by omega, rfl, e19, hlt, dgt_s (by omega) (by omega) e19⟩
  · refine r_st_6_7 (pc' := 24) dX7_figure_22 rfl rfl rfl ?_
    refine r_s (pc' := 25) dX7_figure_24 rfl rfl ?_
    refine r_s (pc' := 26) dX7_figure_25 rfl rfl ?_
    refine h_gi (pc' := 29) dX7_figure_26 rfl fX7_99 (hl_ rfl) rfl ?_
    refine r_top (hT.1) ?_
    refine r_s (pc' := 31) dX7_figure_29 rfl rfl ?_
    refine r_ifeq_t (tgt := 38) dX7_figure_31 (by decide) (by decide) ?_
    refine r_c (pc' := 39) dX7_figure_38 rfl kc_iconst_0 ?_
    refine r_s (pc' := 40) dX7_figure_39 rfl rfl ?_
    refine r_top (Int32.add_zero _) ?_
    refine h_pi (pc' := 43) dX7_figure_40 rfl fX7_99 rfl (hl_ rfl) rfl ?_
    rw [up_id hT.1]
    refine r_s (pc' := 45) dX7_figure_43 rfl rfl ?_
    refine r_ifeq_t (tgt := 53) dX7_figure_45 (by decide) (by decide) ?_
    refine r_c (pc' := 55) dX7_figure_53 rfl kc_bipush_m9 ?_
    refine r_reti dX7_figure_55 rfl (rfl) (Nat.le_of_ble_eq_true rfl) (Nat.le_of_ble_eq_true rfl) ⟨_, rfl, ?_⟩
    exact Or.inr ⟨rfl, rfl, dgt_n (by omega) hn19⟩

set_option maxHeartbeats 4000000 in
set_option maxRecDepth 100000 in
theorem ct_X7_readsInn {d : Nat} {x : hX} {I : Nat → Nat → Int32} {k f m : Nat} {c : Nat → Int32} {s : zpS} (hT : isTm I k f m s.1) (hc : isCm I k f m c) (hR : isRm I s.2) (hw : wfP s.2) (hg0 : zg s.2 = 0) : ci (d + 3) MX7_readsInn [.ref 80, .int (nI (60 * k + f)), .int (nI m)] (hp x I) (fun r h' => (h' = hp x I ∧ r = 0 ∧ (zi s.2 = 6 ∨ ¬ cde c m s.1 = 44)) ∨ (∃ I', h' = hp x I' ∧ r = 1 ∧ (zi s.2 < 6 ∧ cde c m s.1 = 44) ∧ (pI (cde c m) s).1 = true ∧ isTm I' k f m (pI (cde c m) s).2.1 ∧ isRm I' (pI (cde c m) s).2.2 ∧ wfP (pI (cde c m) s).2.2 ∧ frP I I') ∨ (∃ I', h' = hp x I' ∧ r = 0 ∧ (zi s.2 < 6 ∧ cde c m s.1 = 44) ∧ (pI (cde c m) s).1 = false ∧ isTm I' k f m (pI (cde c m) s).2.1 ∧ frP I I')) := by
  have ham := hT.2.1
  have hfm := hT.2.2.1
  have hk4 := hT.2.2.2
  have hb := hw.1
  have hbn := hw.2.1
  have hbg := hw.2.2.1
  refine c_in (L := [.ref 80, .int (nI (60 * k + f)), .int (nI m), .null, .null]) rfl rfl ?_
  refine r_s (pc' := 1) dX7_readsInn_0 rfl rfl ?_
  refine h_gi (pc' := 4) dX7_readsInn_1 rfl fX7_106 (hl_ rfl) rfl ?_
  refine r_top (hR.1) ?_
  refine r_c (pc' := 6) dX7_readsInn_4 rfl kc_bipush_6 ?_
  refine r_ceq (pc' := 9) (tgt := 20) dX7_readsInn_6 rfl (by decide) (fun c6 => ?_) (fun c6 => ?_)
  · refine r_c (pc' := 21) dX7_readsInn_20 rfl kc_iconst_0 ?_
    refine r_reti dX7_readsInn_21 rfl (rfl) (Nat.le_of_ble_eq_true rfl) (Nat.le_of_ble_eq_true rfl) ⟨_, rfl, ?_⟩
    exact Or.inl ⟨rfl, rfl, Or.inl ((nI_eq (by omega) (by decide)).mp c6)⟩
  · refine r_s (pc' := 10) dX7_readsInn_9 rfl rfl ?_
    refine r_s (pc' := 11) dX7_readsInn_10 rfl rfl ?_
    refine r_s (pc' := 12) dX7_readsInn_11 rfl rfl ?_
    refine r_Vi2 (pc' := 15) dX7_readsInn_12 rfl lX7_102 (hl_ rfl) rfl rfl rfl rfl (Nat.le_of_ble_eq_true rfl) (Nat.le_of_ble_eq_true rfl) (ct_X7_codeAt hT hc) (fun r12 h12 e12 => ?_)
    obtain ⟨rfl, rfl⟩ := e12
    refine r_c (pc' := 17) dX7_readsInn_15 rfl kc_bipush_44 ?_
    refine r_ceq (pc' := 20) (tgt := 22) dX7_readsInn_17 rfl (by decide) (fun c17 => ?_) (fun c17 => ?_)
    · have hz6 : zi s.2 < 6 := by have h6 : ¬ zi s.2 = 6 := fun h => c6 (by rw [h]; rfl); omega
      have hlt : s.1 < m := Nat.lt_of_not_le (fun h => by rw [cde_out h] at c17; exact absurd c17 (by decide))
      refine r_s (pc' := 23) dX7_readsInn_22 rfl rfl ?_
      refine r_s (pc' := 24) dX7_readsInn_23 rfl rfl ?_
      refine h_gi (pc' := 27) dX7_readsInn_24 rfl fX7_99 (hl_ rfl) rfl ?_
      refine r_top (hT.1) ?_
      refine r_c (pc' := 28) dX7_readsInn_27 rfl kc_iconst_1 ?_
      refine r_s (pc' := 29) dX7_readsInn_28 rfl rfl ?_
      refine r_top (nI_1 _) ?_
      refine h_pi (pc' := 32) dX7_readsInn_29 rfl fX7_99 rfl (hl_ rfl) rfl ?_
      refine r_s (pc' := 33) dX7_readsInn_32 rfl rfl ?_
      refine r_s (pc' := 34) dX7_readsInn_33 rfl rfl ?_
      refine r_s (pc' := 35) dX7_readsInn_34 rfl rfl ?_
      refine r_Vi2 (pc' := 38) dX7_readsInn_35 rfl lX7_102 (hl_ rfl) rfl rfl rfl rfl (Nat.le_of_ble_eq_true rfl) (Nat.le_of_ble_eq_true rfl) (ct_X7_codeAt (hT.at hlt) (hc.fr (frP_f (by decide) (by decide)))) (fun r35 h35 e35 => ?_)
      obtain ⟨rfl, rfl⟩ := e35
      refine r_st_3_5 (pc' := 39) dX7_readsInn_38 rfl rfl rfl ?_
      refine r_s (pc' := 40) dX7_readsInn_39 rfl rfl ?_
      refine r_c (pc' := 42) dX7_readsInn_40 rfl kc_bipush_110 ?_
      refine r_ceq (pc' := 45) (tgt := 59) dX7_readsInn_42 rfl (by decide) (fun c42 => ?_) (fun c42 => ?_)
      · have hlt1 : s.1 + 1 < m := Nat.lt_of_not_le (fun h => by rw [cde_out h] at c42; exact absurd c42 (by decide))
        refine r_s (pc' := 60) dX7_readsInn_59 rfl rfl ?_
        refine r_s (pc' := 61) dX7_readsInn_60 rfl rfl ?_
        refine h_gi (pc' := 64) dX7_readsInn_61 rfl fX7_99 (hl_ rfl) rfl ?_
        refine r_top (up_s) ?_
        refine r_c (pc' := 65) dX7_readsInn_64 rfl kc_iconst_1 ?_
        refine r_s (pc' := 66) dX7_readsInn_65 rfl rfl ?_
        refine r_top (nI_1 _) ?_
        refine h_pi (pc' := 69) dX7_readsInn_66 rfl fX7_99 rfl (hl_ rfl) rfl ?_
        refine r_s (pc' := 70) dX7_readsInn_69 rfl rfl ?_
        refine r_s (pc' := 71) dX7_readsInn_70 rfl rfl ?_
        refine r_s (pc' := 72) dX7_readsInn_71 rfl rfl ?_
        refine r_c (pc' := 73) dX7_readsInn_72 rfl kc_iconst_0 ?_
        refine r_c (pc' := 75) dX7_readsInn_73 rfl kc_bipush_9 ?_
        refine r_Vi4 (pc' := 78) dX7_readsInn_75 rfl lX7_109 (hl_ rfl) rfl rfl rfl rfl (Nat.le_of_ble_eq_true rfl) (Nat.le_of_ble_eq_true rfl) (ct_X7_figure (g := 9) ((hT.at hlt).at hlt1) ((hc.fr (frP_f (by decide) (by decide))).fr (frP_f (by decide) (by decide))) (by omega)) (fun r75 h75 e75 => ?_)
        rcases e75 with ⟨v, hv, rfl, rfl, hlt2, ev⟩ | ⟨rfl, rfl, ev⟩
        · refine r_st_4_5 (pc' := 80) dX7_readsInn_78 rfl rfl rfl ?_
          refine r_s (pc' := 82) dX7_readsInn_80 rfl rfl ?_
          refine r_ifge_t (tgt := 87) dX7_readsInn_82 (by decide) (nI_pos' (by omega)) ?_
          refine r_s (pc' := 88) dX7_readsInn_87 rfl rfl ?_
          refine r_gr (pc' := 91) dX7_readsInn_88 rfl fX7_28 (hl_ rfl) rfl rfl ?_
          refine r_s (pc' := 92) dX7_readsInn_91 rfl rfl ?_
          refine h_gi (pc' := 95) dX7_readsInn_92 rfl fX7_106 (hl_ rfl) rfl ?_
          refine r_top ((((hR.at).at).at).1) ?_
          refine r_s (pc' := 96) dX7_readsInn_95 rfl rfl ?_
          refine r_c (pc' := 98) dX7_readsInn_96 rfl kc_bipush_110 ?_
          refine r_cne_f (pc' := 101) (tgt := 105) dX7_readsInn_98 rfl (by decide) (c42) ?_
          refine r_c (pc' := 102) dX7_readsInn_101 rfl kc_iconst_0 ?_
          refine r_goto (tgt := 116) dX7_readsInn_102 (by decide) ?_
          refine h_ast (pc' := 117) dX7_readsInn_116 rfl (hl_ rfl) rfl (vp_in_nI (by omega) (by decide)) (nI_clamp (by omega)) ?_
          refine r_s (pc' := 118) dX7_readsInn_117 rfl rfl ?_
          refine r_gr (pc' := 121) dX7_readsInn_118 rfl fX7_31 (hl_ rfl) rfl rfl ?_
          refine r_s (pc' := 122) dX7_readsInn_121 rfl rfl ?_
          refine h_gi (pc' := 125) dX7_readsInn_122 rfl fX7_106 (hl_ rfl) rfl ?_
          refine r_top ((show _ = nI (zi s.2) by rw [up_o (by decide)]; exact (((hR.at).at).at).1)) ?_
          refine r_s (pc' := 127) dX7_readsInn_125 rfl rfl ?_
          refine h_ast (pc' := 128) dX7_readsInn_127 rfl (hl_ rfl) rfl (vp_in_nI (by omega) (by decide)) (nI_clamp (by omega)) ?_
          refine r_s (pc' := 129) dX7_readsInn_128 rfl rfl ?_
          refine r_s (pc' := 130) dX7_readsInn_129 rfl rfl ?_
          refine h_gi (pc' := 133) dX7_readsInn_130 rfl fX7_106 (hl_ rfl) rfl ?_
          refine r_top ((show _ = nI (zi s.2) by rw [up_o (by decide), up_o (by decide)]; exact (((hR.at).at).at).1)) ?_
          refine r_c (pc' := 134) dX7_readsInn_133 rfl kc_iconst_1 ?_
          refine r_s (pc' := 135) dX7_readsInn_134 rfl rfl ?_
          refine r_top (nI_1 _) ?_
          refine h_pi (pc' := 138) dX7_readsInn_135 rfl fX7_106 rfl (hl_ rfl) rfl ?_
          refine r_c (pc' := 139) dX7_readsInn_138 rfl kc_iconst_1 ?_
          refine r_reti dX7_readsInn_139 rfl (rfl) (Nat.le_of_ble_eq_true rfl) (Nat.le_of_ble_eq_true rfl) ⟨_, rfl, ?_⟩
          have hp : pI (cde c m) s = (true, s.1 + 1 + 1 + 1, adI s.2 0 v) := by unfold pI; rw [show kdc (cde c m (s.1 + 1)) = some 0 by unfold kdc; rw [if_pos c42]]; simp only []; rw [ev]
          exact Or.inr (Or.inl ⟨_, rfl, rfl, ⟨hz6, c17⟩, by rw [hp], by rw [hp]; exact (((((hT.at hlt).at hlt1).at hlt2).up (Or.inl (by decide))).up (Or.inl (by decide))).up (Or.inr (by decide)), by rw [hp]; exact isRm.I (kd := 0) (((hR.at).at).at), by rw [hp]; exact hw.I hg0 hz6 (by decide) hv, (((((frP_f (by decide) (by decide)).tr (frP_f (by decide) (by decide))).tr (frP_f (by decide) (by decide))).tr (frP_a (by decide) (by decide))).tr (frP_a (by decide) (by decide))).tr (frP_f (by decide) (by decide))⟩)
        · refine r_st_4_5 (pc' := 80) dX7_readsInn_78 rfl rfl rfl ?_
          refine r_s (pc' := 82) dX7_readsInn_80 rfl rfl ?_
          refine r_ifge_f (pc' := 85) (tgt := 87) dX7_readsInn_82 rfl (by decide) (by decide) ?_
          refine r_c (pc' := 86) dX7_readsInn_85 rfl kc_iconst_0 ?_
          refine r_reti dX7_readsInn_86 rfl (rfl) (Nat.le_of_ble_eq_true rfl) (Nat.le_of_ble_eq_true rfl) ⟨_, rfl, ?_⟩
          have hp : pI (cde c m) s = (false, s.1 + 1 + 1, s.2) := by unfold pI; rw [show kdc (cde c m (s.1 + 1)) = some 0 by unfold kdc; rw [if_pos c42]]; simp only []; rw [ev]
          exact Or.inr (Or.inr ⟨_, rfl, rfl, ⟨hz6, c17⟩, by rw [hp], by rw [hp]; exact ((hT.at hlt).at hlt1), ((frP_f (by decide) (by decide)).tr (frP_f (by decide) (by decide)))⟩)
      · refine r_s (pc' := 46) dX7_readsInn_45 rfl rfl ?_
        refine r_c (pc' := 48) dX7_readsInn_46 rfl kc_bipush_108 ?_
        refine r_ceq (pc' := 51) (tgt := 59) dX7_readsInn_48 rfl (by decide) (fun c48 => ?_) (fun c48 => ?_)
        · have hlt1 : s.1 + 1 < m := Nat.lt_of_not_le (fun h => by rw [cde_out h] at c48; exact absurd c48 (by decide))
          refine r_s (pc' := 60) dX7_readsInn_59 rfl rfl ?_
          refine r_s (pc' := 61) dX7_readsInn_60 rfl rfl ?_
          refine h_gi (pc' := 64) dX7_readsInn_61 rfl fX7_99 (hl_ rfl) rfl ?_
          refine r_top (up_s) ?_
          refine r_c (pc' := 65) dX7_readsInn_64 rfl kc_iconst_1 ?_
          refine r_s (pc' := 66) dX7_readsInn_65 rfl rfl ?_
          refine r_top (nI_1 _) ?_
          refine h_pi (pc' := 69) dX7_readsInn_66 rfl fX7_99 rfl (hl_ rfl) rfl ?_
          refine r_s (pc' := 70) dX7_readsInn_69 rfl rfl ?_
          refine r_s (pc' := 71) dX7_readsInn_70 rfl rfl ?_
          refine r_s (pc' := 72) dX7_readsInn_71 rfl rfl ?_
          refine r_c (pc' := 73) dX7_readsInn_72 rfl kc_iconst_0 ?_
          refine r_c (pc' := 75) dX7_readsInn_73 rfl kc_bipush_9 ?_
          refine r_Vi4 (pc' := 78) dX7_readsInn_75 rfl lX7_109 (hl_ rfl) rfl rfl rfl rfl (Nat.le_of_ble_eq_true rfl) (Nat.le_of_ble_eq_true rfl) (ct_X7_figure (g := 9) ((hT.at hlt).at hlt1) ((hc.fr (frP_f (by decide) (by decide))).fr (frP_f (by decide) (by decide))) (by omega)) (fun r75 h75 e75 => ?_)
          rcases e75 with ⟨v, hv, rfl, rfl, hlt2, ev⟩ | ⟨rfl, rfl, ev⟩
          · refine r_st_4_5 (pc' := 80) dX7_readsInn_78 rfl rfl rfl ?_
            refine r_s (pc' := 82) dX7_readsInn_80 rfl rfl ?_
            refine r_ifge_t (tgt := 87) dX7_readsInn_82 (by decide) (nI_pos' (by omega)) ?_
            refine r_s (pc' := 88) dX7_readsInn_87 rfl rfl ?_
            refine r_gr (pc' := 91) dX7_readsInn_88 rfl fX7_28 (hl_ rfl) rfl rfl ?_
            refine r_s (pc' := 92) dX7_readsInn_91 rfl rfl ?_
            refine h_gi (pc' := 95) dX7_readsInn_92 rfl fX7_106 (hl_ rfl) rfl ?_
            refine r_top ((((hR.at).at).at).1) ?_
            refine r_s (pc' := 96) dX7_readsInn_95 rfl rfl ?_
            refine r_c (pc' := 98) dX7_readsInn_96 rfl kc_bipush_110 ?_
            refine r_cne_t (tgt := 105) dX7_readsInn_98 (by decide) (c42) ?_
            refine r_s (pc' := 106) dX7_readsInn_105 rfl rfl ?_
            refine r_c (pc' := 108) dX7_readsInn_106 rfl kc_bipush_108 ?_
            refine r_cne_f (pc' := 111) (tgt := 115) dX7_readsInn_108 rfl (by decide) (c48) ?_
            refine r_c (pc' := 112) dX7_readsInn_111 rfl kc_iconst_1 ?_
            refine r_goto (tgt := 116) dX7_readsInn_112 (by decide) ?_
            refine h_ast (pc' := 117) dX7_readsInn_116 rfl (hl_ rfl) rfl (vp_in_nI (by omega) (by decide)) (nI_clamp (by omega)) ?_
            refine r_s (pc' := 118) dX7_readsInn_117 rfl rfl ?_
            refine r_gr (pc' := 121) dX7_readsInn_118 rfl fX7_31 (hl_ rfl) rfl rfl ?_
            refine r_s (pc' := 122) dX7_readsInn_121 rfl rfl ?_
            refine h_gi (pc' := 125) dX7_readsInn_122 rfl fX7_106 (hl_ rfl) rfl ?_
            refine r_top ((show _ = nI (zi s.2) by rw [up_o (by decide)]; exact (((hR.at).at).at).1)) ?_
            refine r_s (pc' := 127) dX7_readsInn_125 rfl rfl ?_
            refine h_ast (pc' := 128) dX7_readsInn_127 rfl (hl_ rfl) rfl (vp_in_nI (by omega) (by decide)) (nI_clamp (by omega)) ?_
            refine r_s (pc' := 129) dX7_readsInn_128 rfl rfl ?_
            refine r_s (pc' := 130) dX7_readsInn_129 rfl rfl ?_
            refine h_gi (pc' := 133) dX7_readsInn_130 rfl fX7_106 (hl_ rfl) rfl ?_
            refine r_top ((show _ = nI (zi s.2) by rw [up_o (by decide), up_o (by decide)]; exact (((hR.at).at).at).1)) ?_
            refine r_c (pc' := 134) dX7_readsInn_133 rfl kc_iconst_1 ?_
            refine r_s (pc' := 135) dX7_readsInn_134 rfl rfl ?_
            refine r_top (nI_1 _) ?_
            refine h_pi (pc' := 138) dX7_readsInn_135 rfl fX7_106 rfl (hl_ rfl) rfl ?_
            refine r_c (pc' := 139) dX7_readsInn_138 rfl kc_iconst_1 ?_
            refine r_reti dX7_readsInn_139 rfl (rfl) (Nat.le_of_ble_eq_true rfl) (Nat.le_of_ble_eq_true rfl) ⟨_, rfl, ?_⟩
            have hp : pI (cde c m) s = (true, s.1 + 1 + 1 + 1, adI s.2 1 v) := by unfold pI; rw [show kdc (cde c m (s.1 + 1)) = some 1 by unfold kdc; rw [if_neg c42, if_pos c48]]; simp only []; rw [ev]
            exact Or.inr (Or.inl ⟨_, rfl, rfl, ⟨hz6, c17⟩, by rw [hp], by rw [hp]; exact (((((hT.at hlt).at hlt1).at hlt2).up (Or.inl (by decide))).up (Or.inl (by decide))).up (Or.inr (by decide)), by rw [hp]; exact isRm.I (kd := 1) (((hR.at).at).at), by rw [hp]; exact hw.I hg0 hz6 (by decide) hv, (((((frP_f (by decide) (by decide)).tr (frP_f (by decide) (by decide))).tr (frP_f (by decide) (by decide))).tr (frP_a (by decide) (by decide))).tr (frP_a (by decide) (by decide))).tr (frP_f (by decide) (by decide))⟩)
          · refine r_st_4_5 (pc' := 80) dX7_readsInn_78 rfl rfl rfl ?_
            refine r_s (pc' := 82) dX7_readsInn_80 rfl rfl ?_
            refine r_ifge_f (pc' := 85) (tgt := 87) dX7_readsInn_82 rfl (by decide) (by decide) ?_
            refine r_c (pc' := 86) dX7_readsInn_85 rfl kc_iconst_0 ?_
            refine r_reti dX7_readsInn_86 rfl (rfl) (Nat.le_of_ble_eq_true rfl) (Nat.le_of_ble_eq_true rfl) ⟨_, rfl, ?_⟩
            have hp : pI (cde c m) s = (false, s.1 + 1 + 1, s.2) := by unfold pI; rw [show kdc (cde c m (s.1 + 1)) = some 1 by unfold kdc; rw [if_neg c42, if_pos c48]]; simp only []; rw [ev]
            exact Or.inr (Or.inr ⟨_, rfl, rfl, ⟨hz6, c17⟩, by rw [hp], by rw [hp]; exact ((hT.at hlt).at hlt1), ((frP_f (by decide) (by decide)).tr (frP_f (by decide) (by decide)))⟩)
        · refine r_s (pc' := 52) dX7_readsInn_51 rfl rfl ?_
          refine r_c (pc' := 54) dX7_readsInn_52 rfl kc_bipush_99 ?_
          refine r_ceq (pc' := 57) (tgt := 59) dX7_readsInn_54 rfl (by decide) (fun c54 => ?_) (fun c54 => ?_)
          · have hlt1 : s.1 + 1 < m := Nat.lt_of_not_le (fun h => by rw [cde_out h] at c54; exact absurd c54 (by decide))
            refine r_s (pc' := 60) dX7_readsInn_59 rfl rfl ?_
            refine r_s (pc' := 61) dX7_readsInn_60 rfl rfl ?_
            refine h_gi (pc' := 64) dX7_readsInn_61 rfl fX7_99 (hl_ rfl) rfl ?_
            refine r_top (up_s) ?_
            refine r_c (pc' := 65) dX7_readsInn_64 rfl kc_iconst_1 ?_
            refine r_s (pc' := 66) dX7_readsInn_65 rfl rfl ?_
            refine r_top (nI_1 _) ?_
            refine h_pi (pc' := 69) dX7_readsInn_66 rfl fX7_99 rfl (hl_ rfl) rfl ?_
            refine r_s (pc' := 70) dX7_readsInn_69 rfl rfl ?_
            refine r_s (pc' := 71) dX7_readsInn_70 rfl rfl ?_
            refine r_s (pc' := 72) dX7_readsInn_71 rfl rfl ?_
            refine r_c (pc' := 73) dX7_readsInn_72 rfl kc_iconst_0 ?_
            refine r_c (pc' := 75) dX7_readsInn_73 rfl kc_bipush_9 ?_
            refine r_Vi4 (pc' := 78) dX7_readsInn_75 rfl lX7_109 (hl_ rfl) rfl rfl rfl rfl (Nat.le_of_ble_eq_true rfl) (Nat.le_of_ble_eq_true rfl) (ct_X7_figure (g := 9) ((hT.at hlt).at hlt1) ((hc.fr (frP_f (by decide) (by decide))).fr (frP_f (by decide) (by decide))) (by omega)) (fun r75 h75 e75 => ?_)
            rcases e75 with ⟨v, hv, rfl, rfl, hlt2, ev⟩ | ⟨rfl, rfl, ev⟩
            · refine r_st_4_5 (pc' := 80) dX7_readsInn_78 rfl rfl rfl ?_
              refine r_s (pc' := 82) dX7_readsInn_80 rfl rfl ?_
              refine r_ifge_t (tgt := 87) dX7_readsInn_82 (by decide) (nI_pos' (by omega)) ?_
              refine r_s (pc' := 88) dX7_readsInn_87 rfl rfl ?_
              refine r_gr (pc' := 91) dX7_readsInn_88 rfl fX7_28 (hl_ rfl) rfl rfl ?_
              refine r_s (pc' := 92) dX7_readsInn_91 rfl rfl ?_
              refine h_gi (pc' := 95) dX7_readsInn_92 rfl fX7_106 (hl_ rfl) rfl ?_
              refine r_top ((((hR.at).at).at).1) ?_
              refine r_s (pc' := 96) dX7_readsInn_95 rfl rfl ?_
              refine r_c (pc' := 98) dX7_readsInn_96 rfl kc_bipush_110 ?_
              refine r_cne_t (tgt := 105) dX7_readsInn_98 (by decide) (c42) ?_
              refine r_s (pc' := 106) dX7_readsInn_105 rfl rfl ?_
              refine r_c (pc' := 108) dX7_readsInn_106 rfl kc_bipush_108 ?_
              refine r_cne_t (tgt := 115) dX7_readsInn_108 (by decide) (c48) ?_
              refine r_c (pc' := 116) dX7_readsInn_115 rfl kc_iconst_2 ?_
              refine h_ast (pc' := 117) dX7_readsInn_116 rfl (hl_ rfl) rfl (vp_in_nI (by omega) (by decide)) (nI_clamp (by omega)) ?_
              refine r_s (pc' := 118) dX7_readsInn_117 rfl rfl ?_
              refine r_gr (pc' := 121) dX7_readsInn_118 rfl fX7_31 (hl_ rfl) rfl rfl ?_
              refine r_s (pc' := 122) dX7_readsInn_121 rfl rfl ?_
              refine h_gi (pc' := 125) dX7_readsInn_122 rfl fX7_106 (hl_ rfl) rfl ?_
              refine r_top ((show _ = nI (zi s.2) by rw [up_o (by decide)]; exact (((hR.at).at).at).1)) ?_
              refine r_s (pc' := 127) dX7_readsInn_125 rfl rfl ?_
              refine h_ast (pc' := 128) dX7_readsInn_127 rfl (hl_ rfl) rfl (vp_in_nI (by omega) (by decide)) (nI_clamp (by omega)) ?_
              refine r_s (pc' := 129) dX7_readsInn_128 rfl rfl ?_
              refine r_s (pc' := 130) dX7_readsInn_129 rfl rfl ?_
              refine h_gi (pc' := 133) dX7_readsInn_130 rfl fX7_106 (hl_ rfl) rfl ?_
              refine r_top ((show _ = nI (zi s.2) by rw [up_o (by decide), up_o (by decide)]; exact (((hR.at).at).at).1)) ?_
              refine r_c (pc' := 134) dX7_readsInn_133 rfl kc_iconst_1 ?_
              refine r_s (pc' := 135) dX7_readsInn_134 rfl rfl ?_
              refine r_top (nI_1 _) ?_
              refine h_pi (pc' := 138) dX7_readsInn_135 rfl fX7_106 rfl (hl_ rfl) rfl ?_
              refine r_c (pc' := 139) dX7_readsInn_138 rfl kc_iconst_1 ?_
              refine r_reti dX7_readsInn_139 rfl (rfl) (Nat.le_of_ble_eq_true rfl) (Nat.le_of_ble_eq_true rfl) ⟨_, rfl, ?_⟩
              have hp : pI (cde c m) s = (true, s.1 + 1 + 1 + 1, adI s.2 2 v) := by unfold pI; rw [show kdc (cde c m (s.1 + 1)) = some 2 by unfold kdc; rw [if_neg c42, if_neg c48, if_pos c54]]; simp only []; rw [ev]
              exact Or.inr (Or.inl ⟨_, rfl, rfl, ⟨hz6, c17⟩, by rw [hp], by rw [hp]; exact (((((hT.at hlt).at hlt1).at hlt2).up (Or.inl (by decide))).up (Or.inl (by decide))).up (Or.inr (by decide)), by rw [hp]; exact isRm.I (kd := 2) (((hR.at).at).at), by rw [hp]; exact hw.I hg0 hz6 (by decide) hv, (((((frP_f (by decide) (by decide)).tr (frP_f (by decide) (by decide))).tr (frP_f (by decide) (by decide))).tr (frP_a (by decide) (by decide))).tr (frP_a (by decide) (by decide))).tr (frP_f (by decide) (by decide))⟩)
            · refine r_st_4_5 (pc' := 80) dX7_readsInn_78 rfl rfl rfl ?_
              refine r_s (pc' := 82) dX7_readsInn_80 rfl rfl ?_
              refine r_ifge_f (pc' := 85) (tgt := 87) dX7_readsInn_82 rfl (by decide) (by decide) ?_
              refine r_c (pc' := 86) dX7_readsInn_85 rfl kc_iconst_0 ?_
              refine r_reti dX7_readsInn_86 rfl (rfl) (Nat.le_of_ble_eq_true rfl) (Nat.le_of_ble_eq_true rfl) ⟨_, rfl, ?_⟩
              have hp : pI (cde c m) s = (false, s.1 + 1 + 1, s.2) := by unfold pI; rw [show kdc (cde c m (s.1 + 1)) = some 2 by unfold kdc; rw [if_neg c42, if_neg c48, if_pos c54]]; simp only []; rw [ev]
              exact Or.inr (Or.inr ⟨_, rfl, rfl, ⟨hz6, c17⟩, by rw [hp], by rw [hp]; exact ((hT.at hlt).at hlt1), ((frP_f (by decide) (by decide)).tr (frP_f (by decide) (by decide)))⟩)
          · refine r_c (pc' := 58) dX7_readsInn_57 rfl kc_iconst_0 ?_
            refine r_reti dX7_readsInn_58 rfl (rfl) (Nat.le_of_ble_eq_true rfl) (Nat.le_of_ble_eq_true rfl) ⟨_, rfl, ?_⟩
            have hp : pI (cde c m) s = (false, s.1 + 1, s.2) := by unfold pI; rw [show kdc (cde c m (s.1 + 1)) = none by unfold kdc; rw [if_neg c42, if_neg c48, if_neg c54]]
            exact Or.inr (Or.inr ⟨_, rfl, rfl, ⟨hz6, c17⟩, by rw [hp], by rw [hp]; exact (hT.at hlt), (frP_f (by decide) (by decide))⟩)
    · refine r_c (pc' := 21) dX7_readsInn_20 rfl kc_iconst_0 ?_
      refine r_reti dX7_readsInn_21 rfl (rfl) (Nat.le_of_ble_eq_true rfl) (Nat.le_of_ble_eq_true rfl) ⟨_, rfl, ?_⟩
      exact Or.inl ⟨rfl, rfl, Or.inr c17⟩

set_option maxHeartbeats 4000000 in
set_option maxRecDepth 100000 in
theorem ct_X7_readsNight {d : Nat} {x : hX} {I : Nat → Nat → Int32} {k f m : Nat} {c : Nat → Int32} {s : zpS} (hT : isTm I k f m s.1) (hc : isCm I k f m c) (hR : isRm I s.2) (hw : wfP s.2) : ci (d + 3) MX7_readsNight [.ref 80, .int (nI (60 * k + f)), .int (nI m)] (hp x I) (fun r h' => (h' = hp x I ∧ r = 0 ∧ (zn s.2 = 8 ∨ wnd (cde c m s.1) = none)) ∨ (∃ w I', h' = hp x I' ∧ r = 1 ∧ (zn s.2 < 8 ∧ wnd (cde c m s.1) = some w) ∧ (pN (cde c m) w s).1 = true ∧ isTm I' k f m (pN (cde c m) w s).2.1 ∧ isRm I' (pN (cde c m) w s).2.2 ∧ wfP (pN (cde c m) w s).2.2 ∧ frP I I') ∨ (∃ w I', h' = hp x I' ∧ r = 0 ∧ (zn s.2 < 8 ∧ wnd (cde c m s.1) = some w) ∧ (pN (cde c m) w s).1 = false ∧ isTm I' k f m (pN (cde c m) w s).2.1 ∧ frP I I')) := by
  have ham := hT.2.1
  have hfm := hT.2.2.1
  have hk4 := hT.2.2.2
  have hb := hw.1
  have hbn := hw.2.1
  have hbg := hw.2.2.1
  refine c_in (L := [.ref 80, .int (nI (60 * k + f)), .int (nI m), .null, .null]) rfl rfl ?_
  refine r_s (pc' := 1) dX7_readsNight_0 rfl rfl ?_
  refine r_s (pc' := 2) dX7_readsNight_1 rfl rfl ?_
  refine r_s (pc' := 3) dX7_readsNight_2 rfl rfl ?_
  refine r_Vi2 (pc' := 6) dX7_readsNight_3 rfl lX7_102 (hl_ rfl) rfl rfl rfl rfl (Nat.le_of_ble_eq_true rfl) (Nat.le_of_ble_eq_true rfl) (ct_X7_codeAt hT hc) (fun r3 h3 e3 => ?_)
  obtain ⟨rfl, rfl⟩ := e3
  refine r_st_3_5 (pc' := 7) dX7_readsNight_6 rfl rfl rfl ?_
  refine r_s (pc' := 8) dX7_readsNight_7 rfl rfl ?_
  refine h_gi (pc' := 11) dX7_readsNight_8 rfl fX7_113 (hl_ rfl) rfl ?_
  refine r_top (hR.2.1) ?_
  refine r_c (pc' := 13) dX7_readsNight_11 rfl kc_bipush_8 ?_
  refine r_ceq (pc' := 16) (tgt := 28) dX7_readsNight_13 rfl (by decide) (fun c13 => ?_) (fun c13 => ?_)
  · refine r_c (pc' := 29) dX7_readsNight_28 rfl kc_iconst_0 ?_
    refine r_reti dX7_readsNight_29 rfl (rfl) (Nat.le_of_ble_eq_true rfl) (Nat.le_of_ble_eq_true rfl) ⟨_, rfl, ?_⟩
    exact Or.inl ⟨rfl, rfl, Or.inl ((nI_eq (by omega) (by decide)).mp c13)⟩
  · refine r_s (pc' := 17) dX7_readsNight_16 rfl rfl ?_
    refine r_c (pc' := 19) dX7_readsNight_17 rfl kc_bipush_62 ?_
    refine r_ceq (pc' := 22) (tgt := 30) dX7_readsNight_19 rfl (by decide) (fun c19 => ?_) (fun c19 => ?_)
    · have hz8 : zn s.2 < 8 := by have h6 : ¬ zn s.2 = 8 := fun h => c13 (by rw [h]; rfl); omega
      have hlt : s.1 < m := Nat.lt_of_not_le (fun h => by rw [cde_out h] at c19; exact absurd c19 (by decide))
      refine r_s (pc' := 31) dX7_readsNight_30 rfl rfl ?_
      refine r_s (pc' := 32) dX7_readsNight_31 rfl rfl ?_
      refine h_gi (pc' := 35) dX7_readsNight_32 rfl fX7_99 (hl_ rfl) rfl ?_
      refine r_top (hT.1) ?_
      refine r_c (pc' := 36) dX7_readsNight_35 rfl kc_iconst_1 ?_
      refine r_s (pc' := 37) dX7_readsNight_36 rfl rfl ?_
      refine r_top (nI_1 _) ?_
      refine h_pi (pc' := 40) dX7_readsNight_37 rfl fX7_99 rfl (hl_ rfl) rfl ?_
      refine r_s (pc' := 41) dX7_readsNight_40 rfl rfl ?_
      refine r_s (pc' := 42) dX7_readsNight_41 rfl rfl ?_
      refine r_s (pc' := 43) dX7_readsNight_42 rfl rfl ?_
      refine r_c (pc' := 44) dX7_readsNight_43 rfl kc_iconst_0 ?_
      refine r_c (pc' := 45) dX7_readsNight_44 rfl kc_iconst_5 ?_
      refine r_Vi4 (pc' := 48) dX7_readsNight_45 rfl lX7_109 (hl_ rfl) rfl rfl rfl rfl (Nat.le_of_ble_eq_true rfl) (Nat.le_of_ble_eq_true rfl) (ct_X7_figure (g := 5) (hT.at hlt) (hc.fr (frP_f (by decide) (by decide))) (by omega)) (fun r45 h45 e45 => ?_)
      rcases e45 with ⟨v, hv, rfl, rfl, hlt1, ev⟩ | ⟨rfl, rfl, ev⟩
      · refine r_st_4_5 (pc' := 50) dX7_readsNight_48 rfl rfl rfl ?_
        refine r_s (pc' := 52) dX7_readsNight_50 rfl rfl ?_
        refine r_ifge_t (tgt := 57) dX7_readsNight_52 (by decide) (nI_pos' (by omega)) ?_
        refine r_s (pc' := 58) dX7_readsNight_57 rfl rfl ?_
        refine r_gr (pc' := 61) dX7_readsNight_58 rfl fX7_34 (hl_ rfl) rfl rfl ?_
        refine r_s (pc' := 62) dX7_readsNight_61 rfl rfl ?_
        refine h_gi (pc' := 65) dX7_readsNight_62 rfl fX7_113 (hl_ rfl) rfl ?_
        refine r_top (((hR.at).at).2.1) ?_
        refine r_s (pc' := 66) dX7_readsNight_65 rfl rfl ?_
        refine r_c (pc' := 68) dX7_readsNight_66 rfl kc_bipush_62 ?_
        refine r_cne_f (pc' := 71) (tgt := 75) dX7_readsNight_68 rfl (by decide) (c19) ?_
        refine r_c (pc' := 72) dX7_readsNight_71 rfl kc_iconst_0 ?_
        refine r_goto (tgt := 76) dX7_readsNight_72 (by decide) ?_
        refine h_ast (pc' := 77) dX7_readsNight_76 rfl (hl_ rfl) rfl (vp_in_nI (by omega) (by decide)) (nI_clamp (by omega)) ?_
        refine r_s (pc' := 78) dX7_readsNight_77 rfl rfl ?_
        refine r_gr (pc' := 81) dX7_readsNight_78 rfl fX7_37 (hl_ rfl) rfl rfl ?_
        refine r_s (pc' := 82) dX7_readsNight_81 rfl rfl ?_
        refine h_gi (pc' := 85) dX7_readsNight_82 rfl fX7_113 (hl_ rfl) rfl ?_
        refine r_top ((show _ = nI (zn s.2) by rw [up_o (by decide)]; exact ((hR.at).at).2.1)) ?_
        refine r_s (pc' := 87) dX7_readsNight_85 rfl rfl ?_
        refine h_ast (pc' := 88) dX7_readsNight_87 rfl (hl_ rfl) rfl (vp_in_nI (by omega) (by decide)) (nI_clamp (by omega)) ?_
        refine r_s (pc' := 89) dX7_readsNight_88 rfl rfl ?_
        refine r_s (pc' := 90) dX7_readsNight_89 rfl rfl ?_
        refine h_gi (pc' := 93) dX7_readsNight_90 rfl fX7_113 (hl_ rfl) rfl ?_
        refine r_top ((show _ = nI (zn s.2) by rw [up_o (by decide), up_o (by decide)]; exact ((hR.at).at).2.1)) ?_
        refine r_c (pc' := 94) dX7_readsNight_93 rfl kc_iconst_1 ?_
        refine r_s (pc' := 95) dX7_readsNight_94 rfl rfl ?_
        refine r_top (nI_1 _) ?_
        refine h_pi (pc' := 98) dX7_readsNight_95 rfl fX7_113 rfl (hl_ rfl) rfl ?_
        refine r_c (pc' := 99) dX7_readsNight_98 rfl kc_iconst_1 ?_
        refine r_reti dX7_readsNight_99 rfl (rfl) (Nat.le_of_ble_eq_true rfl) (Nat.le_of_ble_eq_true rfl) ⟨_, rfl, ?_⟩
        have hp : pN (cde c m) 0 s = (true, s.1 + 1 + 1, adN s.2 0 v) := by unfold pN; rw [ev]
        exact Or.inr (Or.inl ⟨0, _, rfl, rfl, ⟨hz8, by unfold wnd; rw [if_pos c19]⟩, by rw [hp], by rw [hp]; exact ((((hT.at hlt).at hlt1).up (Or.inl (by decide))).up (Or.inl (by decide))).up (Or.inr (by decide)), by rw [hp]; exact isRm.N (w := 0) ((hR.at).at), by rw [hp]; exact hw.N hz8 (by decide) hv, ((((frP_f (by decide) (by decide)).tr (frP_f (by decide) (by decide))).tr (frP_a (by decide) (by decide))).tr (frP_a (by decide) (by decide))).tr (frP_f (by decide) (by decide))⟩)
      · refine r_st_4_5 (pc' := 50) dX7_readsNight_48 rfl rfl rfl ?_
        refine r_s (pc' := 52) dX7_readsNight_50 rfl rfl ?_
        refine r_ifge_f (pc' := 55) (tgt := 57) dX7_readsNight_52 rfl (by decide) (by decide) ?_
        refine r_c (pc' := 56) dX7_readsNight_55 rfl kc_iconst_0 ?_
        refine r_reti dX7_readsNight_56 rfl (rfl) (Nat.le_of_ble_eq_true rfl) (Nat.le_of_ble_eq_true rfl) ⟨_, rfl, ?_⟩
        have hp : pN (cde c m) 0 s = (false, s.1 + 1, s.2) := by unfold pN; rw [ev]
        exact Or.inr (Or.inr ⟨0, _, rfl, rfl, ⟨hz8, by unfold wnd; rw [if_pos c19]⟩, by rw [hp], by rw [hp]; exact (hT.at hlt), (frP_f (by decide) (by decide))⟩)
    · refine r_s (pc' := 23) dX7_readsNight_22 rfl rfl ?_
      refine r_c (pc' := 25) dX7_readsNight_23 rfl kc_bipush_60 ?_
      refine r_ceq (pc' := 28) (tgt := 30) dX7_readsNight_25 rfl (by decide) (fun c25 => ?_) (fun c25 => ?_)
      · have hz8 : zn s.2 < 8 := by have h6 : ¬ zn s.2 = 8 := fun h => c13 (by rw [h]; rfl); omega
        have hlt : s.1 < m := Nat.lt_of_not_le (fun h => by rw [cde_out h] at c25; exact absurd c25 (by decide))
        refine r_s (pc' := 31) dX7_readsNight_30 rfl rfl ?_
        refine r_s (pc' := 32) dX7_readsNight_31 rfl rfl ?_
        refine h_gi (pc' := 35) dX7_readsNight_32 rfl fX7_99 (hl_ rfl) rfl ?_
        refine r_top (hT.1) ?_
        refine r_c (pc' := 36) dX7_readsNight_35 rfl kc_iconst_1 ?_
        refine r_s (pc' := 37) dX7_readsNight_36 rfl rfl ?_
        refine r_top (nI_1 _) ?_
        refine h_pi (pc' := 40) dX7_readsNight_37 rfl fX7_99 rfl (hl_ rfl) rfl ?_
        refine r_s (pc' := 41) dX7_readsNight_40 rfl rfl ?_
        refine r_s (pc' := 42) dX7_readsNight_41 rfl rfl ?_
        refine r_s (pc' := 43) dX7_readsNight_42 rfl rfl ?_
        refine r_c (pc' := 44) dX7_readsNight_43 rfl kc_iconst_0 ?_
        refine r_c (pc' := 45) dX7_readsNight_44 rfl kc_iconst_5 ?_
        refine r_Vi4 (pc' := 48) dX7_readsNight_45 rfl lX7_109 (hl_ rfl) rfl rfl rfl rfl (Nat.le_of_ble_eq_true rfl) (Nat.le_of_ble_eq_true rfl) (ct_X7_figure (g := 5) (hT.at hlt) (hc.fr (frP_f (by decide) (by decide))) (by omega)) (fun r45 h45 e45 => ?_)
        rcases e45 with ⟨v, hv, rfl, rfl, hlt1, ev⟩ | ⟨rfl, rfl, ev⟩
        · refine r_st_4_5 (pc' := 50) dX7_readsNight_48 rfl rfl rfl ?_
          refine r_s (pc' := 52) dX7_readsNight_50 rfl rfl ?_
          refine r_ifge_t (tgt := 57) dX7_readsNight_52 (by decide) (nI_pos' (by omega)) ?_
          refine r_s (pc' := 58) dX7_readsNight_57 rfl rfl ?_
          refine r_gr (pc' := 61) dX7_readsNight_58 rfl fX7_34 (hl_ rfl) rfl rfl ?_
          refine r_s (pc' := 62) dX7_readsNight_61 rfl rfl ?_
          refine h_gi (pc' := 65) dX7_readsNight_62 rfl fX7_113 (hl_ rfl) rfl ?_
          refine r_top (((hR.at).at).2.1) ?_
          refine r_s (pc' := 66) dX7_readsNight_65 rfl rfl ?_
          refine r_c (pc' := 68) dX7_readsNight_66 rfl kc_bipush_62 ?_
          refine r_cne_t (tgt := 75) dX7_readsNight_68 (by decide) (c19) ?_
          refine r_c (pc' := 76) dX7_readsNight_75 rfl kc_iconst_1 ?_
          refine h_ast (pc' := 77) dX7_readsNight_76 rfl (hl_ rfl) rfl (vp_in_nI (by omega) (by decide)) (nI_clamp (by omega)) ?_
          refine r_s (pc' := 78) dX7_readsNight_77 rfl rfl ?_
          refine r_gr (pc' := 81) dX7_readsNight_78 rfl fX7_37 (hl_ rfl) rfl rfl ?_
          refine r_s (pc' := 82) dX7_readsNight_81 rfl rfl ?_
          refine h_gi (pc' := 85) dX7_readsNight_82 rfl fX7_113 (hl_ rfl) rfl ?_
          refine r_top ((show _ = nI (zn s.2) by rw [up_o (by decide)]; exact ((hR.at).at).2.1)) ?_
          refine r_s (pc' := 87) dX7_readsNight_85 rfl rfl ?_
          refine h_ast (pc' := 88) dX7_readsNight_87 rfl (hl_ rfl) rfl (vp_in_nI (by omega) (by decide)) (nI_clamp (by omega)) ?_
          refine r_s (pc' := 89) dX7_readsNight_88 rfl rfl ?_
          refine r_s (pc' := 90) dX7_readsNight_89 rfl rfl ?_
          refine h_gi (pc' := 93) dX7_readsNight_90 rfl fX7_113 (hl_ rfl) rfl ?_
          refine r_top ((show _ = nI (zn s.2) by rw [up_o (by decide), up_o (by decide)]; exact ((hR.at).at).2.1)) ?_
          refine r_c (pc' := 94) dX7_readsNight_93 rfl kc_iconst_1 ?_
          refine r_s (pc' := 95) dX7_readsNight_94 rfl rfl ?_
          refine r_top (nI_1 _) ?_
          refine h_pi (pc' := 98) dX7_readsNight_95 rfl fX7_113 rfl (hl_ rfl) rfl ?_
          refine r_c (pc' := 99) dX7_readsNight_98 rfl kc_iconst_1 ?_
          refine r_reti dX7_readsNight_99 rfl (rfl) (Nat.le_of_ble_eq_true rfl) (Nat.le_of_ble_eq_true rfl) ⟨_, rfl, ?_⟩
          have hp : pN (cde c m) 1 s = (true, s.1 + 1 + 1, adN s.2 1 v) := by unfold pN; rw [ev]
          exact Or.inr (Or.inl ⟨1, _, rfl, rfl, ⟨hz8, by unfold wnd; rw [if_neg c19, if_pos c25]⟩, by rw [hp], by rw [hp]; exact ((((hT.at hlt).at hlt1).up (Or.inl (by decide))).up (Or.inl (by decide))).up (Or.inr (by decide)), by rw [hp]; exact isRm.N (w := 1) ((hR.at).at), by rw [hp]; exact hw.N hz8 (by decide) hv, ((((frP_f (by decide) (by decide)).tr (frP_f (by decide) (by decide))).tr (frP_a (by decide) (by decide))).tr (frP_a (by decide) (by decide))).tr (frP_f (by decide) (by decide))⟩)
        · refine r_st_4_5 (pc' := 50) dX7_readsNight_48 rfl rfl rfl ?_
          refine r_s (pc' := 52) dX7_readsNight_50 rfl rfl ?_
          refine r_ifge_f (pc' := 55) (tgt := 57) dX7_readsNight_52 rfl (by decide) (by decide) ?_
          refine r_c (pc' := 56) dX7_readsNight_55 rfl kc_iconst_0 ?_
          refine r_reti dX7_readsNight_56 rfl (rfl) (Nat.le_of_ble_eq_true rfl) (Nat.le_of_ble_eq_true rfl) ⟨_, rfl, ?_⟩
          have hp : pN (cde c m) 1 s = (false, s.1 + 1, s.2) := by unfold pN; rw [ev]
          exact Or.inr (Or.inr ⟨1, _, rfl, rfl, ⟨hz8, by unfold wnd; rw [if_neg c19, if_pos c25]⟩, by rw [hp], by rw [hp]; exact (hT.at hlt), (frP_f (by decide) (by decide))⟩)
      · refine r_c (pc' := 29) dX7_readsNight_28 rfl kc_iconst_0 ?_
        refine r_reti dX7_readsNight_29 rfl (rfl) (Nat.le_of_ble_eq_true rfl) (Nat.le_of_ble_eq_true rfl) ⟨_, rfl, ?_⟩
        exact Or.inl ⟨rfl, rfl, Or.inr (by unfold wnd; rw [if_neg c19, if_neg c25])⟩

set_option maxHeartbeats 4000000 in
set_option maxRecDepth 100000 in
theorem ct_X7_readsGuest {d : Nat} {x : hX} {I : Nat → Nat → Int32} {k f m : Nat} {c : Nat → Int32} {s : zpS} (hT : isTm I k f m s.1) (hc : isCm I k f m c) (hR : isRm I s.2) (hw : wfP s.2) (hi2 : 2 ≤ zi s.2) : ci (d + 3) MX7_readsGuest [.ref 80, .int (nI (60 * k + f)), .int (nI m)] (hp x I) (fun r h' => (h' = hp x I ∧ r = 0 ∧ (zg s.2 = 8 ∨ ¬ cde c m s.1 = 43)) ∨ (∃ I', h' = hp x I' ∧ r = 1 ∧ (zg s.2 < 8 ∧ cde c m s.1 = 43) ∧ (pG (cde c m) s).1 = true ∧ isTm I' k f m (pG (cde c m) s).2.1 ∧ isRm I' (pG (cde c m) s).2.2 ∧ wfP (pG (cde c m) s).2.2 ∧ frP I I') ∨ (∃ I', h' = hp x I' ∧ r = 0 ∧ (zg s.2 < 8 ∧ cde c m s.1 = 43) ∧ (pG (cde c m) s).1 = false ∧ isTm I' k f m (pG (cde c m) s).2.1 ∧ frP I I')) := by
  have ham := hT.2.1
  have hfm := hT.2.2.1
  have hk4 := hT.2.2.2
  have hb := hw.1
  have hbn := hw.2.1
  have hbg := hw.2.2.1
  refine c_in (L := [.ref 80, .int (nI (60 * k + f)), .int (nI m), .null, .null]) rfl rfl ?_
  refine r_s (pc' := 1) dX7_readsGuest_0 rfl rfl ?_
  refine h_gi (pc' := 4) dX7_readsGuest_1 rfl fX7_116 (hl_ rfl) rfl ?_
  refine r_top (hR.2.2.1) ?_
  refine r_c (pc' := 6) dX7_readsGuest_4 rfl kc_bipush_8 ?_
  refine r_ceq (pc' := 9) (tgt := 20) dX7_readsGuest_6 rfl (by decide) (fun c6 => ?_) (fun c6 => ?_)
  · refine r_c (pc' := 21) dX7_readsGuest_20 rfl kc_iconst_0 ?_
    refine r_reti dX7_readsGuest_21 rfl (rfl) (Nat.le_of_ble_eq_true rfl) (Nat.le_of_ble_eq_true rfl) ⟨_, rfl, ?_⟩
    exact Or.inl ⟨rfl, rfl, Or.inl ((nI_eq (by omega) (by decide)).mp c6)⟩
  · refine r_s (pc' := 10) dX7_readsGuest_9 rfl rfl ?_
    refine r_s (pc' := 11) dX7_readsGuest_10 rfl rfl ?_
    refine r_s (pc' := 12) dX7_readsGuest_11 rfl rfl ?_
    refine r_Vi2 (pc' := 15) dX7_readsGuest_12 rfl lX7_102 (hl_ rfl) rfl rfl rfl rfl (Nat.le_of_ble_eq_true rfl) (Nat.le_of_ble_eq_true rfl) (ct_X7_codeAt hT hc) (fun r12 h12 e12 => ?_)
    obtain ⟨rfl, rfl⟩ := e12
    refine r_c (pc' := 17) dX7_readsGuest_15 rfl kc_bipush_43 ?_
    refine r_ceq (pc' := 20) (tgt := 22) dX7_readsGuest_17 rfl (by decide) (fun c17 => ?_) (fun c17 => ?_)
    · have hz8 : zg s.2 < 8 := by have h6 : ¬ zg s.2 = 8 := fun h => c6 (by rw [h]; rfl); omega
      have hlt : s.1 < m := Nat.lt_of_not_le (fun h => by rw [cde_out h] at c17; exact absurd c17 (by decide))
      refine r_s (pc' := 23) dX7_readsGuest_22 rfl rfl ?_
      refine r_s (pc' := 24) dX7_readsGuest_23 rfl rfl ?_
      refine h_gi (pc' := 27) dX7_readsGuest_24 rfl fX7_99 (hl_ rfl) rfl ?_
      refine r_top (hT.1) ?_
      refine r_c (pc' := 28) dX7_readsGuest_27 rfl kc_iconst_1 ?_
      refine r_s (pc' := 29) dX7_readsGuest_28 rfl rfl ?_
      refine r_top (nI_1 _) ?_
      refine h_pi (pc' := 32) dX7_readsGuest_29 rfl fX7_99 rfl (hl_ rfl) rfl ?_
      refine r_s (pc' := 33) dX7_readsGuest_32 rfl rfl ?_
      refine r_s (pc' := 34) dX7_readsGuest_33 rfl rfl ?_
      refine r_s (pc' := 35) dX7_readsGuest_34 rfl rfl ?_
      refine r_c (pc' := 36) dX7_readsGuest_35 rfl kc_iconst_0 ?_
      refine r_c (pc' := 37) dX7_readsGuest_36 rfl kc_iconst_3 ?_
      refine r_Vi4 (pc' := 40) dX7_readsGuest_37 rfl lX7_109 (hl_ rfl) rfl rfl rfl rfl (Nat.le_of_ble_eq_true rfl) (Nat.le_of_ble_eq_true rfl) (ct_X7_figure (g := 3) (hT.at hlt) (hc.fr (frP_f (by decide) (by decide))) (by omega)) (fun r37 h37 e37 => ?_)
      rcases e37 with ⟨y, hy, rfl, rfl, hlt1, ey⟩ | ⟨rfl, rfl, ey⟩
      · refine r_st_3_5 (pc' := 41) dX7_readsGuest_40 rfl rfl rfl ?_
        refine r_s (pc' := 42) dX7_readsGuest_41 rfl rfl ?_
        refine r_ifge_t (tgt := 50) dX7_readsGuest_42 (by decide) (nI_pos' (by omega)) ?_
        refine r_s (pc' := 51) dX7_readsGuest_50 rfl rfl ?_
        refine r_s (pc' := 52) dX7_readsGuest_51 rfl rfl ?_
        refine r_s (pc' := 53) dX7_readsGuest_52 rfl rfl ?_
        refine r_c (pc' := 54) dX7_readsGuest_53 rfl kc_iconst_0 ?_
        refine r_s (pc' := 55) dX7_readsGuest_54 rfl rfl ?_
        refine h_gi (pc' := 58) dX7_readsGuest_55 rfl fX7_106 (hl_ rfl) rfl ?_
        refine r_top (((hR.at).at).1) ?_
        refine r_c (pc' := 59) dX7_readsGuest_58 rfl kc_iconst_1 ?_
        refine r_s (pc' := 60) dX7_readsGuest_59 rfl rfl ?_
        refine r_top ((pk_sub (by omega) : nI (zi s.2) - nI 1 = nI (zi s.2 - 1))) ?_
        refine r_Vi4 (pc' := 63) dX7_readsGuest_60 rfl lX7_109 (hl_ rfl) rfl rfl rfl rfl (Nat.le_of_ble_eq_true rfl) (Nat.le_of_ble_eq_true rfl) (ct_X7_figure (g := (zi s.2 - 1)) ((hT.at hlt).at hlt1) ((hc.fr (frP_f (by decide) (by decide))).fr (frP_f (by decide) (by decide))) (by omega)) (fun r60 h60 e60 => ?_)
        rcases e60 with ⟨v, hv, rfl, rfl, hlt2, ev⟩ | ⟨rfl, rfl, ev⟩
        · refine r_st_4_5 (pc' := 65) dX7_readsGuest_63 rfl rfl rfl ?_
          refine r_s (pc' := 67) dX7_readsGuest_65 rfl rfl ?_
          refine r_ifge_t (tgt := 72) dX7_readsGuest_67 (by decide) (nI_pos' (by omega)) ?_
          refine r_s (pc' := 73) dX7_readsGuest_72 rfl rfl ?_
          refine r_gr (pc' := 76) dX7_readsGuest_73 rfl fX7_40 (hl_ rfl) rfl rfl ?_
          refine r_s (pc' := 77) dX7_readsGuest_76 rfl rfl ?_
          refine h_gi (pc' := 80) dX7_readsGuest_77 rfl fX7_116 (hl_ rfl) rfl ?_
          refine r_top ((((hR.at).at).at).2.2.1) ?_
          refine r_s (pc' := 81) dX7_readsGuest_80 rfl rfl ?_
          refine h_ast (pc' := 82) dX7_readsGuest_81 rfl (hl_ rfl) rfl (vp_in_nI (by omega) (by decide)) (nI_clamp (by omega)) ?_
          refine r_s (pc' := 83) dX7_readsGuest_82 rfl rfl ?_
          refine r_gr (pc' := 86) dX7_readsGuest_83 rfl fX7_43 (hl_ rfl) rfl rfl ?_
          refine r_s (pc' := 87) dX7_readsGuest_86 rfl rfl ?_
          refine h_gi (pc' := 90) dX7_readsGuest_87 rfl fX7_116 (hl_ rfl) rfl ?_
          refine r_top ((show _ = nI (zg s.2) by rw [up_o (by decide)]; exact (((hR.at).at).at).2.2.1)) ?_
          refine r_s (pc' := 92) dX7_readsGuest_90 rfl rfl ?_
          refine h_ast (pc' := 93) dX7_readsGuest_92 rfl (hl_ rfl) rfl (vp_in_nI (by omega) (by decide)) (nI_clamp (by omega)) ?_
          refine r_s (pc' := 94) dX7_readsGuest_93 rfl rfl ?_
          refine r_s (pc' := 95) dX7_readsGuest_94 rfl rfl ?_
          refine h_gi (pc' := 98) dX7_readsGuest_95 rfl fX7_116 (hl_ rfl) rfl ?_
          refine r_top ((show _ = nI (zg s.2) by rw [up_o (by decide), up_o (by decide)]; exact (((hR.at).at).at).2.2.1)) ?_
          refine r_c (pc' := 99) dX7_readsGuest_98 rfl kc_iconst_1 ?_
          refine r_s (pc' := 100) dX7_readsGuest_99 rfl rfl ?_
          refine r_top (nI_1 _) ?_
          refine h_pi (pc' := 103) dX7_readsGuest_100 rfl fX7_116 rfl (hl_ rfl) rfl ?_
          refine r_c (pc' := 104) dX7_readsGuest_103 rfl kc_iconst_1 ?_
          refine r_reti dX7_readsGuest_104 rfl (rfl) (Nat.le_of_ble_eq_true rfl) (Nat.le_of_ble_eq_true rfl) ⟨_, rfl, ?_⟩
          have ev' := ev
          rw [show zi s.2 - 1 + 1 = zi s.2 by omega] at ev'
          have hp : pG (cde c m) s = (true, s.1 + 1 + 1 + 1, adG s.2 y v) := by unfold pG; rw [ey]; simp only []; rw [ev']
          exact Or.inr (Or.inl ⟨_, rfl, rfl, ⟨hz8, c17⟩, by rw [hp], by rw [hp]; exact (((((hT.at hlt).at hlt1).at hlt2).up (Or.inl (by decide))).up (Or.inl (by decide))).up (Or.inr (by decide)), by rw [hp]; exact isRm.G (((hR.at).at).at), by rw [hp]; exact hw.G hz8 hy (by omega), (((((frP_f (by decide) (by decide)).tr (frP_f (by decide) (by decide))).tr (frP_f (by decide) (by decide))).tr (frP_a (by decide) (by decide))).tr (frP_a (by decide) (by decide))).tr (frP_f (by decide) (by decide))⟩)
        · refine r_st_4_5 (pc' := 65) dX7_readsGuest_63 rfl rfl rfl ?_
          refine r_s (pc' := 67) dX7_readsGuest_65 rfl rfl ?_
          refine r_ifge_f (pc' := 70) (tgt := 72) dX7_readsGuest_67 rfl (by decide) (by decide) ?_
          refine r_c (pc' := 71) dX7_readsGuest_70 rfl kc_iconst_0 ?_
          refine r_reti dX7_readsGuest_71 rfl (rfl) (Nat.le_of_ble_eq_true rfl) (Nat.le_of_ble_eq_true rfl) ⟨_, rfl, ?_⟩
          have ev' := ev
          rw [show zi s.2 - 1 + 1 = zi s.2 by omega] at ev'
          have hp : pG (cde c m) s = (false, s.1 + 1 + 1, s.2) := by unfold pG; rw [ey]; simp only []; rw [ev']
          exact Or.inr (Or.inr ⟨_, rfl, rfl, ⟨hz8, c17⟩, by rw [hp], by rw [hp]; exact ((hT.at hlt).at hlt1), ((frP_f (by decide) (by decide)).tr (frP_f (by decide) (by decide)))⟩)
      · refine r_st_3_5 (pc' := 41) dX7_readsGuest_40 rfl rfl rfl ?_
        refine r_s (pc' := 42) dX7_readsGuest_41 rfl rfl ?_
        refine r_ifge_f (pc' := 45) (tgt := 50) dX7_readsGuest_42 rfl (by decide) (by decide) ?_
        refine r_c (pc' := 47) dX7_readsGuest_45 rfl kc_bipush_m9 ?_
        refine r_goto (tgt := 63) dX7_readsGuest_47 (by decide) ?_
        refine r_st_4_5 (pc' := 65) dX7_readsGuest_63 rfl rfl rfl ?_
        refine r_s (pc' := 67) dX7_readsGuest_65 rfl rfl ?_
        refine r_ifge_f (pc' := 70) (tgt := 72) dX7_readsGuest_67 rfl (by decide) (by decide) ?_
        refine r_c (pc' := 71) dX7_readsGuest_70 rfl kc_iconst_0 ?_
        refine r_reti dX7_readsGuest_71 rfl (rfl) (Nat.le_of_ble_eq_true rfl) (Nat.le_of_ble_eq_true rfl) ⟨_, rfl, ?_⟩
        have hp : pG (cde c m) s = (false, s.1 + 1, s.2) := by unfold pG; rw [ey]
        exact Or.inr (Or.inr ⟨_, rfl, rfl, ⟨hz8, c17⟩, by rw [hp], by rw [hp]; exact (hT.at hlt), (frP_f (by decide) (by decide))⟩)
    · refine r_c (pc' := 21) dX7_readsGuest_20 rfl kc_iconst_0 ?_
      refine r_reti dX7_readsGuest_21 rfl (rfl) (Nat.le_of_ble_eq_true rfl) (Nat.le_of_ble_eq_true rfl) ⟨_, rfl, ?_⟩
      exact Or.inl ⟨rfl, rfl, Or.inr c17⟩
