set_option maxHeartbeats 4000000 in
set_option maxRecDepth 100000 in
theorem lp_X7_rules {d : Nat} {Q : sm_Q} {x : hX} {ρ : zR} {δ : zD} {I0 : Nat → Nat → Int32} (hR : isMd I0 ρ) (hD : isDM I0 δ) (hw : wfR ρ) (hW : wfD ρ δ) (hz : 0 < zi ρ) (hck : I0 80 11 = rmI 6) (hQ : ∀ I, frM I0 I → Q (some (.int (nI (mk (fun v => arB (wl ρ v) 6 δ) 2)))) (hp x I)) : ∀ (m i : Nat) (I : Nat → Nat → Int32), i + m = 2 → frF 10 I0 I → sm_wp (sm_c (d + 4)) 0 0 MX7_rules Q 19 [.ref 80, .int (nI (zl ρ)), .int (nI (mk (fun v => arB (wl ρ v) 6 δ) i)), .int (nI i)] [] (hp x I) 0 0 := by
  have b6 : zi ρ ≤ 6 := hw.1
  have b8 : zn ρ ≤ 8 := hw.2.1
  have bg : zg ρ ≤ 8 := hw.2.2.1
  have bl : zl ρ ≤ 1 := hw.2.2.2.1
  intro m
  induction m with
  | zero =>
    intro i I hi h2
    have hi : i = 2 := by omega
    refine r_s (pc' := 20) dX7_rules_19 rfl rfl ?_
    refine r_c (pc' := 21) dX7_rules_20 rfl kc_iconst_2 ?_
    refine r_cge_t (tgt := 52) dX7_rules_21 (by decide) (by rw [hi]; exact Int32.le_refl _) ?_
    refine r_s (pc' := 53) dX7_rules_52 rfl rfl ?_
    refine r_s (pc' := 54) dX7_rules_53 rfl rfl ?_
    refine h_pi (pc' := 57) dX7_rules_54 rfl fX7_153 rfl (hl_ rfl) rfl ?_
    refine r_s (pc' := 58) dX7_rules_57 rfl rfl ?_
    refine r_reti dX7_rules_58 rfl (rfl) (Nat.le_of_ble_eq_true rfl) (Nat.le_of_ble_eq_true rfl) ?_
    rw [hi]; exact hQ _ (frF_end h2 hR.2.2.2.1)
  | succ m ih =>
    intro i I hi h2
    refine r_s (pc' := 20) dX7_rules_19 rfl rfl ?_
    refine r_c (pc' := 21) dX7_rules_20 rfl kc_iconst_2 ?_
    refine r_cge_f (pc' := 24) (tgt := 52) dX7_rules_21 rfl (by decide) (nI_ge (b := 2) (by omega) (by decide)) ?_
    refine r_s (pc' := 25) dX7_rules_24 rfl rfl ?_
    refine r_s (pc' := 26) dX7_rules_25 rfl rfl ?_
    refine h_pi (pc' := 29) dX7_rules_26 rfl fX7_153 rfl (hl_ rfl) rfl ?_
    refine r_s (pc' := 30) dX7_rules_29 rfl rfl ?_
    refine r_s (pc' := 31) dX7_rules_30 rfl rfl ?_
    refine r_Vi0 (pc' := 34) dX7_rules_31 rfl lX7_218 (hl_ rfl) rfl rfl rfl rfl (Nat.le_of_ble_eq_true rfl) (Nat.le_of_ble_eq_true rfl) (ct_X7_areSo (rm := 6) (ρ := wl ρ i) ((hR.u_l i).fr (frF_up h2 (nI i))) ((hD.same (up_n (by decide)) (fun r r1 r2 => up_o (by omega))).fr (frF_up h2 (nI i))) (hw.ul (by omega)) hW hz (by rw [up_n (by decide), h2.2 11 (by decide) (by decide)]; exact hck)) (fun r31 h31 e31 => ?_)
    rcases e31 with ⟨I1, rfl, a2, rfl, hb⟩ | ⟨I1, rfl, a2, rfl, hb⟩
    · refine r_ifeq_f (pc' := 37) (tgt := 43) dX7_rules_34 rfl (by decide) (by decide) ?_
      refine r_c (pc' := 38) dX7_rules_37 rfl kc_iconst_1 ?_
      refine r_s (pc' := 39) dX7_rules_38 rfl rfl ?_
      refine r_s (pc' := 40) dX7_rules_39 rfl rfl ?_
      refine r_top (sh1 (by omega)) ?_
      refine r_goto (tgt := 44) dX7_rules_40 (by decide) ?_
      refine r_s (pc' := 45) dX7_rules_44 rfl rfl ?_
      refine r_top (show _ = nI (mk ((fun v => arB (wl ρ v) 6 δ)) (i + 1)) from or_t (p := (fun v => arB (wl ρ v) 6 δ)) hb) ?_
      refine r_st_2_4 (pc' := 46) dX7_rules_45 rfl rfl rfl ?_
      refine r_in_3_4 (pc' := 49) dX7_rules_46 rfl rfl (i1 _) ?_
      refine r_goto (tgt := 19) dX7_rules_49 (by decide) ?_
      exact ih (i + 1) I1 (by omega) (frF_of ((frF_up h2 (nI i)).tr a2))
    · refine r_ifeq_t (tgt := 43) dX7_rules_34 (by decide) (by decide) ?_
      refine r_c (pc' := 44) dX7_rules_43 rfl kc_iconst_0 ?_
      refine r_s (pc' := 45) dX7_rules_44 rfl rfl ?_
      refine r_top (show _ = nI (mk ((fun v => arB (wl ρ v) 6 δ)) (i + 1)) from or_f (p := (fun v => arB (wl ρ v) 6 δ)) hb) ?_
      refine r_st_2_4 (pc' := 46) dX7_rules_45 rfl rfl rfl ?_
      refine r_in_3_4 (pc' := 49) dX7_rules_46 rfl rfl (i1 _) ?_
      refine r_goto (tgt := 19) dX7_rules_49 (by decide) ?_
      exact ih (i + 1) I1 (by omega) (frF_of ((frF_up h2 (nI i)).tr a2))

set_option maxHeartbeats 4000000 in
set_option maxRecDepth 100000 in
theorem pm_rules {d : Nat} {x : hX} {I : Nat → Nat → Int32} {ρ : zR} {δ : zD} {η : zH} {ft tr : Int32} (hM : MI I (ρ, δ, η, ft, tr)) (hW : WF (ρ, δ, η, ft, tr)) : ci (d + 5) MX7_rules [.ref 80] (hp x I) (fun r h' => ∃ I', h' = hp x I' ∧ (∀ q, q < 80 → I' q = I q) ∧ MI I' (ρ, δ, η, ft, tr) ∧ r = sp_rules ρ δ) := by
  have hR : isMd I ρ := hM.R
  have hw : wfR ρ := hW.1
  have b6 : zi ρ ≤ 6 := hw.1
  have b8 : zn ρ ≤ 8 := hw.2.1
  have bg : zg ρ ≤ 8 := hw.2.2.1
  have d8 : δ.1 ≤ 8 := hW.2.1.1
  have hD : isDM I δ := hM.D
  have hWd : wfD ρ δ := hW.2.1
  refine c_in (L := [.ref 80, .null, .null, .null]) rfl rfl ?_
  refine r_s (pc' := 1) dX7_rules_0 rfl rfl ?_
  refine h_gi (pc' := 4) dX7_rules_1 rfl fX7_86 (hl_ rfl) rfl ?_
  refine r_top (hR.1) ?_
  refine r_ifne (pc' := 7) (tgt := 10) dX7_rules_4 rfl (by decide) (fun c4 => ?_) (fun c4 => ?_)
  · refine r_s (pc' := 11) dX7_rules_10 rfl rfl ?_
    refine h_gi (pc' := 14) dX7_rules_11 rfl fX7_153 (hl_ rfl) rfl ?_
    refine r_top (hR.2.2.2.1) ?_
    refine r_st_1_4 (pc' := 15) dX7_rules_14 rfl rfl rfl ?_
    refine r_c (pc' := 16) dX7_rules_15 rfl kc_iconst_0 ?_
    refine r_st_2_4 (pc' := 17) dX7_rules_16 rfl rfl rfl ?_
    refine r_c (pc' := 18) dX7_rules_17 rfl kc_iconst_0 ?_
    refine r_st_3_4 (pc' := 19) dX7_rules_18 rfl rfl rfl ?_
    exact lp_X7_rules (I0 := I) hR hD hw hWd (Nat.pos_of_ne_zero (z1 c4)) hM.ck (fun I2 g2 => ⟨_, rfl, I2, rfl, g2.c, hM.fr g2, by rw [sp_rules, if_neg (z1 c4)]⟩) 2 0 I (by omega) ⟨fun _ _ _ _ => rfl, fun _ _ _ => rfl⟩
  · refine r_c (pc' := 9) dX7_rules_7 rfl kc_bipush_m3 ?_
    refine r_reti dX7_rules_9 rfl (rfl) (Nat.le_of_ble_eq_true rfl) (Nat.le_of_ble_eq_true rfl) ⟨_, rfl, ?_⟩
    exact ⟨I, rfl, fun _ _ => rfl, hM, by rw [sp_rules, if_pos (z0 c4 hw.bi)]⟩

set_option maxHeartbeats 4000000 in
set_option maxRecDepth 100000 in
theorem lp_X7_kinds {d : Nat} {Q : sm_Q} {x : hX} {ρ : zR} {δ : zD} {I0 : Nat → Nat → Int32} (hR : isMd I0 ρ) (hD : isDM I0 δ) (hw : wfR ρ) (hW : wfD ρ δ) (hz : 0 < zi ρ) (hck : I0 80 11 = rmI 6) {k : Nat} (hk : k < zi ρ) (hQ : ∀ I, frM I0 I → Q (some (.int (nI (mk (fun v => arB (wk ρ (fup (zk ρ) k v)) 6 δ) 3)))) (hp x I)) : ∀ (m i : Nat) (I : Nat → Nat → Int32), i + m = 3 → frX 81 k I0 I → sm_wp (sm_c (d + 4)) 0 0 MX7_kinds Q 22 [.ref 80, .int (nI k), .int (nI (zk ρ k)), .int (nI (mk (fun v => arB (wk ρ (fup (zk ρ) k v)) 6 δ) i)), .int (nI i)] [] (hp x I) 0 0 := by
  have b6 : zi ρ ≤ 6 := hw.1
  have b8 : zn ρ ≤ 8 := hw.2.1
  have bg : zg ρ ≤ 8 := hw.2.2.1
  have bl : zl ρ ≤ 1 := hw.2.2.2.1
  intro m
  induction m with
  | zero =>
    intro i I hi h2
    have hi : i = 3 := by omega
    refine r_s (pc' := 24) dX7_kinds_22 rfl rfl ?_
    refine r_c (pc' := 25) dX7_kinds_24 rfl kc_iconst_3 ?_
    refine r_cge_t (tgt := 60) dX7_kinds_25 (by decide) (by rw [hi]; exact Int32.le_refl _) ?_
    refine r_s (pc' := 61) dX7_kinds_60 rfl rfl ?_
    refine r_gr (pc' := 64) dX7_kinds_61 rfl fX7_7 (hl_ rfl) rfl rfl ?_
    refine r_s (pc' := 65) dX7_kinds_64 rfl rfl ?_
    refine r_s (pc' := 66) dX7_kinds_65 rfl rfl ?_
    refine h_ast (pc' := 67) dX7_kinds_66 rfl (hl_ rfl) rfl (vp_in_nI (by omega) (by decide)) (nI_clamp (by omega)) ?_
    refine r_s (pc' := 68) dX7_kinds_67 rfl rfl ?_
    refine r_reti dX7_kinds_68 rfl (rfl) (Nat.le_of_ble_eq_true rfl) (Nat.le_of_ble_eq_true rfl) ?_
    rw [hi]; exact hQ _ (frX_end h2 (by decide) (hR.k k hk))
  | succ m ih =>
    intro i I hi h2
    refine r_s (pc' := 24) dX7_kinds_22 rfl rfl ?_
    refine r_c (pc' := 25) dX7_kinds_24 rfl kc_iconst_3 ?_
    refine r_cge_f (pc' := 28) (tgt := 60) dX7_kinds_25 rfl (by decide) (nI_ge (b := 3) (by omega) (by decide)) ?_
    refine r_s (pc' := 29) dX7_kinds_28 rfl rfl ?_
    refine r_gr (pc' := 32) dX7_kinds_29 rfl fX7_7 (hl_ rfl) rfl rfl ?_
    refine r_s (pc' := 33) dX7_kinds_32 rfl rfl ?_
    refine r_s (pc' := 35) dX7_kinds_33 rfl rfl ?_
    refine h_ast (pc' := 36) dX7_kinds_35 rfl (hl_ rfl) rfl (vp_in_nI (by omega) (by decide)) (nI_clamp (by omega)) ?_
    refine r_s (pc' := 37) dX7_kinds_36 rfl rfl ?_
    refine r_s (pc' := 38) dX7_kinds_37 rfl rfl ?_
    refine r_Vi0 (pc' := 41) dX7_kinds_38 rfl lX7_218 (hl_ rfl) rfl rfl rfl rfl (Nat.le_of_ble_eq_true rfl) (Nat.le_of_ble_eq_true rfl) (ct_X7_areSo (rm := 6) (ρ := wk ρ (fup (zk ρ) k i)) ((hR.u_k k i).fr (frX_up h2 (by decide) (nI i))) ((hD.same (by rw [up_o (by decide)]) (fun r r1 r2 => up_o (by omega))).fr (frX_up h2 (by decide) (nI i))) (hw.uk (fup_le (fun j hj => hw.2.2.2.2.2.2.1 j hj) (by omega))) hW hz (by rw [up_o (by decide), h2.2.1 11 (by decide)]; exact hck)) (fun r38 h38 e38 => ?_)
    rcases e38 with ⟨I1, rfl, a2, rfl, hb⟩ | ⟨I1, rfl, a2, rfl, hb⟩
    · refine r_ifeq_f (pc' := 44) (tgt := 51) dX7_kinds_41 rfl (by decide) (by decide) ?_
      refine r_c (pc' := 45) dX7_kinds_44 rfl kc_iconst_1 ?_
      refine r_s (pc' := 47) dX7_kinds_45 rfl rfl ?_
      refine r_s (pc' := 48) dX7_kinds_47 rfl rfl ?_
      refine r_top (sh1 (by omega)) ?_
      refine r_goto (tgt := 52) dX7_kinds_48 (by decide) ?_
      refine r_s (pc' := 53) dX7_kinds_52 rfl rfl ?_
      refine r_top (show _ = nI (mk ((fun v => arB (wk ρ (fup (zk ρ) k v)) 6 δ)) (i + 1)) from or_t (p := (fun v => arB (wk ρ (fup (zk ρ) k v)) 6 δ)) hb) ?_
      refine r_st_3_5 (pc' := 54) dX7_kinds_53 rfl rfl rfl ?_
      refine r_in_4_5 (pc' := 57) dX7_kinds_54 rfl rfl (i1 _) ?_
      refine r_goto (tgt := 22) dX7_kinds_57 (by decide) ?_
      exact ih (i + 1) I1 (by omega) (frX_of ((frX_up h2 (by decide) (nI i)).tr a2) (by decide) (by decide) (by decide))
    · refine r_ifeq_t (tgt := 51) dX7_kinds_41 (by decide) (by decide) ?_
      refine r_c (pc' := 52) dX7_kinds_51 rfl kc_iconst_0 ?_
      refine r_s (pc' := 53) dX7_kinds_52 rfl rfl ?_
      refine r_top (show _ = nI (mk ((fun v => arB (wk ρ (fup (zk ρ) k v)) 6 δ)) (i + 1)) from or_f (p := (fun v => arB (wk ρ (fup (zk ρ) k v)) 6 δ)) hb) ?_
      refine r_st_3_5 (pc' := 54) dX7_kinds_53 rfl rfl rfl ?_
      refine r_in_4_5 (pc' := 57) dX7_kinds_54 rfl rfl (i1 _) ?_
      refine r_goto (tgt := 22) dX7_kinds_57 (by decide) ?_
      exact ih (i + 1) I1 (by omega) (frX_of ((frX_up h2 (by decide) (nI i)).tr a2) (by decide) (by decide) (by decide))

set_option maxHeartbeats 4000000 in
set_option maxRecDepth 100000 in
theorem lp_X7_depths {d : Nat} {Q : sm_Q} {x : hX} {ρ : zR} {δ : zD} {I0 : Nat → Nat → Int32} (hR : isMd I0 ρ) (hD : isDM I0 δ) (hw : wfR ρ) (hW : wfD ρ δ) (hz : 0 < zi ρ) (hck : I0 80 11 = rmI 6) {k : Nat} (hk : k < zi ρ) (hQ : ∀ I, frM I0 I → Q (some (.int (nI (mk (fun v => arB (wsn ρ (fup (zs ρ) k v)) 6 δ) 10)))) (hp x I)) : ∀ (m i : Nat) (I : Nat → Nat → Int32), i + m = 10 → frX 82 k I0 I → sm_wp (sm_c (d + 4)) 0 0 MX7_depths Q 22 [.ref 80, .int (nI k), .int (nI (zs ρ k)), .int (nI (mk (fun v => arB (wsn ρ (fup (zs ρ) k v)) 6 δ) i)), .int (nI i)] [] (hp x I) 0 0 := by
  have b6 : zi ρ ≤ 6 := hw.1
  have b8 : zn ρ ≤ 8 := hw.2.1
  have bg : zg ρ ≤ 8 := hw.2.2.1
  have bl : zl ρ ≤ 1 := hw.2.2.2.1
  intro m
  induction m with
  | zero =>
    intro i I hi h2
    have hi : i = 10 := by omega
    refine r_s (pc' := 24) dX7_depths_22 rfl rfl ?_
    refine r_c (pc' := 26) dX7_depths_24 rfl kc_bipush_10 ?_
    refine r_cge_t (tgt := 61) dX7_depths_26 (by decide) (by rw [hi]; exact Int32.le_refl _) ?_
    refine r_s (pc' := 62) dX7_depths_61 rfl rfl ?_
    refine r_gr (pc' := 65) dX7_depths_62 rfl fX7_13 (hl_ rfl) rfl rfl ?_
    refine r_s (pc' := 66) dX7_depths_65 rfl rfl ?_
    refine r_s (pc' := 67) dX7_depths_66 rfl rfl ?_
    refine h_ast (pc' := 68) dX7_depths_67 rfl (hl_ rfl) rfl (vp_in_nI (by omega) (by decide)) (nI_clamp (by omega)) ?_
    refine r_s (pc' := 69) dX7_depths_68 rfl rfl ?_
    refine r_reti dX7_depths_69 rfl (rfl) (Nat.le_of_ble_eq_true rfl) (Nat.le_of_ble_eq_true rfl) ?_
    rw [hi]; exact hQ _ (frX_end h2 (by decide) (hR.s k hk))
  | succ m ih =>
    intro i I hi h2
    refine r_s (pc' := 24) dX7_depths_22 rfl rfl ?_
    refine r_c (pc' := 26) dX7_depths_24 rfl kc_bipush_10 ?_
    refine r_cge_f (pc' := 29) (tgt := 61) dX7_depths_26 rfl (by decide) (nI_ge (b := 10) (by omega) (by decide)) ?_
    refine r_s (pc' := 30) dX7_depths_29 rfl rfl ?_
    refine r_gr (pc' := 33) dX7_depths_30 rfl fX7_13 (hl_ rfl) rfl rfl ?_
    refine r_s (pc' := 34) dX7_depths_33 rfl rfl ?_
    refine r_s (pc' := 36) dX7_depths_34 rfl rfl ?_
    refine h_ast (pc' := 37) dX7_depths_36 rfl (hl_ rfl) rfl (vp_in_nI (by omega) (by decide)) (nI_clamp (by omega)) ?_
    refine r_s (pc' := 38) dX7_depths_37 rfl rfl ?_
    refine r_s (pc' := 39) dX7_depths_38 rfl rfl ?_
    refine r_Vi0 (pc' := 42) dX7_depths_39 rfl lX7_218 (hl_ rfl) rfl rfl rfl rfl (Nat.le_of_ble_eq_true rfl) (Nat.le_of_ble_eq_true rfl) (ct_X7_areSo (rm := 6) (ρ := wsn ρ (fup (zs ρ) k i)) ((hR.u_s k i).fr (frX_up h2 (by decide) (nI i))) ((hD.same (by rw [up_o (by decide)]) (fun r r1 r2 => up_o (by omega))).fr (frX_up h2 (by decide) (nI i))) (hw.us (fup_le (fun j hj => hw.s9 hj) (by omega))) hW hz (by rw [up_o (by decide), h2.2.1 11 (by decide)]; exact hck)) (fun r39 h39 e39 => ?_)
    rcases e39 with ⟨I1, rfl, a2, rfl, hb⟩ | ⟨I1, rfl, a2, rfl, hb⟩
    · refine r_ifeq_f (pc' := 45) (tgt := 52) dX7_depths_42 rfl (by decide) (by decide) ?_
      refine r_c (pc' := 46) dX7_depths_45 rfl kc_iconst_1 ?_
      refine r_s (pc' := 48) dX7_depths_46 rfl rfl ?_
      refine r_s (pc' := 49) dX7_depths_48 rfl rfl ?_
      refine r_top (sh1 (by omega)) ?_
      refine r_goto (tgt := 53) dX7_depths_49 (by decide) ?_
      refine r_s (pc' := 54) dX7_depths_53 rfl rfl ?_
      refine r_top (show _ = nI (mk ((fun v => arB (wsn ρ (fup (zs ρ) k v)) 6 δ)) (i + 1)) from or_t (p := (fun v => arB (wsn ρ (fup (zs ρ) k v)) 6 δ)) hb) ?_
      refine r_st_3_5 (pc' := 55) dX7_depths_54 rfl rfl rfl ?_
      refine r_in_4_5 (pc' := 58) dX7_depths_55 rfl rfl (i1 _) ?_
      refine r_goto (tgt := 22) dX7_depths_58 (by decide) ?_
      exact ih (i + 1) I1 (by omega) (frX_of ((frX_up h2 (by decide) (nI i)).tr a2) (by decide) (by decide) (by decide))
    · refine r_ifeq_t (tgt := 52) dX7_depths_42 (by decide) (by decide) ?_
      refine r_c (pc' := 53) dX7_depths_52 rfl kc_iconst_0 ?_
      refine r_s (pc' := 54) dX7_depths_53 rfl rfl ?_
      refine r_top (show _ = nI (mk ((fun v => arB (wsn ρ (fup (zs ρ) k v)) 6 δ)) (i + 1)) from or_f (p := (fun v => arB (wsn ρ (fup (zs ρ) k v)) 6 δ)) hb) ?_
      refine r_st_3_5 (pc' := 55) dX7_depths_54 rfl rfl rfl ?_
      refine r_in_4_5 (pc' := 58) dX7_depths_55 rfl rfl (i1 _) ?_
      refine r_goto (tgt := 22) dX7_depths_58 (by decide) ?_
      exact ih (i + 1) I1 (by omega) (frX_of ((frX_up h2 (by decide) (nI i)).tr a2) (by decide) (by decide) (by decide))

set_option maxHeartbeats 4000000 in
set_option maxRecDepth 100000 in
theorem lp_X7_falls {d : Nat} {Q : sm_Q} {x : hX} {ρ : zR} {δ : zD} {I0 : Nat → Nat → Int32} (hR : isMd I0 ρ) (hD : isDM I0 δ) (hw : wfR ρ) (hW : wfD ρ δ) (hz : 0 < zi ρ) (hck : I0 80 11 = rmI 6) {k : Nat} (hk : k < zn ρ) (hQ : ∀ I, frM I0 I → Q (some (.int (nI (mk (fun v => arB (wf ρ (fup (zf ρ) k v)) 6 δ) 6)))) (hp x I)) : ∀ (m i : Nat) (I : Nat → Nat → Int32), i + m = 6 → frX 84 k I0 I → sm_wp (sm_c (d + 4)) 0 0 MX7_falls Q 33 [.ref 80, .int (nI k), .int (nI (zf ρ k)), .int (nI (mk (fun v => arB (wf ρ (fup (zf ρ) k v)) 6 δ) i)), .int (nI i)] [] (hp x I) 0 0 := by
  have b6 : zi ρ ≤ 6 := hw.1
  have b8 : zn ρ ≤ 8 := hw.2.1
  have bg : zg ρ ≤ 8 := hw.2.2.1
  have bl : zl ρ ≤ 1 := hw.2.2.2.1
  intro m
  induction m with
  | zero =>
    intro i I hi h2
    have hi : i = 6 := by omega
    refine r_s (pc' := 35) dX7_falls_33 rfl rfl ?_
    refine r_c (pc' := 37) dX7_falls_35 rfl kc_bipush_6 ?_
    refine r_cge_t (tgt := 72) dX7_falls_37 (by decide) (by rw [hi]; exact Int32.le_refl _) ?_
    refine r_s (pc' := 73) dX7_falls_72 rfl rfl ?_
    refine r_gr (pc' := 76) dX7_falls_73 rfl fX7_19 (hl_ rfl) rfl rfl ?_
    refine r_s (pc' := 77) dX7_falls_76 rfl rfl ?_
    refine r_s (pc' := 78) dX7_falls_77 rfl rfl ?_
    refine h_ast (pc' := 79) dX7_falls_78 rfl (hl_ rfl) rfl (vp_in_nI (by omega) (by decide)) (nI_clamp (by omega)) ?_
    refine r_s (pc' := 80) dX7_falls_79 rfl rfl ?_
    refine r_reti dX7_falls_80 rfl (rfl) (Nat.le_of_ble_eq_true rfl) (Nat.le_of_ble_eq_true rfl) ?_
    rw [hi]; exact hQ _ (frX_end h2 (by decide) (hR.f k hk))
  | succ m ih =>
    intro i I hi h2
    refine r_s (pc' := 35) dX7_falls_33 rfl rfl ?_
    refine r_c (pc' := 37) dX7_falls_35 rfl kc_bipush_6 ?_
    refine r_cge_f (pc' := 40) (tgt := 72) dX7_falls_37 rfl (by decide) (nI_ge (b := 6) (by omega) (by decide)) ?_
    refine r_s (pc' := 41) dX7_falls_40 rfl rfl ?_
    refine r_gr (pc' := 44) dX7_falls_41 rfl fX7_19 (hl_ rfl) rfl rfl ?_
    refine r_s (pc' := 45) dX7_falls_44 rfl rfl ?_
    refine r_s (pc' := 47) dX7_falls_45 rfl rfl ?_
    refine h_ast (pc' := 48) dX7_falls_47 rfl (hl_ rfl) rfl (vp_in_nI (by omega) (by decide)) (nI_clamp (by omega)) ?_
    refine r_s (pc' := 49) dX7_falls_48 rfl rfl ?_
    refine r_s (pc' := 50) dX7_falls_49 rfl rfl ?_
    refine r_Vi0 (pc' := 53) dX7_falls_50 rfl lX7_218 (hl_ rfl) rfl rfl rfl rfl (Nat.le_of_ble_eq_true rfl) (Nat.le_of_ble_eq_true rfl) (ct_X7_areSo (rm := 6) (ρ := wf ρ (fup (zf ρ) k i)) ((hR.u_f k i).fr (frX_up h2 (by decide) (nI i))) ((hD.same (by rw [up_o (by decide)]) (fun r r1 r2 => up_o (by omega))).fr (frX_up h2 (by decide) (nI i))) (hw.uf (fup_le (fun j hj => hw.f5 hj) (by omega))) hW hz (by rw [up_o (by decide), h2.2.1 11 (by decide)]; exact hck)) (fun r50 h50 e50 => ?_)
    rcases e50 with ⟨I1, rfl, a2, rfl, hb⟩ | ⟨I1, rfl, a2, rfl, hb⟩
    · refine r_ifeq_f (pc' := 56) (tgt := 63) dX7_falls_53 rfl (by decide) (by decide) ?_
      refine r_c (pc' := 57) dX7_falls_56 rfl kc_iconst_1 ?_
      refine r_s (pc' := 59) dX7_falls_57 rfl rfl ?_
      refine r_s (pc' := 60) dX7_falls_59 rfl rfl ?_
      refine r_top (sh1 (by omega)) ?_
      refine r_goto (tgt := 64) dX7_falls_60 (by decide) ?_
      refine r_s (pc' := 65) dX7_falls_64 rfl rfl ?_
      refine r_top (show _ = nI (mk ((fun v => arB (wf ρ (fup (zf ρ) k v)) 6 δ)) (i + 1)) from or_t (p := (fun v => arB (wf ρ (fup (zf ρ) k v)) 6 δ)) hb) ?_
      refine r_st_3_5 (pc' := 66) dX7_falls_65 rfl rfl rfl ?_
      refine r_in_4_5 (pc' := 69) dX7_falls_66 rfl rfl (i1 _) ?_
      refine r_goto (tgt := 33) dX7_falls_69 (by decide) ?_
      exact ih (i + 1) I1 (by omega) (frX_of ((frX_up h2 (by decide) (nI i)).tr a2) (by decide) (by decide) (by decide))
    · refine r_ifeq_t (tgt := 63) dX7_falls_53 (by decide) (by decide) ?_
      refine r_c (pc' := 64) dX7_falls_63 rfl kc_iconst_0 ?_
      refine r_s (pc' := 65) dX7_falls_64 rfl rfl ?_
      refine r_top (show _ = nI (mk ((fun v => arB (wf ρ (fup (zf ρ) k v)) 6 δ)) (i + 1)) from or_f (p := (fun v => arB (wf ρ (fup (zf ρ) k v)) 6 δ)) hb) ?_
      refine r_st_3_5 (pc' := 66) dX7_falls_65 rfl rfl rfl ?_
      refine r_in_4_5 (pc' := 69) dX7_falls_66 rfl rfl (i1 _) ?_
      refine r_goto (tgt := 33) dX7_falls_69 (by decide) ?_
      exact ih (i + 1) I1 (by omega) (frX_of ((frX_up h2 (by decide) (nI i)).tr a2) (by decide) (by decide) (by decide))

set_option maxHeartbeats 4000000 in
set_option maxRecDepth 100000 in
theorem pm_kinds {d : Nat} {x : hX} {I : Nat → Nat → Int32} {ρ : zR} {δ : zD} {η : zH} {ft tr : Int32} {k : Int32} (hM : MI I (ρ, δ, η, ft, tr)) (hW : WF (ρ, δ, η, ft, tr)) : ci (d + 5) MX7_kinds [.ref 80, .int k] (hp x I) (fun r h' => ∃ I', h' = hp x I' ∧ (∀ q, q < 80 → I' q = I q) ∧ MI I' (ρ, δ, η, ft, tr) ∧ r = sp_kinds ρ δ k) := by
  have hR : isMd I ρ := hM.R
  have hw : wfR ρ := hW.1
  have b6 : zi ρ ≤ 6 := hw.1
  have b8 : zn ρ ≤ 8 := hw.2.1
  have bg : zg ρ ≤ 8 := hw.2.2.1
  have d8 : δ.1 ≤ 8 := hW.2.1.1
  have hD : isDM I δ := hM.D
  have hWd : wfD ρ δ := hW.2.1
  refine c_in (L := [.ref 80, .int k, .null, .null, .null]) rfl rfl ?_
  refine r_s (pc' := 1) dX7_kinds_0 rfl rfl ?_
  refine r_s (pc' := 2) dX7_kinds_1 rfl rfl ?_
  refine r_Vi1 (pc' := 5) dX7_kinds_2 rfl lX7_159 (hl_ rfl) rfl rfl rfl rfl (Nat.le_of_ble_eq_true rfl) (Nat.le_of_ble_eq_true rfl) (ct_X7_noInn hR.1 hw.bi) (fun r2 h2 e2 => ?_)
  rcases e2 with ⟨rfl, rfl, j2, hj2, rfl⟩ | ⟨rfl, rfl, hn2⟩
  · refine r_ifeq_t (tgt := 10) dX7_kinds_5 (by decide) (by decide) ?_
    refine r_s (pc' := 11) dX7_kinds_10 rfl rfl ?_
    refine r_gr (pc' := 14) dX7_kinds_11 rfl fX7_7 (hl_ rfl) rfl rfl ?_
    refine r_s (pc' := 15) dX7_kinds_14 rfl rfl ?_
    refine h_ald (pc' := 16) dX7_kinds_15 rfl (hl_ rfl) rfl (vp_in_nI (by omega) (by decide)) (nI_clamp (by omega)) ?_
    refine r_top (hR.k _ hj2) ?_
    refine r_st_2_5 (pc' := 17) dX7_kinds_16 rfl rfl rfl ?_
    refine r_c (pc' := 18) dX7_kinds_17 rfl kc_iconst_0 ?_
    refine r_st_3_5 (pc' := 19) dX7_kinds_18 rfl rfl rfl ?_
    refine r_c (pc' := 20) dX7_kinds_19 rfl kc_iconst_0 ?_
    refine r_st_4_5 (pc' := 22) dX7_kinds_20 rfl rfl rfl ?_
    exact lp_X7_kinds (I0 := I) hR hD hw hWd (by omega) hM.ck hj2 (fun I2 g2 => ⟨_, rfl, I2, rfl, g2.c, hM.fr g2, by rw [sp_kinds, if_pos (ok_in hj2 hw.bi), ix_nI (by omega)]⟩) 3 0 I (by omega) frX_0
  · refine r_ifeq_f (pc' := 8) (tgt := 10) dX7_kinds_5 rfl (by decide) (by decide) ?_
    refine r_c (pc' := 9) dX7_kinds_8 rfl kc_iconst_m1 ?_
    refine r_reti dX7_kinds_9 rfl (rfl) (Nat.le_of_ble_eq_true rfl) (Nat.le_of_ble_eq_true rfl) ⟨_, rfl, ?_⟩
    exact ⟨I, rfl, fun _ _ => rfl, hM, by rw [sp_kinds, ok_no hw.bi hn2]; rfl⟩

set_option maxHeartbeats 4000000 in
set_option maxRecDepth 100000 in
theorem pm_depths {d : Nat} {x : hX} {I : Nat → Nat → Int32} {ρ : zR} {δ : zD} {η : zH} {ft tr : Int32} {k : Int32} (hM : MI I (ρ, δ, η, ft, tr)) (hW : WF (ρ, δ, η, ft, tr)) : ci (d + 5) MX7_depths [.ref 80, .int k] (hp x I) (fun r h' => ∃ I', h' = hp x I' ∧ (∀ q, q < 80 → I' q = I q) ∧ MI I' (ρ, δ, η, ft, tr) ∧ r = sp_depths ρ δ k) := by
  have hR : isMd I ρ := hM.R
  have hw : wfR ρ := hW.1
  have b6 : zi ρ ≤ 6 := hw.1
  have b8 : zn ρ ≤ 8 := hw.2.1
  have bg : zg ρ ≤ 8 := hw.2.2.1
  have d8 : δ.1 ≤ 8 := hW.2.1.1
  have hD : isDM I δ := hM.D
  have hWd : wfD ρ δ := hW.2.1
  refine c_in (L := [.ref 80, .int k, .null, .null, .null]) rfl rfl ?_
  refine r_s (pc' := 1) dX7_depths_0 rfl rfl ?_
  refine r_s (pc' := 2) dX7_depths_1 rfl rfl ?_
  refine r_Vi1 (pc' := 5) dX7_depths_2 rfl lX7_159 (hl_ rfl) rfl rfl rfl rfl (Nat.le_of_ble_eq_true rfl) (Nat.le_of_ble_eq_true rfl) (ct_X7_noInn hR.1 hw.bi) (fun r2 h2 e2 => ?_)
  rcases e2 with ⟨rfl, rfl, j2, hj2, rfl⟩ | ⟨rfl, rfl, hn2⟩
  · refine r_ifeq_t (tgt := 10) dX7_depths_5 (by decide) (by decide) ?_
    refine r_s (pc' := 11) dX7_depths_10 rfl rfl ?_
    refine r_gr (pc' := 14) dX7_depths_11 rfl fX7_13 (hl_ rfl) rfl rfl ?_
    refine r_s (pc' := 15) dX7_depths_14 rfl rfl ?_
    refine h_ald (pc' := 16) dX7_depths_15 rfl (hl_ rfl) rfl (vp_in_nI (by omega) (by decide)) (nI_clamp (by omega)) ?_
    refine r_top (hR.s _ hj2) ?_
    refine r_st_2_5 (pc' := 17) dX7_depths_16 rfl rfl rfl ?_
    refine r_c (pc' := 18) dX7_depths_17 rfl kc_iconst_0 ?_
    refine r_st_3_5 (pc' := 19) dX7_depths_18 rfl rfl rfl ?_
    refine r_c (pc' := 20) dX7_depths_19 rfl kc_iconst_0 ?_
    refine r_st_4_5 (pc' := 22) dX7_depths_20 rfl rfl rfl ?_
    exact lp_X7_depths (I0 := I) hR hD hw hWd (by omega) hM.ck hj2 (fun I2 g2 => ⟨_, rfl, I2, rfl, g2.c, hM.fr g2, by rw [sp_depths, if_pos (ok_in hj2 hw.bi), ix_nI (by omega)]⟩) 10 0 I (by omega) frX_0
  · refine r_ifeq_f (pc' := 8) (tgt := 10) dX7_depths_5 rfl (by decide) (by decide) ?_
    refine r_c (pc' := 9) dX7_depths_8 rfl kc_iconst_m1 ?_
    refine r_reti dX7_depths_9 rfl (rfl) (Nat.le_of_ble_eq_true rfl) (Nat.le_of_ble_eq_true rfl) ⟨_, rfl, ?_⟩
    exact ⟨I, rfl, fun _ _ => rfl, hM, by rw [sp_depths, ok_no hw.bi hn2]; rfl⟩

set_option maxHeartbeats 4000000 in
set_option maxRecDepth 100000 in
theorem pm_falls {d : Nat} {x : hX} {I : Nat → Nat → Int32} {ρ : zR} {δ : zD} {η : zH} {ft tr : Int32} {n : Int32} (hM : MI I (ρ, δ, η, ft, tr)) (hW : WF (ρ, δ, η, ft, tr)) : ci (d + 5) MX7_falls [.ref 80, .int n] (hp x I) (fun r h' => ∃ I', h' = hp x I' ∧ (∀ q, q < 80 → I' q = I q) ∧ MI I' (ρ, δ, η, ft, tr) ∧ r = sp_falls ρ δ n) := by
  have hR : isMd I ρ := hM.R
  have hw : wfR ρ := hW.1
  have b6 : zi ρ ≤ 6 := hw.1
  have b8 : zn ρ ≤ 8 := hw.2.1
  have bg : zg ρ ≤ 8 := hw.2.2.1
  have d8 : δ.1 ≤ 8 := hW.2.1.1
  have hD : isDM I δ := hM.D
  have hWd : wfD ρ δ := hW.2.1
  refine c_in (L := [.ref 80, .int n, .null, .null, .null]) rfl rfl ?_
  refine r_s (pc' := 1) dX7_falls_0 rfl rfl ?_
  refine h_gi (pc' := 4) dX7_falls_1 rfl fX7_86 (hl_ rfl) rfl ?_
  refine r_top (hR.1) ?_
  refine r_ifne (pc' := 7) (tgt := 10) dX7_falls_4 rfl (by decide) (fun c4 => ?_) (fun c4 => ?_)
  · refine r_s (pc' := 11) dX7_falls_10 rfl rfl ?_
    refine r_s (pc' := 12) dX7_falls_11 rfl rfl ?_
    refine r_Vi1 (pc' := 15) dX7_falls_12 rfl lX7_168 (hl_ rfl) rfl rfl rfl rfl (Nat.le_of_ble_eq_true rfl) (Nat.le_of_ble_eq_true rfl) (ct_X7_noNight hR.2.1 hw.bn) (fun r12 h12 e12 => ?_)
    rcases e12 with ⟨rfl, rfl, j12, hj12, rfl⟩ | ⟨rfl, rfl, hn12⟩
    · refine r_ifeq_t (tgt := 21) dX7_falls_15 (by decide) (by decide) ?_
      refine r_s (pc' := 22) dX7_falls_21 rfl rfl ?_
      refine r_gr (pc' := 25) dX7_falls_22 rfl fX7_19 (hl_ rfl) rfl rfl ?_
      refine r_s (pc' := 26) dX7_falls_25 rfl rfl ?_
      refine h_ald (pc' := 27) dX7_falls_26 rfl (hl_ rfl) rfl (vp_in_nI (by omega) (by decide)) (nI_clamp (by omega)) ?_
      refine r_top (hR.f _ hj12) ?_
      refine r_st_2_5 (pc' := 28) dX7_falls_27 rfl rfl rfl ?_
      refine r_c (pc' := 29) dX7_falls_28 rfl kc_iconst_0 ?_
      refine r_st_3_5 (pc' := 30) dX7_falls_29 rfl rfl rfl ?_
      refine r_c (pc' := 31) dX7_falls_30 rfl kc_iconst_0 ?_
      refine r_st_4_5 (pc' := 33) dX7_falls_31 rfl rfl rfl ?_
      exact lp_X7_falls (I0 := I) hR hD hw hWd (Nat.pos_of_ne_zero (z1 c4)) hM.ck hj12 (fun I2 g2 => ⟨_, rfl, I2, rfl, g2.c, hM.fr g2, by rw [sp_falls, if_neg (z1 c4), if_pos (ok_in hj12 hw.bn), ix_nI (by omega)]⟩) 6 0 I (by omega) frX_0
    · refine r_ifeq_f (pc' := 18) (tgt := 21) dX7_falls_15 rfl (by decide) (by decide) ?_
      refine r_c (pc' := 20) dX7_falls_18 rfl kc_bipush_m2 ?_
      refine r_reti dX7_falls_20 rfl (rfl) (Nat.le_of_ble_eq_true rfl) (Nat.le_of_ble_eq_true rfl) ⟨_, rfl, ?_⟩
      exact ⟨I, rfl, fun _ _ => rfl, hM, by rw [sp_falls, if_neg (z1 c4), ok_no hw.bn hn12]; rfl⟩
  · refine r_c (pc' := 9) dX7_falls_7 rfl kc_bipush_m3 ?_
    refine r_reti dX7_falls_9 rfl (rfl) (Nat.le_of_ble_eq_true rfl) (Nat.le_of_ble_eq_true rfl) ⟨_, rfl, ?_⟩
    exact ⟨I, rfl, fun _ _ => rfl, hM, by rw [sp_falls, if_pos (z0 c4 hw.bi)]⟩

/-- all but the winds of the first n nights -/
def frW (n : Nat) (I0 I : Nat → Nat → Int32) : Prop := (∀ t, t ≠ 93 → t ≠ 94 → t ≠ 80 → t ≠ 83 → I t = I0 t) ∧ (∀ j, j ≠ 24 → I 80 j = I0 80 j) ∧ ∀ j, n ≤ j → I 83 j = I0 83 j
theorem frW_bl {n : Nat} {I0 I I1 : Nat → Nat → Int32} (h : frW n I0 I) (h2 : ∀ t, t ≠ 83 → I1 t = I t) (h3 : ∀ j, n ≤ j → I1 83 j = I 83 j) : frW n I0 I1 := ⟨fun t t1 t2 t3 t4 => by rw [h2 t t4]; exact h.1 t t1 t2 t3 t4, fun j hj => by rw [h2 80 (by decide)]; exact h.2.1 j hj, fun j hj => by rw [h3 j hj]; exact h.2.2 j hj⟩
theorem frW_tr {n : Nat} {I0 I I1 : Nat → Nat → Int32} (h : frW n I0 I) (h2 : frM I I1) : frW n I0 I1 := ⟨fun t t1 t2 t3 t4 => by rw [h2.1 t t1 t2 t3]; exact h.1 t t1 t2 t3 t4, fun j hj => by rw [h2.2 j hj]; exact h.2.1 j hj, fun j hj => by rw [h2.1 83 (by decide) (by decide) (by decide)]; exact h.2.2 j hj⟩
theorem frW_md {n row : Nat} {I0 I : Nat → Nat → Int32} {ρ : zR} (hR : isMd I0 ρ) (h : frW n I0 I) (hb : ∀ j, j < n → I 83 j = nI (if row.testBit j then 1 else 0)) : isMd I (ww ρ (blw n row (zw ρ))) := by
  obtain ⟨h0, h3, h6, h9, h1, h2, h4, h5, h7, h8⟩ := hR
  refine ⟨by rw [h.2.1 1 (by decide)]; exact h0, by rw [h.2.1 4 (by decide)]; exact h3, by rw [h.2.1 7 (by decide)]; exact h6, by rw [h.2.1 10 (by decide)]; exact h9, fun k hk => by rw [h.1 81 (by decide) (by decide) (by decide) (by decide)]; exact h1 k hk, fun k hk => by rw [h.1 82 (by decide) (by decide) (by decide) (by decide)]; exact h2 k hk, fun k hk => ?_, fun k hk => by rw [h.1 84 (by decide) (by decide) (by decide) (by decide)]; exact h5 k hk, fun k hk => by rw [h.1 85 (by decide) (by decide) (by decide) (by decide)]; exact h7 k hk, fun k hk => by rw [h.1 86 (by decide) (by decide) (by decide) (by decide)]; exact h8 k hk⟩
  show I 83 k = nI (if k < n then (if row.testBit k then 1 else 0) else zw ρ k)
  by_cases e : k < n
  · rw [if_pos e]; exact hb k e
  · rw [if_neg e, h.2.2 k (by omega)]; exact h4 k hk
theorem blw_1 {n row : Nat} {ρ : zR} (hw : wfR ρ) : ∀ k, k < zn ρ → blw n row (zw ρ) k ≤ 1 := fun k hk => by
  have := hw.w1 hk
  unfold blw
  split
  · split <;> omega
  · exact this
/-- the winds as bits -/
def wbt (ρ : zR) : Nat → Bool := fun j => decide (zw ρ j = 1)
set_option maxRecDepth 100000 in
theorem w_shl : ∀ w, w < 2 → ∀ i, i < 8 → nI w <<< (nI i &&& 31) = (if w = 1 then nI (2 ^ i) else 0) := by decide +kernel
theorem l_shl : ∀ n, n < 9 → (1 : Int64) <<< ((nI n).toInt64 &&& 63) = lN (2 ^ n) := by decide +kernel
theorem frW_end {n : Nat} {I0 I I1 : Nat → Nat → Int32} {ρ : zR} (hR : isMd I0 ρ) (hw : wfR ρ) (hn : n ≤ zn ρ) (h : frW n I0 I) (h1 : ∀ j, j < n → I1 83 j = nI (if (mk (wbt ρ) n).testBit j then 1 else 0)) (h2 : ∀ t, t ≠ 83 → I1 t = I t) (h3 : ∀ j, n ≤ j → I1 83 j = I 83 j) : frM I0 I1 := by
  refine ⟨fun t t1 t2 t3 => ?_, fun j hj => by rw [h2 80 (by decide)]; exact h.2.1 j hj⟩
  by_cases e : t = 83
  · subst e
    funext j
    by_cases hj : j < n
    · rw [h1 j hj, hR.w j (by omega), mk_bit, decide_eq_true hj, Bool.true_and]
      refine congrArg nI ?_
      have := hw.w1 (k := j) (by omega)
      unfold wbt
      by_cases e : zw ρ j = 1
      · rw [decide_eq_true e, if_pos rfl, e]
      · rw [decide_eq_false e, if_neg (by decide)]; omega
    · rw [h3 j (by omega)]; exact h.2.2 j (by omega)
  · rw [h2 t e]; exact h.1 t t1 t2 t3 e

set_option maxHeartbeats 4000000 in
set_option maxRecDepth 100000 in
theorem lp1_X7_odds {call : sm_K} {Q : sm_Q} {x : hX} {ρ : zR} {I : Nat → Nat → Int32} {n : Nat} {f wh : Int32} (hR : isMd I ρ) (hw : wfR ρ) (hn : n ≤ zn ρ) (hQ : sm_wp call 0 0 MX7_odds Q 69 [.ref 80, .int f, .int (nI n), .int wh, .int (nI (mk (wbt ρ) n)), .int (nI n), .null, .null] [] (hp x I) 0 0) : ∀ (m i : Nat) , i + m = n → sm_wp call 0 0 MX7_odds Q 42 [.ref 80, .int f, .int (nI n), .int wh, .int (nI (mk (wbt ρ) i)), .int (nI i), .null, .null] [] (hp x I) 0 0 := by
  have b6 : zi ρ ≤ 6 := hw.1
  have b8 : zn ρ ≤ 8 := hw.2.1
  have bg : zg ρ ≤ 8 := hw.2.2.1
  have bl : zl ρ ≤ 1 := hw.2.2.2.1
  intro m
  induction m with
  | zero =>
    intro i  hi 
    have hi : i = n := by omega
    refine r_s (pc' := 44) dX7_odds_42 rfl rfl ?_
    refine r_s (pc' := 45) dX7_odds_44 rfl rfl ?_
    refine r_cge_t (tgt := 69) dX7_odds_45 (by decide) (by rw [hi]; exact Int32.le_refl _) ?_
    rw [hi]; exact hQ
  | succ m ih =>
    intro i  hi 
    refine r_s (pc' := 44) dX7_odds_42 rfl rfl ?_
    refine r_s (pc' := 45) dX7_odds_44 rfl rfl ?_
    refine r_cge_f (pc' := 48) (tgt := 69) dX7_odds_45 rfl (by decide) (nI_ge (by omega) (by omega)) ?_
    refine r_s (pc' := 50) dX7_odds_48 rfl rfl ?_
    refine r_s (pc' := 51) dX7_odds_50 rfl rfl ?_
    refine r_gr (pc' := 54) dX7_odds_51 rfl fX7_16 (hl_ rfl) rfl rfl ?_
    refine r_s (pc' := 56) dX7_odds_54 rfl rfl ?_
    refine h_ald (pc' := 57) dX7_odds_56 rfl (hl_ rfl) rfl (vp_in_nI (by omega) (by decide)) (nI_clamp (by omega)) ?_
    refine r_top (hR.w i (by omega)) ?_
    refine r_s (pc' := 59) dX7_odds_57 rfl rfl ?_
    refine r_s (pc' := 60) dX7_odds_59 rfl rfl ?_
    refine r_s (pc' := 61) dX7_odds_60 rfl rfl ?_
    refine r_top (show _ = nI (mk (wbt ρ) (i + 1)) from ?_) ?_
    · rw [w_shl _ (by have := hw.w1 (k := i) (by omega); omega) i (by omega)]
      by_cases e : zw ρ i = 1
      · rw [if_pos e]; exact or_t (p := wbt ρ) (decide_eq_true e)
      · rw [if_neg e]; exact or_f (p := wbt ρ) (decide_eq_false e)
    refine r_st_4_8 (pc' := 63) dX7_odds_61 rfl rfl rfl ?_
    refine r_in_5_8 (pc' := 66) dX7_odds_63 rfl rfl (i1 _) ?_
    refine r_goto (tgt := 42) dX7_odds_66 (by decide) ?_
    exact ih (i + 1) (by omega)

set_option maxHeartbeats 4000000 in
set_option maxRecDepth 100000 in
theorem lp2_X7_odds {d : Nat} {Q : sm_Q} {x : hX} {ρ : zR} {I0 : Nat → Nat → Int32} {n : Nat} {f wh : Int32} (hR : isMd I0 ρ) (hw : wfR ρ) (hz : 0 < zi ρ) (hn : n ≤ zn ρ) (hck : I0 80 11 = rmI 6) (hf : ¬ fM ρ f = 0) (hQ : ∀ I, frM I0 I → Q (some (.long (lN ((if wh = 0 then ods ρ (fM ρ f) n else 2 ^ n) / Nat.gcd (ods ρ (fM ρ f) n) (2 ^ n))))) (hp x I)) : ∀ (m i : Nat) (I : Nat → Nat → Int32), i + m = 2 ^ n → frW n I0 I → sm_wp (sm_c (d + 4)) 0 0 MX7_odds Q 75 [.ref 80, .int f, .int (nI n), .int wh, .int (nI (mk (wbt ρ) n)), .long (lN (fa_cnt (fun row => meB (ww ρ (blw n row (zw ρ))) (fM ρ f) n) i)), .null, .int (nI i)] [] (hp x I) 0 0 := by
  have b6 : zi ρ ≤ 6 := hw.1
  have b8 : zn ρ ≤ 8 := hw.2.1
  have bg : zg ρ ≤ 8 := hw.2.2.1
  have bl : zl ρ ≤ 1 := hw.2.2.2.1
  have h256 : 2 ^ n ≤ 2 ^ 8 := Nat.pow_le_pow_right (by decide) (by omega)
  have hp2 : 0 < 2 ^ n := Nat.two_pow_pos n
  intro m
  induction m with
  | zero =>
    intro i I hi h2
    have hi : i = 2 ^ n := by omega
    refine r_s (pc' := 77) dX7_odds_75 rfl rfl ?_
    refine r_c (pc' := 78) dX7_odds_77 rfl kc_iconst_1 ?_
    refine r_s (pc' := 79) dX7_odds_78 rfl rfl ?_
    refine r_s (pc' := 80) dX7_odds_79 rfl rfl ?_
    refine r_top (sh1 (by omega)) ?_
    refine r_cge_t (tgt := 115) dX7_odds_80 (by decide) (by rw [hi]; exact Int32.le_refl _) ?_
    refine r_s (pc' := 116) dX7_odds_115 rfl rfl ?_
    refine r_s (pc' := 118) dX7_odds_116 rfl rfl ?_
    refine r_s (pc' := 119) dX7_odds_118 rfl rfl ?_
    refine r_Vv2 (pc' := 122) dX7_odds_119 rfl lX7_222 (hl_ rfl) rfl rfl rfl rfl (Nat.le_of_ble_eq_true rfl) (Nat.le_of_ble_eq_true rfl) (ct_X7_blow (row := mk (wbt ρ) n) (by have := mk_lt (wbt ρ) n; omega) (by omega)) (fun h119 e119 => ?_)
    obtain ⟨I1, rfl, b1, b2, b3⟩ := e119
    refine r_s (pc' := 124) dX7_odds_122 rfl rfl ?_
    refine r_c (pc' := 125) dX7_odds_124 rfl kc_lconst_1 ?_
    refine r_s (pc' := 126) dX7_odds_125 rfl rfl ?_
    refine r_s (pc' := 127) dX7_odds_126 rfl rfl ?_
    refine r_topl (l_shl n (by omega)) ?_
    refine r_s (pc' := 128) dX7_odds_127 rfl rfl ?_
    refine r_Sl3 (pc' := 131) dX7_odds_128 rfl lX7_225 rfl (Nat.le_of_ble_eq_true rfl) (Nat.le_of_ble_eq_true rfl) (ct_X7_share (up := fa_cnt (fun row => meB (ww ρ (blw n row (zw ρ))) (fM ρ f) n) i) (dw := 2 ^ n) (by have := fa_cnt_le (fun row => meB (ww ρ (blw n row (zw ρ))) (fM ρ f) n) i; omega) (by omega) hp2) (fun r128 h128 e128 => ?_)
    obtain ⟨rfl, rfl⟩ := e128
    refine r_retl dX7_odds_131 rfl (Nat.le_of_ble_eq_true rfl) (Nat.le_of_ble_eq_true rfl) ?_
    rw [hi]; exact hQ I1 (frW_end hR hw hn h2 b1 b2 b3)
  | succ m ih =>
    intro i I hi h2
    refine r_s (pc' := 77) dX7_odds_75 rfl rfl ?_
    refine r_c (pc' := 78) dX7_odds_77 rfl kc_iconst_1 ?_
    refine r_s (pc' := 79) dX7_odds_78 rfl rfl ?_
    refine r_s (pc' := 80) dX7_odds_79 rfl rfl ?_
    refine r_top (sh1 (by omega)) ?_
    refine r_cge_f (pc' := 83) (tgt := 115) dX7_odds_80 rfl (by decide) (nI_ge (by omega) (by omega)) ?_
    refine r_s (pc' := 84) dX7_odds_83 rfl rfl ?_
    refine r_s (pc' := 86) dX7_odds_84 rfl rfl ?_
    refine r_s (pc' := 87) dX7_odds_86 rfl rfl ?_
    refine r_Vv2 (pc' := 90) dX7_odds_87 rfl lX7_222 (hl_ rfl) rfl rfl rfl rfl (Nat.le_of_ble_eq_true rfl) (Nat.le_of_ble_eq_true rfl) (ct_X7_blow (row := i) (by omega) (by omega)) (fun h87 e87 => ?_)
    obtain ⟨I1, rfl, b1, b2, b3⟩ := e87
    refine r_s (pc' := 92) dX7_odds_90 rfl rfl ?_
    refine r_s (pc' := 93) dX7_odds_92 rfl rfl ?_
    refine r_s (pc' := 94) dX7_odds_93 rfl rfl ?_
    refine r_s (pc' := 95) dX7_odds_94 rfl rfl ?_
    refine r_Vi2 (pc' := 98) dX7_odds_95 rfl lX7_205 (hl_ rfl) rfl rfl rfl rfl (Nat.le_of_ble_eq_true rfl) (Nat.le_of_ble_eq_true rfl) (ct_X7_meetsIn (rm := 6) (ρ := ww ρ (blw n i (zw ρ))) (frW_md hR (frW_bl h2 b2 b3) b1) (hw.uw (blw_1 hw)) hz hn (by rw [b2 80 (by decide), h2.2.1 11 (by decide)]; exact hck) hf) (fun r95 h95 e95 => ?_)
    obtain ⟨I2, rfl, a2, rfl⟩ := e95
    refine r_iflt (pc' := 101) (tgt := 105) dX7_odds_98 rfl (by decide) (fun c98 => ?_) (fun c98 => ?_)
    · refine r_c (pc' := 106) dX7_odds_105 rfl kc_lconst_0 ?_
      refine r_s (pc' := 107) dX7_odds_106 rfl rfl ?_
      refine r_topl (show _ = lN (fa_cnt (fun row => meB (ww ρ (blw n row (zw ρ))) (fM ρ f) n) (i + 1)) from by rw [fa_cnt_no (p := (fun row => meB (ww ρ (blw n row (zw ρ))) (fM ρ f) n)) (fmI_n (by omega) c98)]; exact Int64.add_zero _) ?_
      refine r_sl_5_8 (pc' := 109) dX7_odds_107 rfl rfl rfl ?_
      refine r_in_7_8 (pc' := 112) dX7_odds_109 rfl rfl (i1 _) ?_
      refine r_goto (tgt := 75) dX7_odds_112 (by decide) ?_
      exact ih (i + 1) I2 (by omega) (frW_tr (frW_bl h2 b2 b3) a2)
    · refine r_c (pc' := 102) dX7_odds_101 rfl kc_lconst_1 ?_
      refine r_goto (tgt := 106) dX7_odds_102 (by decide) ?_
      refine r_s (pc' := 107) dX7_odds_106 rfl rfl ?_
      refine r_topl (show _ = lN (fa_cnt (fun row => meB (ww ρ (blw n row (zw ρ))) (fM ρ f) n) (i + 1)) from by rw [fa_cnt_yes (p := (fun row => meB (ww ρ (blw n row (zw ρ))) (fM ρ f) n)) (fmI_p c98)]; exact lN_1 _) ?_
      refine r_sl_5_8 (pc' := 109) dX7_odds_107 rfl rfl rfl ?_
      refine r_in_7_8 (pc' := 112) dX7_odds_109 rfl rfl (i1 _) ?_
      refine r_goto (tgt := 75) dX7_odds_112 (by decide) ?_
      exact ih (i + 1) I2 (by omega) (frW_tr (frW_bl h2 b2 b3) a2)

set_option maxHeartbeats 4000000 in
set_option maxRecDepth 100000 in
theorem pm_odds {d : Nat} {x : hX} {I : Nat → Nat → Int32} {ρ : zR} {δ : zD} {η : zH} {ft tr : Int32} {f n wh : Int32} (hM : MI I (ρ, δ, η, ft, tr)) (hW : WF (ρ, δ, η, ft, tr)) : cl (d + 5) MX7_odds [.ref 80, .int f, .int n, .int wh] (hp x I) (fun r h' => ∃ I', h' = hp x I' ∧ (∀ q, q < 80 → I' q = I q) ∧ MI I' (ρ, δ, η, ft, tr) ∧ r = sp_odds ρ f n wh) := by
  have hR : isMd I ρ := hM.R
  have hw : wfR ρ := hW.1
  have b6 : zi ρ ≤ 6 := hw.1
  have b8 : zn ρ ≤ 8 := hw.2.1
  have bg : zg ρ ≤ 8 := hw.2.2.1
  have d8 : δ.1 ≤ 8 := hW.2.1.1
  refine c_in (L := [.ref 80, .int f, .int n, .int wh, .null, .null, .null, .null]) rfl rfl ?_
  refine r_s (pc' := 1) dX7_odds_0 rfl rfl ?_
  refine r_s (pc' := 2) dX7_odds_1 rfl rfl ?_
  refine r_Vi1 (pc' := 5) dX7_odds_2 rfl lX7_202 (hl_ rfl) rfl rfl rfl rfl (Nat.le_of_ble_eq_true rfl) (Nat.le_of_ble_eq_true rfl) (ct_X7_noFamily hR hw) (fun r2 h2 e2 => ?_)
  rcases e2 with ⟨rfl, rfl, hf⟩ | ⟨rfl, rfl, hf⟩
  · refine r_ifne_f (pc' := 8) (tgt := 32) dX7_odds_5 rfl (by decide) (by decide) ?_
    refine r_s (pc' := 9) dX7_odds_8 rfl rfl ?_
    refine r_s (pc' := 10) dX7_odds_9 rfl rfl ?_
    refine r_c (pc' := 11) dX7_odds_10 rfl kc_lconst_0 ?_
    refine r_s (pc' := 12) dX7_odds_11 rfl rfl ?_
    refine h_gi (pc' := 15) dX7_odds_12 rfl fX7_96 (hl_ rfl) rfl ?_
    refine r_top (hR.2.1) ?_
    refine r_s (pc' := 16) dX7_odds_15 rfl rfl ?_
    refine r_topl (nI_l (by omega)) ?_
    refine r_Si3 (pc' := 19) dX7_odds_16 rfl lX7_89 rfl (Nat.le_of_ble_eq_true rfl) (Nat.le_of_ble_eq_true rfl) (ct_in_m (hw.bn1)) (fun r16 h16 e16 => ?_)
    rcases e16 with ⟨rfl, rfl, j16, hj16, rfl⟩ | ⟨rfl, rfl, hn16⟩
    · refine r_ifeq_f (pc' := 22) (tgt := 32) dX7_odds_19 rfl (by decide) (by decide) ?_
      refine r_s (pc' := 23) dX7_odds_22 rfl rfl ?_
      refine r_s (pc' := 24) dX7_odds_23 rfl rfl ?_
      refine r_c (pc' := 25) dX7_odds_24 rfl kc_lconst_0 ?_
      refine r_c (pc' := 26) dX7_odds_25 rfl kc_lconst_1 ?_
      refine r_Si3 (pc' := 29) dX7_odds_26 rfl lX7_89 rfl (Nat.le_of_ble_eq_true rfl) (Nat.le_of_ble_eq_true rfl) (ct_in_m (n := 1) (by decide)) (fun r26 h26 e26 => ?_)
      rcases e26 with ⟨rfl, rfl, j26, hj26, rfl⟩ | ⟨rfl, rfl, hn26⟩
      · refine r_ifne_t (tgt := 36) dX7_odds_29 (by decide) (by decide) ?_
        have hz := hw.gz (fM_g hf)
        refine r_c (pc' := 37) dX7_odds_36 rfl kc_iconst_0 ?_
        refine r_st_4_8 (pc' := 39) dX7_odds_37 rfl rfl rfl ?_
        refine r_c (pc' := 40) dX7_odds_39 rfl kc_iconst_0 ?_
        refine r_st_5_8 (pc' := 42) dX7_odds_40 rfl rfl rfl ?_
        refine lp1_X7_odds hR hw (by omega) ?_ j16 0 (by omega)
        refine r_c (pc' := 70) dX7_odds_69 rfl kc_lconst_0 ?_
        refine r_sl_5_8 (pc' := 72) dX7_odds_70 rfl rfl rfl ?_
        refine r_c (pc' := 73) dX7_odds_72 rfl kc_iconst_0 ?_
        refine r_st_7_8 (pc' := 75) dX7_odds_73 rfl rfl rfl ?_
        exact lp2_X7_odds (I0 := I) hR hw hz (by omega) hM.ck hf (fun I2 g2 => ⟨_, rfl, I2, rfl, g2.c, hM.fr g2, by rw [sp_odds, if_pos (show ¬ fM ρ f = 0 ∧ ok (nI j16) (zn ρ + 1) = true ∧ ok (nI j26) 2 = true from ⟨hf, ok_in hj16 hw.bn1, ok_in hj26 (by decide)⟩), ix_nI (j := j16) (by omega)]⟩) (2 ^ j16) 0 I (by omega) ⟨fun _ _ _ _ _ => rfl, fun _ _ => rfl, fun _ _ => rfl⟩
      · refine r_ifne_f (pc' := 32) (tgt := 36) dX7_odds_29 rfl (by decide) (by decide) ?_
        refine r_Sl0 (pc' := 35) dX7_odds_32 rfl lX7_82 rfl (Nat.le_of_ble_eq_true rfl) (Nat.le_of_ble_eq_true rfl) (ct_X7_lost) (fun r32 h32 e32 => ?_)
        obtain ⟨rfl, rfl⟩ := e32
        refine r_retl dX7_odds_35 rfl (Nat.le_of_ble_eq_true rfl) (Nat.le_of_ble_eq_true rfl) ⟨_, rfl, ?_⟩
        exact ⟨I, rfl, fun _ _ => rfl, hM, by rw [sp_odds, ok_no (by decide) hn26, if_neg (fun q => by cases q.2.2)]⟩
    · refine r_ifeq_t (tgt := 32) dX7_odds_19 (by decide) (by decide) ?_
      refine r_Sl0 (pc' := 35) dX7_odds_32 rfl lX7_82 rfl (Nat.le_of_ble_eq_true rfl) (Nat.le_of_ble_eq_true rfl) (ct_X7_lost) (fun r32 h32 e32 => ?_)
      obtain ⟨rfl, rfl⟩ := e32
      refine r_retl dX7_odds_35 rfl (Nat.le_of_ble_eq_true rfl) (Nat.le_of_ble_eq_true rfl) ⟨_, rfl, ?_⟩
      exact ⟨I, rfl, fun _ _ => rfl, hM, by rw [sp_odds, ok_no hw.bn1 hn16, if_neg (fun q => by cases q.2.1)]⟩
  · refine r_ifne_t (tgt := 32) dX7_odds_5 (by decide) (by decide) ?_
    refine r_Sl0 (pc' := 35) dX7_odds_32 rfl lX7_82 rfl (Nat.le_of_ble_eq_true rfl) (Nat.le_of_ble_eq_true rfl) (ct_X7_lost) (fun r32 h32 e32 => ?_)
    obtain ⟨rfl, rfl⟩ := e32
    refine r_retl dX7_odds_35 rfl (Nat.le_of_ble_eq_true rfl) (Nat.le_of_ble_eq_true rfl) ⟨_, rfl, ?_⟩
    exact ⟨I, rfl, fun _ _ => rfl, hM, by rw [sp_odds, if_neg (fun q => q.1 hf)]⟩
