theorem z0 {n : Nat} (h : nI n = 0) (hn : n < 2 ^ 31) : n = 0 := (nI_eq hn (by decide)).mp h
theorem z1 {n : Nat} (h : ¬ nI n = 0) : n ≠ 0 := fun e => h (by rw [e]; rfl)

set_option maxHeartbeats 4000000 in
set_option maxRecDepth 100000 in
theorem pm_ofInn {d : Nat} {x : hX} {I : Nat → Nat → Int32} {ρ : zR} {δ : zD} {η : zH} {ft tr : Int32} {k w : Int32} (hM : MI I (ρ, δ, η, ft, tr)) (hW : WF (ρ, δ, η, ft, tr)) : ci (d + 3) MX7_ofInn [.ref 80, .int k, .int w] (hp x I) (fun r h' => h' = hp x I ∧ r = sp_ofInn ρ k w) := by
  have hR : isMd I ρ := hM.R
  have hw : wfR ρ := hW.1
  have b6 : zi ρ ≤ 6 := hw.1
  have b8 : zn ρ ≤ 8 := hw.2.1
  have bg : zg ρ ≤ 8 := hw.2.2.1
  have d8 : δ.1 ≤ 8 := hW.2.1.1
  refine c_in (L := [.ref 80, .int k, .int w]) rfl rfl ?_
  refine r_s (pc' := 1) dX7_ofInn_0 rfl rfl ?_
  refine r_s (pc' := 2) dX7_ofInn_1 rfl rfl ?_
  refine r_Vi1 (pc' := 5) dX7_ofInn_2 rfl lX7_159 (hl_ rfl) rfl rfl rfl rfl (Nat.le_of_ble_eq_true rfl) (Nat.le_of_ble_eq_true rfl) (ct_X7_noInn hR.1 hw.bi) (fun r2 h2 e2 => ?_)
  rcases e2 with ⟨rfl, rfl, j2, hj2, rfl⟩ | ⟨rfl, rfl, hn2⟩
  · refine r_ifeq_t (tgt := 10) dX7_ofInn_5 (by decide) (by decide) ?_
    refine r_s (pc' := 11) dX7_ofInn_10 rfl rfl ?_
    refine r_ifne (pc' := 14) (tgt := 23) dX7_ofInn_11 rfl (by decide) (fun c11 => ?_) (fun c11 => ?_)
    · refine r_s (pc' := 24) dX7_ofInn_23 rfl rfl ?_
      refine r_c (pc' := 25) dX7_ofInn_24 rfl kc_iconst_1 ?_
      refine r_cne (pc' := 28) (tgt := 37) dX7_ofInn_25 rfl (by decide) (fun c25 => ?_) (fun c25 => ?_)
      · refine r_s (pc' := 38) dX7_ofInn_37 rfl rfl ?_
        refine r_c (pc' := 39) dX7_ofInn_38 rfl kc_iconst_2 ?_
        refine r_cne (pc' := 42) (tgt := 56) dX7_ofInn_39 rfl (by decide) (fun c39 => ?_) (fun c39 => ?_)
        · refine r_c (pc' := 58) dX7_ofInn_56 rfl kc_bipush_m2 ?_
          refine r_reti dX7_ofInn_58 rfl (rfl) (Nat.le_of_ble_eq_true rfl) (Nat.le_of_ble_eq_true rfl) ⟨_, rfl, ?_⟩
          exact ⟨rfl, by rw [sp_ofInn, if_pos (ok_in hj2 hw.bi), ix_nI (by omega), if_neg c11, if_neg c25, if_neg c39]⟩
        · refine r_s (pc' := 43) dX7_ofInn_42 rfl rfl ?_
          refine r_s (pc' := 44) dX7_ofInn_43 rfl rfl ?_
          refine r_s (pc' := 45) dX7_ofInn_44 rfl rfl ?_
          refine r_gr (pc' := 48) dX7_ofInn_45 rfl fX7_13 (hl_ rfl) rfl rfl ?_
          refine r_s (pc' := 49) dX7_ofInn_48 rfl rfl ?_
          refine h_ald (pc' := 50) dX7_ofInn_49 rfl (hl_ rfl) rfl (vp_in_nI (by omega) (by decide)) (nI_clamp (by omega)) ?_
          refine r_top (hR.s _ hj2) ?_
          refine r_Vi2 (pc' := 53) dX7_ofInn_50 rfl lX7_162 (hl_ rfl) rfl rfl rfl rfl (Nat.le_of_ble_eq_true rfl) (Nat.le_of_ble_eq_true rfl) (ct_X7_keepsBy (rm := 6) (by omega) (hR.k _ hj2) (by have := hw.kd hj2; omega) hM.ck) (fun r50 h50 e50 => ?_)
          obtain ⟨rfl, rfl⟩ := e50
          refine r_goto (tgt := 58) dX7_ofInn_53 (by decide) ?_
          refine r_reti dX7_ofInn_58 rfl (rfl) (Nat.le_of_ble_eq_true rfl) (Nat.le_of_ble_eq_true rfl) ⟨_, rfl, ?_⟩
          exact ⟨rfl, by rw [sp_ofInn, if_pos (ok_in hj2 hw.bi), ix_nI (by omega), if_neg c11, if_neg c25, if_pos c39, rmB, if_neg (by omega)]; rfl⟩
      · refine r_s (pc' := 29) dX7_ofInn_28 rfl rfl ?_
        refine r_gr (pc' := 32) dX7_ofInn_29 rfl fX7_13 (hl_ rfl) rfl rfl ?_
        refine r_s (pc' := 33) dX7_ofInn_32 rfl rfl ?_
        refine h_ald (pc' := 34) dX7_ofInn_33 rfl (hl_ rfl) rfl (vp_in_nI (by omega) (by decide)) (nI_clamp (by omega)) ?_
        refine r_top (hR.s _ hj2) ?_
        refine r_goto (tgt := 58) dX7_ofInn_34 (by decide) ?_
        refine r_reti dX7_ofInn_58 rfl (rfl) (Nat.le_of_ble_eq_true rfl) (Nat.le_of_ble_eq_true rfl) ⟨_, rfl, ?_⟩
        exact ⟨rfl, by rw [sp_ofInn, if_pos (ok_in hj2 hw.bi), ix_nI (by omega), if_neg c11, if_pos c25]⟩
    · refine r_s (pc' := 15) dX7_ofInn_14 rfl rfl ?_
      refine r_gr (pc' := 18) dX7_ofInn_15 rfl fX7_7 (hl_ rfl) rfl rfl ?_
      refine r_s (pc' := 19) dX7_ofInn_18 rfl rfl ?_
      refine h_ald (pc' := 20) dX7_ofInn_19 rfl (hl_ rfl) rfl (vp_in_nI (by omega) (by decide)) (nI_clamp (by omega)) ?_
      refine r_top (hR.k _ hj2) ?_
      refine r_goto (tgt := 58) dX7_ofInn_20 (by decide) ?_
      refine r_reti dX7_ofInn_58 rfl (rfl) (Nat.le_of_ble_eq_true rfl) (Nat.le_of_ble_eq_true rfl) ⟨_, rfl, ?_⟩
      exact ⟨rfl, by rw [sp_ofInn, if_pos (ok_in hj2 hw.bi), ix_nI (by omega), if_pos c11]⟩
  · refine r_ifeq_f (pc' := 8) (tgt := 10) dX7_ofInn_5 rfl (by decide) (by decide) ?_
    refine r_c (pc' := 9) dX7_ofInn_8 rfl kc_iconst_m1 ?_
    refine r_reti dX7_ofInn_9 rfl (rfl) (Nat.le_of_ble_eq_true rfl) (Nat.le_of_ble_eq_true rfl) ⟨_, rfl, ?_⟩
    exact ⟨rfl, by rw [sp_ofInn, ok_no hw.bi hn2]; rfl⟩

set_option maxHeartbeats 4000000 in
set_option maxRecDepth 100000 in
theorem pm_ofGuest {d : Nat} {x : hX} {I : Nat → Nat → Int32} {ρ : zR} {δ : zD} {η : zH} {ft tr : Int32} {k w : Int32} (hM : MI I (ρ, δ, η, ft, tr)) (hW : WF (ρ, δ, η, ft, tr)) : ci (d + 3) MX7_ofGuest [.ref 80, .int k, .int w] (hp x I) (fun r h' => h' = hp x I ∧ r = sp_ofGuest ρ k w) := by
  have hR : isMd I ρ := hM.R
  have hw : wfR ρ := hW.1
  have b6 : zi ρ ≤ 6 := hw.1
  have b8 : zn ρ ≤ 8 := hw.2.1
  have bg : zg ρ ≤ 8 := hw.2.2.1
  have d8 : δ.1 ≤ 8 := hW.2.1.1
  refine c_in (L := [.ref 80, .int k, .int w]) rfl rfl ?_
  refine r_s (pc' := 1) dX7_ofGuest_0 rfl rfl ?_
  refine r_s (pc' := 2) dX7_ofGuest_1 rfl rfl ?_
  refine r_Vi1 (pc' := 5) dX7_ofGuest_2 rfl lX7_165 (hl_ rfl) rfl rfl rfl rfl (Nat.le_of_ble_eq_true rfl) (Nat.le_of_ble_eq_true rfl) (ct_X7_noGuest hR.2.2.1 hw.bg) (fun r2 h2 e2 => ?_)
  rcases e2 with ⟨rfl, rfl, j2, hj2, rfl⟩ | ⟨rfl, rfl, hn2⟩
  · refine r_ifeq_t (tgt := 10) dX7_ofGuest_5 (by decide) (by decide) ?_
    refine r_s (pc' := 11) dX7_ofGuest_10 rfl rfl ?_
    refine r_ifne (pc' := 14) (tgt := 23) dX7_ofGuest_11 rfl (by decide) (fun c11 => ?_) (fun c11 => ?_)
    · refine r_s (pc' := 24) dX7_ofGuest_23 rfl rfl ?_
      refine r_c (pc' := 25) dX7_ofGuest_24 rfl kc_iconst_1 ?_
      refine r_cne (pc' := 28) (tgt := 37) dX7_ofGuest_25 rfl (by decide) (fun c25 => ?_) (fun c25 => ?_)
      · refine r_c (pc' := 39) dX7_ofGuest_37 rfl kc_bipush_m2 ?_
        refine r_reti dX7_ofGuest_39 rfl (rfl) (Nat.le_of_ble_eq_true rfl) (Nat.le_of_ble_eq_true rfl) ⟨_, rfl, ?_⟩
        exact ⟨rfl, by rw [sp_ofGuest, if_pos (ok_in hj2 hw.bg), ix_nI (by omega), if_neg c11, if_neg c25]⟩
      · refine r_s (pc' := 29) dX7_ofGuest_28 rfl rfl ?_
        refine r_gr (pc' := 32) dX7_ofGuest_29 rfl fX7_25 (hl_ rfl) rfl rfl ?_
        refine r_s (pc' := 33) dX7_ofGuest_32 rfl rfl ?_
        refine h_ald (pc' := 34) dX7_ofGuest_33 rfl (hl_ rfl) rfl (vp_in_nI (by omega) (by decide)) (nI_clamp (by omega)) ?_
        refine r_top (hR.h _ hj2) ?_
        refine r_goto (tgt := 39) dX7_ofGuest_34 (by decide) ?_
        refine r_reti dX7_ofGuest_39 rfl (rfl) (Nat.le_of_ble_eq_true rfl) (Nat.le_of_ble_eq_true rfl) ⟨_, rfl, ?_⟩
        exact ⟨rfl, by rw [sp_ofGuest, if_pos (ok_in hj2 hw.bg), ix_nI (by omega), if_neg c11, if_pos c25]⟩
    · refine r_s (pc' := 15) dX7_ofGuest_14 rfl rfl ?_
      refine r_gr (pc' := 18) dX7_ofGuest_15 rfl fX7_22 (hl_ rfl) rfl rfl ?_
      refine r_s (pc' := 19) dX7_ofGuest_18 rfl rfl ?_
      refine h_ald (pc' := 20) dX7_ofGuest_19 rfl (hl_ rfl) rfl (vp_in_nI (by omega) (by decide)) (nI_clamp (by omega)) ?_
      refine r_top (hR.y _ hj2) ?_
      refine r_goto (tgt := 39) dX7_ofGuest_20 (by decide) ?_
      refine r_reti dX7_ofGuest_39 rfl (rfl) (Nat.le_of_ble_eq_true rfl) (Nat.le_of_ble_eq_true rfl) ⟨_, rfl, ?_⟩
      exact ⟨rfl, by rw [sp_ofGuest, if_pos (ok_in hj2 hw.bg), ix_nI (by omega), if_pos c11]⟩
  · refine r_ifeq_f (pc' := 8) (tgt := 10) dX7_ofGuest_5 rfl (by decide) (by decide) ?_
    refine r_c (pc' := 9) dX7_ofGuest_8 rfl kc_iconst_m1 ?_
    refine r_reti dX7_ofGuest_9 rfl (rfl) (Nat.le_of_ble_eq_true rfl) (Nat.le_of_ble_eq_true rfl) ⟨_, rfl, ?_⟩
    exact ⟨rfl, by rw [sp_ofGuest, ok_no hw.bg hn2]; rfl⟩

set_option maxHeartbeats 4000000 in
set_option maxRecDepth 100000 in
theorem pm_ofNight {d : Nat} {x : hX} {I : Nat → Nat → Int32} {ρ : zR} {δ : zD} {η : zH} {ft tr : Int32} {k w : Int32} (hM : MI I (ρ, δ, η, ft, tr)) (hW : WF (ρ, δ, η, ft, tr)) : ci (d + 3) MX7_ofNight [.ref 80, .int k, .int w] (hp x I) (fun r h' => h' = hp x I ∧ r = sp_ofNight ρ k w) := by
  have hR : isMd I ρ := hM.R
  have hw : wfR ρ := hW.1
  have b6 : zi ρ ≤ 6 := hw.1
  have b8 : zn ρ ≤ 8 := hw.2.1
  have bg : zg ρ ≤ 8 := hw.2.2.1
  have d8 : δ.1 ≤ 8 := hW.2.1.1
  refine c_in (L := [.ref 80, .int k, .int w]) rfl rfl ?_
  refine r_s (pc' := 1) dX7_ofNight_0 rfl rfl ?_
  refine h_gi (pc' := 4) dX7_ofNight_1 rfl fX7_86 (hl_ rfl) rfl ?_
  refine r_top (hR.1) ?_
  refine r_ifne (pc' := 7) (tgt := 10) dX7_ofNight_4 rfl (by decide) (fun c4 => ?_) (fun c4 => ?_)
  · refine r_s (pc' := 11) dX7_ofNight_10 rfl rfl ?_
    refine r_s (pc' := 12) dX7_ofNight_11 rfl rfl ?_
    refine r_Vi1 (pc' := 15) dX7_ofNight_12 rfl lX7_168 (hl_ rfl) rfl rfl rfl rfl (Nat.le_of_ble_eq_true rfl) (Nat.le_of_ble_eq_true rfl) (ct_X7_noNight hR.2.1 hw.bn) (fun r12 h12 e12 => ?_)
    rcases e12 with ⟨rfl, rfl, j12, hj12, rfl⟩ | ⟨rfl, rfl, hn12⟩
    · refine r_ifne_f (pc' := 18) (tgt := 28) dX7_ofNight_15 rfl (by decide) (by decide) ?_
      refine r_s (pc' := 19) dX7_ofNight_18 rfl rfl ?_
      refine r_s (pc' := 20) dX7_ofNight_19 rfl rfl ?_
      refine r_c (pc' := 21) dX7_ofNight_20 rfl kc_lconst_0 ?_
      refine r_c (pc' := 22) dX7_ofNight_21 rfl kc_lconst_1 ?_
      refine r_Si3 (pc' := 25) dX7_ofNight_22 rfl lX7_89 rfl (Nat.le_of_ble_eq_true rfl) (Nat.le_of_ble_eq_true rfl) (ct_in_m (n := 1) (by decide)) (fun r22 h22 e22 => ?_)
      rcases e22 with ⟨rfl, rfl, j22, hj22, rfl⟩ | ⟨rfl, rfl, hn22⟩
      · refine r_ifne_t (tgt := 31) dX7_ofNight_25 (by decide) (by decide) ?_
        refine r_s (pc' := 32) dX7_ofNight_31 rfl rfl ?_
        refine r_ifne (pc' := 35) (tgt := 44) dX7_ofNight_32 rfl (by decide) (fun c32 => ?_) (fun c32 => ?_)
        · refine r_s (pc' := 45) dX7_ofNight_44 rfl rfl ?_
          refine r_gr (pc' := 48) dX7_ofNight_45 rfl fX7_19 (hl_ rfl) rfl rfl ?_
          refine r_s (pc' := 49) dX7_ofNight_48 rfl rfl ?_
          refine h_ald (pc' := 50) dX7_ofNight_49 rfl (hl_ rfl) rfl (vp_in_nI (by omega) (by decide)) (nI_clamp (by omega)) ?_
          refine r_top (hR.f _ hj12) ?_
          refine r_reti dX7_ofNight_50 rfl (rfl) (Nat.le_of_ble_eq_true rfl) (Nat.le_of_ble_eq_true rfl) ⟨_, rfl, ?_⟩
          exact ⟨rfl, by rw [sp_ofNight, if_neg (z1 c4), if_pos (ok_in hj12 hw.bn), ix_nI (by omega), if_neg c32, if_pos (by have : j22 = 1 := (by have := z1 c32; omega); subst this; rfl)]⟩
        · refine r_s (pc' := 36) dX7_ofNight_35 rfl rfl ?_
          refine r_gr (pc' := 39) dX7_ofNight_36 rfl fX7_16 (hl_ rfl) rfl rfl ?_
          refine r_s (pc' := 40) dX7_ofNight_39 rfl rfl ?_
          refine h_ald (pc' := 41) dX7_ofNight_40 rfl (hl_ rfl) rfl (vp_in_nI (by omega) (by decide)) (nI_clamp (by omega)) ?_
          refine r_top (hR.w _ hj12) ?_
          refine r_goto (tgt := 50) dX7_ofNight_41 (by decide) ?_
          refine r_reti dX7_ofNight_50 rfl (rfl) (Nat.le_of_ble_eq_true rfl) (Nat.le_of_ble_eq_true rfl) ⟨_, rfl, ?_⟩
          exact ⟨rfl, by rw [sp_ofNight, if_neg (z1 c4), if_pos (ok_in hj12 hw.bn), ix_nI (by omega), if_pos c32]⟩
      · refine r_ifne_f (pc' := 28) (tgt := 31) dX7_ofNight_25 rfl (by decide) (by decide) ?_
        refine r_c (pc' := 30) dX7_ofNight_28 rfl kc_bipush_m2 ?_
        refine r_reti dX7_ofNight_30 rfl (rfl) (Nat.le_of_ble_eq_true rfl) (Nat.le_of_ble_eq_true rfl) ⟨_, rfl, ?_⟩
        exact ⟨rfl, by rw [sp_ofNight, if_neg (z1 c4), if_pos (ok_in hj12 hw.bn), if_neg (show ¬ w = 0 from hn22 0 (by decide)), if_neg (show ¬ w = 1 from hn22 1 (by decide))]⟩
    · refine r_ifne_t (tgt := 28) dX7_ofNight_15 (by decide) (by decide) ?_
      refine r_c (pc' := 30) dX7_ofNight_28 rfl kc_bipush_m2 ?_
      refine r_reti dX7_ofNight_30 rfl (rfl) (Nat.le_of_ble_eq_true rfl) (Nat.le_of_ble_eq_true rfl) ⟨_, rfl, ?_⟩
      exact ⟨rfl, by rw [sp_ofNight, if_neg (z1 c4), ok_no hw.bn hn12]; rfl⟩
  · refine r_c (pc' := 9) dX7_ofNight_7 rfl kc_bipush_m3 ?_
    refine r_reti dX7_ofNight_9 rfl (rfl) (Nat.le_of_ble_eq_true rfl) (Nat.le_of_ble_eq_true rfl) ⟨_, rfl, ?_⟩
    exact ⟨rfl, by rw [sp_ofNight, if_pos (z0 c4 hw.bi)]⟩

set_option maxHeartbeats 4000000 in
set_option maxRecDepth 100000 in
theorem pm_many {d : Nat} {x : hX} {I : Nat → Nat → Int32} {ρ : zR} {δ : zD} {η : zH} {ft tr : Int32} {w : Int32} (hM : MI I (ρ, δ, η, ft, tr)) (hW : WF (ρ, δ, η, ft, tr)) : ci (d + 1) MX7_many [.ref 80, .int w] (hp x I) (fun r h' => h' = hp x I ∧ r = sp_many (ρ, δ, η, ft, tr) w) := by
  have hR : isMd I ρ := hM.R
  have hw : wfR ρ := hW.1
  have b6 : zi ρ ≤ 6 := hw.1
  have b8 : zn ρ ≤ 8 := hw.2.1
  have bg : zg ρ ≤ 8 := hw.2.2.1
  have d8 : δ.1 ≤ 8 := hW.2.1.1
  refine c_in (L := [.ref 80, .int w]) rfl rfl ?_
  refine r_s (pc' := 1) dX7_many_0 rfl rfl ?_
  rcases sw5 w with rfl | rfl | rfl | rfl | rfl | ⟨n0, n1, n2, n3, n4, ho⟩
  · refine r_tin (off := 35) (tgt := 36) dX7_many_1 (by decide) (by decide) (by decide) (by decide) ?_
    refine r_s (pc' := 37) dX7_many_36 rfl rfl ?_
    refine h_gi (pc' := 40) dX7_many_37 rfl fX7_86 (hl_ rfl) rfl ?_
    refine r_reti dX7_many_40 rfl (rfl) (Nat.le_of_ble_eq_true rfl) (Nat.le_of_ble_eq_true rfl) ⟨_, rfl, ?_⟩
    exact ⟨rfl, by first | exact hR.1 | exact hR.2.1 | exact hR.2.2.1 | exact hR.2.2.2.1 | exact hM.D.1⟩
  · refine r_tin (off := 40) (tgt := 41) dX7_many_1 (by decide) (by decide) (by decide) (by decide) ?_
    refine r_s (pc' := 42) dX7_many_41 rfl rfl ?_
    refine h_gi (pc' := 45) dX7_many_42 rfl fX7_96 (hl_ rfl) rfl ?_
    refine r_reti dX7_many_45 rfl (rfl) (Nat.le_of_ble_eq_true rfl) (Nat.le_of_ble_eq_true rfl) ⟨_, rfl, ?_⟩
    exact ⟨rfl, by first | exact hR.1 | exact hR.2.1 | exact hR.2.2.1 | exact hR.2.2.2.1 | exact hM.D.1⟩
  · refine r_tin (off := 45) (tgt := 46) dX7_many_1 (by decide) (by decide) (by decide) (by decide) ?_
    refine r_s (pc' := 47) dX7_many_46 rfl rfl ?_
    refine h_gi (pc' := 50) dX7_many_47 rfl fX7_93 (hl_ rfl) rfl ?_
    refine r_reti dX7_many_50 rfl (rfl) (Nat.le_of_ble_eq_true rfl) (Nat.le_of_ble_eq_true rfl) ⟨_, rfl, ?_⟩
    exact ⟨rfl, by first | exact hR.1 | exact hR.2.1 | exact hR.2.2.1 | exact hR.2.2.2.1 | exact hM.D.1⟩
  · refine r_tin (off := 50) (tgt := 51) dX7_many_1 (by decide) (by decide) (by decide) (by decide) ?_
    refine r_s (pc' := 52) dX7_many_51 rfl rfl ?_
    refine h_gi (pc' := 55) dX7_many_52 rfl fX7_153 (hl_ rfl) rfl ?_
    refine r_reti dX7_many_55 rfl (rfl) (Nat.le_of_ble_eq_true rfl) (Nat.le_of_ble_eq_true rfl) ⟨_, rfl, ?_⟩
    exact ⟨rfl, by first | exact hR.1 | exact hR.2.1 | exact hR.2.2.1 | exact hR.2.2.2.1 | exact hM.D.1⟩
  · refine r_tin (off := 55) (tgt := 56) dX7_many_1 (by decide) (by decide) (by decide) (by decide) ?_
    refine r_s (pc' := 57) dX7_many_56 rfl rfl ?_
    refine h_gi (pc' := 60) dX7_many_57 rfl fX7_156 (hl_ rfl) rfl ?_
    refine r_reti dX7_many_60 rfl (rfl) (Nat.le_of_ble_eq_true rfl) (Nat.le_of_ble_eq_true rfl) ⟨_, rfl, ?_⟩
    exact ⟨rfl, by first | exact hR.1 | exact hR.2.1 | exact hR.2.2.1 | exact hR.2.2.2.1 | exact hM.D.1⟩
  · refine r_tout (tgt := 61) dX7_many_1 (ho) (by decide) ?_
    refine r_c (pc' := 63) dX7_many_61 rfl kc_bipush_m2 ?_
    refine r_reti dX7_many_63 rfl (rfl) (Nat.le_of_ble_eq_true rfl) (Nat.le_of_ble_eq_true rfl) ⟨_, rfl, ?_⟩
    exact ⟨rfl, by rw [sp_many, if_neg n0, if_neg n1, if_neg n2, if_neg n3, if_neg n4]⟩

set_option maxHeartbeats 4000000 in
set_option maxRecDepth 100000 in
theorem pm_rule {d : Nat} {x : hX} {I : Nat → Nat → Int32} {ρ : zR} {δ : zD} {η : zH} {ft tr : Int32} {v : Int32} (hM : MI I (ρ, δ, η, ft, tr)) (hW : WF (ρ, δ, η, ft, tr)) : ci (d + 2) MX7_rule [.ref 80, .int v] (hp x I) (fun r h' => ∃ I', h' = hp x I' ∧ (∀ q, q < 80 → I' q = I q) ∧ MI I' ((sp_rule ρ v).1, δ, η, ft, tr) ∧ r = (sp_rule ρ v).2) := by
  have hR : isMd I ρ := hM.R
  have hw : wfR ρ := hW.1
  have b6 : zi ρ ≤ 6 := hw.1
  have b8 : zn ρ ≤ 8 := hw.2.1
  have bg : zg ρ ≤ 8 := hw.2.2.1
  have d8 : δ.1 ≤ 8 := hW.2.1.1
  refine c_in (L := [.ref 80, .int v, .null]) rfl rfl ?_
  refine r_s (pc' := 1) dX7_rule_0 rfl rfl ?_
  refine r_s (pc' := 2) dX7_rule_1 rfl rfl ?_
  refine r_c (pc' := 3) dX7_rule_2 rfl kc_lconst_0 ?_
  refine r_c (pc' := 4) dX7_rule_3 rfl kc_lconst_1 ?_
  refine r_Si3 (pc' := 7) dX7_rule_4 rfl lX7_89 rfl (Nat.le_of_ble_eq_true rfl) (Nat.le_of_ble_eq_true rfl) (ct_in_m (n := 1) (by decide)) (fun r4 h4 e4 => ?_)
  rcases e4 with ⟨rfl, rfl, j4, hj4, rfl⟩ | ⟨rfl, rfl, hn4⟩
  · refine r_ifne_t (tgt := 13) dX7_rule_7 (by decide) (by decide) ?_
    refine r_s (pc' := 14) dX7_rule_13 rfl rfl ?_
    refine h_gi (pc' := 17) dX7_rule_14 rfl fX7_86 (hl_ rfl) rfl ?_
    refine r_top (hR.1) ?_
    refine r_ifne (pc' := 20) (tgt := 23) dX7_rule_17 rfl (by decide) (fun c17 => ?_) (fun c17 => ?_)
    · refine r_s (pc' := 24) dX7_rule_23 rfl rfl ?_
      refine h_gi (pc' := 27) dX7_rule_24 rfl fX7_153 (hl_ rfl) rfl ?_
      refine r_st_2_3 (pc' := 28) dX7_rule_27 rfl rfl rfl ?_
      refine r_s (pc' := 29) dX7_rule_28 rfl rfl ?_
      refine r_s (pc' := 30) dX7_rule_29 rfl rfl ?_
      refine h_pi (pc' := 33) dX7_rule_30 rfl fX7_153 rfl (hl_ rfl) rfl ?_
      refine r_s (pc' := 34) dX7_rule_33 rfl rfl ?_
      refine r_reti dX7_rule_34 rfl (rfl) (Nat.le_of_ble_eq_true rfl) (Nat.le_of_ble_eq_true rfl) ⟨_, rfl, ?_⟩
      have e2 : sp_rule ρ (nI j4) = (wl ρ j4, nI (zl ρ)) := by rw [sp_rule, if_pos (ok_in hj4 (by decide)), if_neg (z1 c17), ix_nI (by omega)]
      rw [e2]
      exact ⟨_, rfl, fun q hq => up_o (by omega), hM.putR (hR.u_l j4) (fun j hj => up_n (by omega)) (fun r h1 h2 => up_o (by omega)), hR.2.2.2.1⟩
    · refine r_c (pc' := 22) dX7_rule_20 rfl kc_bipush_m3 ?_
      refine r_reti dX7_rule_22 rfl (rfl) (Nat.le_of_ble_eq_true rfl) (Nat.le_of_ble_eq_true rfl) ⟨_, rfl, ?_⟩
      exact ⟨I, rfl, fun _ _ => rfl, by rw [show sp_rule ρ (nI j4) = (ρ, -3) by rw [sp_rule, if_pos (ok_in hj4 (by decide)), if_pos (z0 c17 hw.bi)]]; exact hM, by rw [show sp_rule ρ (nI j4) = (ρ, -3) by rw [sp_rule, if_pos (ok_in hj4 (by decide)), if_pos (z0 c17 hw.bi)]]⟩
  · refine r_ifne_f (pc' := 10) (tgt := 13) dX7_rule_7 rfl (by decide) (by decide) ?_
    refine r_c (pc' := 12) dX7_rule_10 rfl kc_bipush_m2 ?_
    refine r_reti dX7_rule_12 rfl (rfl) (Nat.le_of_ble_eq_true rfl) (Nat.le_of_ble_eq_true rfl) ⟨_, rfl, ?_⟩
    exact ⟨I, rfl, fun _ _ => rfl, by rw [show sp_rule ρ v = (ρ, -2) by rw [sp_rule, ok_no (by decide) hn4]; rfl]; exact hM, by rw [show sp_rule ρ v = (ρ, -2) by rw [sp_rule, ok_no (by decide) hn4]; rfl]⟩

set_option maxHeartbeats 4000000 in
set_option maxRecDepth 100000 in
theorem pm_fall {d : Nat} {x : hX} {I : Nat → Nat → Int32} {ρ : zR} {δ : zD} {η : zH} {ft tr : Int32} {k v : Int32} (hM : MI I (ρ, δ, η, ft, tr)) (hW : WF (ρ, δ, η, ft, tr)) : ci (d + 3) MX7_fall [.ref 80, .int k, .int v] (hp x I) (fun r h' => ∃ I', h' = hp x I' ∧ (∀ q, q < 80 → I' q = I q) ∧ MI I' ((sp_fall ρ k v).1, δ, η, ft, tr) ∧ r = (sp_fall ρ k v).2) := by
  have hR : isMd I ρ := hM.R
  have hw : wfR ρ := hW.1
  have b6 : zi ρ ≤ 6 := hw.1
  have b8 : zn ρ ≤ 8 := hw.2.1
  have bg : zg ρ ≤ 8 := hw.2.2.1
  have d8 : δ.1 ≤ 8 := hW.2.1.1
  refine c_in (L := [.ref 80, .int k, .int v, .null]) rfl rfl ?_
  refine r_s (pc' := 1) dX7_fall_0 rfl rfl ?_
  refine h_gi (pc' := 4) dX7_fall_1 rfl fX7_86 (hl_ rfl) rfl ?_
  refine r_top (hR.1) ?_
  refine r_ifne (pc' := 7) (tgt := 10) dX7_fall_4 rfl (by decide) (fun c4 => ?_) (fun c4 => ?_)
  · refine r_s (pc' := 11) dX7_fall_10 rfl rfl ?_
    refine r_s (pc' := 12) dX7_fall_11 rfl rfl ?_
    refine r_Vi1 (pc' := 15) dX7_fall_12 rfl lX7_168 (hl_ rfl) rfl rfl rfl rfl (Nat.le_of_ble_eq_true rfl) (Nat.le_of_ble_eq_true rfl) (ct_X7_noNight hR.2.1 hw.bn) (fun r12 h12 e12 => ?_)
    rcases e12 with ⟨rfl, rfl, j12, hj12, rfl⟩ | ⟨rfl, rfl, hn12⟩
    · refine r_ifne_f (pc' := 18) (tgt := 30) dX7_fall_15 rfl (by decide) (by decide) ?_
      refine r_s (pc' := 19) dX7_fall_18 rfl rfl ?_
      refine r_s (pc' := 20) dX7_fall_19 rfl rfl ?_
      refine r_c (pc' := 21) dX7_fall_20 rfl kc_lconst_0 ?_
      refine r_ldc2 (pc' := 24) dX7_fall_21 rfl kX7_171 ?_
      refine r_topl (show (5 : Int64) = lN 5 from rfl) ?_
      refine r_Si3 (pc' := 27) dX7_fall_24 rfl lX7_89 rfl (Nat.le_of_ble_eq_true rfl) (Nat.le_of_ble_eq_true rfl) (ct_in_m (n := 5) (by decide)) (fun r24 h24 e24 => ?_)
      rcases e24 with ⟨rfl, rfl, j24, hj24, rfl⟩ | ⟨rfl, rfl, hn24⟩
      · refine r_ifne_t (tgt := 33) dX7_fall_27 (by decide) (by decide) ?_
        refine r_s (pc' := 34) dX7_fall_33 rfl rfl ?_
        refine r_gr (pc' := 37) dX7_fall_34 rfl fX7_19 (hl_ rfl) rfl rfl ?_
        refine r_s (pc' := 38) dX7_fall_37 rfl rfl ?_
        refine h_ald (pc' := 39) dX7_fall_38 rfl (hl_ rfl) rfl (vp_in_nI (by omega) (by decide)) (nI_clamp (by omega)) ?_
        refine r_top (hR.f _ hj12) ?_
        refine r_st_3_4 (pc' := 40) dX7_fall_39 rfl rfl rfl ?_
        refine r_s (pc' := 41) dX7_fall_40 rfl rfl ?_
        refine r_gr (pc' := 44) dX7_fall_41 rfl fX7_19 (hl_ rfl) rfl rfl ?_
        refine r_s (pc' := 45) dX7_fall_44 rfl rfl ?_
        refine r_s (pc' := 46) dX7_fall_45 rfl rfl ?_
        refine h_ast (pc' := 47) dX7_fall_46 rfl (hl_ rfl) rfl (vp_in_nI (by omega) (by decide)) (nI_clamp (by omega)) ?_
        refine r_s (pc' := 48) dX7_fall_47 rfl rfl ?_
        refine r_reti dX7_fall_48 rfl (rfl) (Nat.le_of_ble_eq_true rfl) (Nat.le_of_ble_eq_true rfl) ⟨_, rfl, ?_⟩
        have e2 : sp_fall ρ (nI j12) (nI j24) = (wf ρ (fup (zf ρ) j12 j24), nI (zf ρ j12)) := by rw [sp_fall, if_neg (z1 c4), if_pos ⟨ok_in hj12 hw.bn, ok_in hj24 (by decide)⟩, ix_nI (by omega), ix_nI (by omega)]
        rw [e2]
        exact ⟨_, rfl, fun q hq => up_o (by omega), hM.putR (hR.u_f j12 j24) (fun j hj => by rw [up_o (by decide)]) (fun r h1 h2 => up_o (by omega)), rfl⟩
      · refine r_ifne_f (pc' := 30) (tgt := 33) dX7_fall_27 rfl (by decide) (by decide) ?_
        refine r_c (pc' := 32) dX7_fall_30 rfl kc_bipush_m2 ?_
        refine r_reti dX7_fall_32 rfl (rfl) (Nat.le_of_ble_eq_true rfl) (Nat.le_of_ble_eq_true rfl) ⟨_, rfl, ?_⟩
        exact ⟨I, rfl, fun _ _ => rfl, by rw [sp_fall_no (z1 c4) (Or.inr (ok_no (by decide) hn24))]; exact hM, by rw [sp_fall_no (z1 c4) (Or.inr (ok_no (by decide) hn24))]⟩
    · refine r_ifne_t (tgt := 30) dX7_fall_15 (by decide) (by decide) ?_
      refine r_c (pc' := 32) dX7_fall_30 rfl kc_bipush_m2 ?_
      refine r_reti dX7_fall_32 rfl (rfl) (Nat.le_of_ble_eq_true rfl) (Nat.le_of_ble_eq_true rfl) ⟨_, rfl, ?_⟩
      exact ⟨I, rfl, fun _ _ => rfl, by rw [sp_fall_no (z1 c4) (Or.inl (ok_no hw.bn hn12))]; exact hM, by rw [sp_fall_no (z1 c4) (Or.inl (ok_no hw.bn hn12))]⟩
  · refine r_c (pc' := 9) dX7_fall_7 rfl kc_bipush_m3 ?_
    refine r_reti dX7_fall_9 rfl (rfl) (Nat.le_of_ble_eq_true rfl) (Nat.le_of_ble_eq_true rfl) ⟨_, rfl, ?_⟩
    exact ⟨I, rfl, fun _ _ => rfl, by rw [show sp_fall ρ k v = (ρ, -3) by rw [sp_fall, if_pos (z0 c4 hw.bi)]]; exact hM, by rw [show sp_fall ρ k v = (ρ, -3) by rw [sp_fall, if_pos (z0 c4 hw.bi)]]⟩

set_option maxHeartbeats 4000000 in
set_option maxRecDepth 100000 in
theorem pm_gust {d : Nat} {x : hX} {I : Nat → Nat → Int32} {ρ : zR} {δ : zD} {η : zH} {ft tr : Int32} {k : Int32} {b : Nat} (hM : MI I (ρ, δ, η, ft, tr)) (hW : WF (ρ, δ, η, ft, tr)) (hb : b ≤ 1) : ci (d + 3) MX7_gust [.ref 80, .int k, .int (nI b)] (hp x I) (fun r h' => ∃ I', h' = hp x I' ∧ (∀ q, q < 80 → I' q = I q) ∧ MI I' ((sp_gust ρ k b).1, δ, η, ft, tr) ∧ r = (sp_gust ρ k b).2) := by
  have hR : isMd I ρ := hM.R
  have hw : wfR ρ := hW.1
  have b6 : zi ρ ≤ 6 := hw.1
  have b8 : zn ρ ≤ 8 := hw.2.1
  have bg : zg ρ ≤ 8 := hw.2.2.1
  have d8 : δ.1 ≤ 8 := hW.2.1.1
  refine c_in (L := [.ref 80, .int k, .int (nI b), .null]) rfl rfl ?_
  refine r_s (pc' := 1) dX7_gust_0 rfl rfl ?_
  refine h_gi (pc' := 4) dX7_gust_1 rfl fX7_86 (hl_ rfl) rfl ?_
  refine r_top (hR.1) ?_
  refine r_ifne (pc' := 7) (tgt := 10) dX7_gust_4 rfl (by decide) (fun c4 => ?_) (fun c4 => ?_)
  · refine r_s (pc' := 11) dX7_gust_10 rfl rfl ?_
    refine r_s (pc' := 12) dX7_gust_11 rfl rfl ?_
    refine r_Vi1 (pc' := 15) dX7_gust_12 rfl lX7_168 (hl_ rfl) rfl rfl rfl rfl (Nat.le_of_ble_eq_true rfl) (Nat.le_of_ble_eq_true rfl) (ct_X7_noNight hR.2.1 hw.bn) (fun r12 h12 e12 => ?_)
    rcases e12 with ⟨rfl, rfl, j12, hj12, rfl⟩ | ⟨rfl, rfl, hn12⟩
    · refine r_ifeq_t (tgt := 21) dX7_gust_15 (by decide) (by decide) ?_
      refine r_s (pc' := 22) dX7_gust_21 rfl rfl ?_
      refine r_gr (pc' := 25) dX7_gust_22 rfl fX7_16 (hl_ rfl) rfl rfl ?_
      refine r_s (pc' := 26) dX7_gust_25 rfl rfl ?_
      refine h_ald (pc' := 27) dX7_gust_26 rfl (hl_ rfl) rfl (vp_in_nI (by omega) (by decide)) (nI_clamp (by omega)) ?_
      refine r_top (hR.w _ hj12) ?_
      refine r_c (pc' := 28) dX7_gust_27 rfl kc_iconst_1 ?_
      refine r_cne (pc' := 31) (tgt := 35) dX7_gust_28 rfl (by decide) (fun c28 => ?_) (fun c28 => ?_)
      · refine r_c (pc' := 36) dX7_gust_35 rfl kc_iconst_0 ?_
        refine r_st_3_4 (pc' := 37) dX7_gust_36 rfl rfl rfl ?_
        refine r_s (pc' := 38) dX7_gust_37 rfl rfl ?_
        refine r_gr (pc' := 41) dX7_gust_38 rfl fX7_16 (hl_ rfl) rfl rfl ?_
        refine r_s (pc' := 42) dX7_gust_41 rfl rfl ?_
        refine r_s (pc' := 43) dX7_gust_42 rfl rfl ?_
        refine r_ifeq (pc' := 46) (tgt := 50) dX7_gust_43 rfl (by decide) (fun c43 => ?_) (fun c43 => ?_)
        · refine r_c (pc' := 51) dX7_gust_50 rfl kc_iconst_0 ?_
          refine r_top (show (0 : Int32) = nI b from c43.symm) ?_
          refine h_ast (pc' := 52) dX7_gust_51 rfl (hl_ rfl) rfl (vp_in_nI (by omega) (by decide)) (nI_clamp (by omega)) ?_
          refine r_s (pc' := 53) dX7_gust_52 rfl rfl ?_
          refine r_s (pc' := 54) dX7_gust_53 rfl rfl ?_
          refine r_cne (pc' := 57) (tgt := 61) dX7_gust_54 rfl (by decide) (fun c54 => ?_) (fun c54 => ?_)
          · refine r_c (pc' := 62) dX7_gust_61 rfl kc_iconst_1 ?_
            refine r_reti dX7_gust_62 rfl (rfl) (Nat.le_of_ble_eq_true rfl) (Nat.le_of_ble_eq_true rfl) ⟨_, rfl, ?_⟩
            have hz1 : zw ρ j12 ≤ 1 := hw.w1 hj12
            have hz : zw ρ j12 = 0 := (by have h1 : zw ρ j12 ≠ 1 := fun e => c28 (by rw [e]; rfl); omega)
            have e2 : sp_gust ρ (nI j12) b = (ww ρ (fup (zw ρ) j12 b), if zw ρ j12 = b then 0 else 1) := by rw [sp_gust, if_neg (z1 c4), if_pos (ok_in hj12 hw.bn), ix_nI (by omega)]
            rw [e2]
            exact ⟨_, rfl, fun q hq => up_o (by omega), hM.putR (hR.u_w j12 b) (fun j hj => by rw [up_o (by decide)]) (fun r h1 h2 => up_o (by omega)), by rw [if_neg (fun e => c54 (by rw [← e, hz]; rfl))]⟩
          · refine r_c (pc' := 58) dX7_gust_57 rfl kc_iconst_0 ?_
            refine r_goto (tgt := 62) dX7_gust_58 (by decide) ?_
            refine r_reti dX7_gust_62 rfl (rfl) (Nat.le_of_ble_eq_true rfl) (Nat.le_of_ble_eq_true rfl) ⟨_, rfl, ?_⟩
            have hz1 : zw ρ j12 ≤ 1 := hw.w1 hj12
            have hz : zw ρ j12 = 0 := (by have h1 : zw ρ j12 ≠ 1 := fun e => c28 (by rw [e]; rfl); omega)
            have e2 : sp_gust ρ (nI j12) b = (ww ρ (fup (zw ρ) j12 b), if zw ρ j12 = b then 0 else 1) := by rw [sp_gust, if_neg (z1 c4), if_pos (ok_in hj12 hw.bn), ix_nI (by omega)]
            rw [e2]
            exact ⟨_, rfl, fun q hq => up_o (by omega), hM.putR (hR.u_w j12 b) (fun j hj => by rw [up_o (by decide)]) (fun r h1 h2 => up_o (by omega)), by rw [if_pos (by have := (nI_eq (a := 0) (b := b) (by omega) (by omega)).mp c54; omega)]⟩
        · refine r_c (pc' := 47) dX7_gust_46 rfl kc_iconst_1 ?_
          refine r_goto (tgt := 51) dX7_gust_47 (by decide) ?_
          refine r_top (b01_1 hb c43) ?_
          refine h_ast (pc' := 52) dX7_gust_51 rfl (hl_ rfl) rfl (vp_in_nI (by omega) (by decide)) (nI_clamp (by omega)) ?_
          refine r_s (pc' := 53) dX7_gust_52 rfl rfl ?_
          refine r_s (pc' := 54) dX7_gust_53 rfl rfl ?_
          refine r_cne (pc' := 57) (tgt := 61) dX7_gust_54 rfl (by decide) (fun c54 => ?_) (fun c54 => ?_)
          · refine r_c (pc' := 62) dX7_gust_61 rfl kc_iconst_1 ?_
            refine r_reti dX7_gust_62 rfl (rfl) (Nat.le_of_ble_eq_true rfl) (Nat.le_of_ble_eq_true rfl) ⟨_, rfl, ?_⟩
            have hz1 : zw ρ j12 ≤ 1 := hw.w1 hj12
            have hz : zw ρ j12 = 0 := (by have h1 : zw ρ j12 ≠ 1 := fun e => c28 (by rw [e]; rfl); omega)
            have e2 : sp_gust ρ (nI j12) b = (ww ρ (fup (zw ρ) j12 b), if zw ρ j12 = b then 0 else 1) := by rw [sp_gust, if_neg (z1 c4), if_pos (ok_in hj12 hw.bn), ix_nI (by omega)]
            rw [e2]
            exact ⟨_, rfl, fun q hq => up_o (by omega), hM.putR (hR.u_w j12 b) (fun j hj => by rw [up_o (by decide)]) (fun r h1 h2 => up_o (by omega)), by rw [if_neg (fun e => c54 (by rw [← e, hz]; rfl))]⟩
          · refine r_c (pc' := 58) dX7_gust_57 rfl kc_iconst_0 ?_
            refine r_goto (tgt := 62) dX7_gust_58 (by decide) ?_
            refine r_reti dX7_gust_62 rfl (rfl) (Nat.le_of_ble_eq_true rfl) (Nat.le_of_ble_eq_true rfl) ⟨_, rfl, ?_⟩
            have hz1 : zw ρ j12 ≤ 1 := hw.w1 hj12
            have hz : zw ρ j12 = 0 := (by have h1 : zw ρ j12 ≠ 1 := fun e => c28 (by rw [e]; rfl); omega)
            have e2 : sp_gust ρ (nI j12) b = (ww ρ (fup (zw ρ) j12 b), if zw ρ j12 = b then 0 else 1) := by rw [sp_gust, if_neg (z1 c4), if_pos (ok_in hj12 hw.bn), ix_nI (by omega)]
            rw [e2]
            exact ⟨_, rfl, fun q hq => up_o (by omega), hM.putR (hR.u_w j12 b) (fun j hj => by rw [up_o (by decide)]) (fun r h1 h2 => up_o (by omega)), by rw [if_pos (by have := (nI_eq (a := 0) (b := b) (by omega) (by omega)).mp c54; omega)]⟩
      · refine r_c (pc' := 32) dX7_gust_31 rfl kc_iconst_1 ?_
        refine r_goto (tgt := 36) dX7_gust_32 (by decide) ?_
        refine r_st_3_4 (pc' := 37) dX7_gust_36 rfl rfl rfl ?_
        refine r_s (pc' := 38) dX7_gust_37 rfl rfl ?_
        refine r_gr (pc' := 41) dX7_gust_38 rfl fX7_16 (hl_ rfl) rfl rfl ?_
        refine r_s (pc' := 42) dX7_gust_41 rfl rfl ?_
        refine r_s (pc' := 43) dX7_gust_42 rfl rfl ?_
        refine r_ifeq (pc' := 46) (tgt := 50) dX7_gust_43 rfl (by decide) (fun c43 => ?_) (fun c43 => ?_)
        · refine r_c (pc' := 51) dX7_gust_50 rfl kc_iconst_0 ?_
          refine r_top (show (0 : Int32) = nI b from c43.symm) ?_
          refine h_ast (pc' := 52) dX7_gust_51 rfl (hl_ rfl) rfl (vp_in_nI (by omega) (by decide)) (nI_clamp (by omega)) ?_
          refine r_s (pc' := 53) dX7_gust_52 rfl rfl ?_
          refine r_s (pc' := 54) dX7_gust_53 rfl rfl ?_
          refine r_cne (pc' := 57) (tgt := 61) dX7_gust_54 rfl (by decide) (fun c54 => ?_) (fun c54 => ?_)
          · refine r_c (pc' := 62) dX7_gust_61 rfl kc_iconst_1 ?_
            refine r_reti dX7_gust_62 rfl (rfl) (Nat.le_of_ble_eq_true rfl) (Nat.le_of_ble_eq_true rfl) ⟨_, rfl, ?_⟩
            have hz1 : zw ρ j12 ≤ 1 := hw.w1 hj12
            have hz : zw ρ j12 = 1 := (nI_eq (by omega) (by decide)).mp c28
            have e2 : sp_gust ρ (nI j12) b = (ww ρ (fup (zw ρ) j12 b), if zw ρ j12 = b then 0 else 1) := by rw [sp_gust, if_neg (z1 c4), if_pos (ok_in hj12 hw.bn), ix_nI (by omega)]
            rw [e2]
            exact ⟨_, rfl, fun q hq => up_o (by omega), hM.putR (hR.u_w j12 b) (fun j hj => by rw [up_o (by decide)]) (fun r h1 h2 => up_o (by omega)), by rw [if_neg (fun e => c54 (by rw [← e, hz]; rfl))]⟩
          · refine r_c (pc' := 58) dX7_gust_57 rfl kc_iconst_0 ?_
            refine r_goto (tgt := 62) dX7_gust_58 (by decide) ?_
            refine r_reti dX7_gust_62 rfl (rfl) (Nat.le_of_ble_eq_true rfl) (Nat.le_of_ble_eq_true rfl) ⟨_, rfl, ?_⟩
            have hz1 : zw ρ j12 ≤ 1 := hw.w1 hj12
            have hz : zw ρ j12 = 1 := (nI_eq (by omega) (by decide)).mp c28
            have e2 : sp_gust ρ (nI j12) b = (ww ρ (fup (zw ρ) j12 b), if zw ρ j12 = b then 0 else 1) := by rw [sp_gust, if_neg (z1 c4), if_pos (ok_in hj12 hw.bn), ix_nI (by omega)]
            rw [e2]
            exact ⟨_, rfl, fun q hq => up_o (by omega), hM.putR (hR.u_w j12 b) (fun j hj => by rw [up_o (by decide)]) (fun r h1 h2 => up_o (by omega)), by rw [if_pos (by have := (nI_eq (a := 1) (b := b) (by omega) (by omega)).mp c54; omega)]⟩
        · refine r_c (pc' := 47) dX7_gust_46 rfl kc_iconst_1 ?_
          refine r_goto (tgt := 51) dX7_gust_47 (by decide) ?_
          refine r_top (b01_1 hb c43) ?_
          refine h_ast (pc' := 52) dX7_gust_51 rfl (hl_ rfl) rfl (vp_in_nI (by omega) (by decide)) (nI_clamp (by omega)) ?_
          refine r_s (pc' := 53) dX7_gust_52 rfl rfl ?_
          refine r_s (pc' := 54) dX7_gust_53 rfl rfl ?_
          refine r_cne (pc' := 57) (tgt := 61) dX7_gust_54 rfl (by decide) (fun c54 => ?_) (fun c54 => ?_)
          · refine r_c (pc' := 62) dX7_gust_61 rfl kc_iconst_1 ?_
            refine r_reti dX7_gust_62 rfl (rfl) (Nat.le_of_ble_eq_true rfl) (Nat.le_of_ble_eq_true rfl) ⟨_, rfl, ?_⟩
            have hz1 : zw ρ j12 ≤ 1 := hw.w1 hj12
            have hz : zw ρ j12 = 1 := (nI_eq (by omega) (by decide)).mp c28
            have e2 : sp_gust ρ (nI j12) b = (ww ρ (fup (zw ρ) j12 b), if zw ρ j12 = b then 0 else 1) := by rw [sp_gust, if_neg (z1 c4), if_pos (ok_in hj12 hw.bn), ix_nI (by omega)]
            rw [e2]
            exact ⟨_, rfl, fun q hq => up_o (by omega), hM.putR (hR.u_w j12 b) (fun j hj => by rw [up_o (by decide)]) (fun r h1 h2 => up_o (by omega)), by rw [if_neg (fun e => c54 (by rw [← e, hz]; rfl))]⟩
          · refine r_c (pc' := 58) dX7_gust_57 rfl kc_iconst_0 ?_
            refine r_goto (tgt := 62) dX7_gust_58 (by decide) ?_
            refine r_reti dX7_gust_62 rfl (rfl) (Nat.le_of_ble_eq_true rfl) (Nat.le_of_ble_eq_true rfl) ⟨_, rfl, ?_⟩
            have hz1 : zw ρ j12 ≤ 1 := hw.w1 hj12
            have hz : zw ρ j12 = 1 := (nI_eq (by omega) (by decide)).mp c28
            have e2 : sp_gust ρ (nI j12) b = (ww ρ (fup (zw ρ) j12 b), if zw ρ j12 = b then 0 else 1) := by rw [sp_gust, if_neg (z1 c4), if_pos (ok_in hj12 hw.bn), ix_nI (by omega)]
            rw [e2]
            exact ⟨_, rfl, fun q hq => up_o (by omega), hM.putR (hR.u_w j12 b) (fun j hj => by rw [up_o (by decide)]) (fun r h1 h2 => up_o (by omega)), by rw [if_pos (by have := (nI_eq (a := 1) (b := b) (by omega) (by omega)).mp c54; omega)]⟩
    · refine r_ifeq_f (pc' := 18) (tgt := 21) dX7_gust_15 rfl (by decide) (by decide) ?_
      refine r_c (pc' := 20) dX7_gust_18 rfl kc_bipush_m2 ?_
      refine r_reti dX7_gust_20 rfl (rfl) (Nat.le_of_ble_eq_true rfl) (Nat.le_of_ble_eq_true rfl) ⟨_, rfl, ?_⟩
      exact ⟨I, rfl, fun _ _ => rfl, by rw [show sp_gust ρ k b = (ρ, -2) by rw [sp_gust, if_neg (z1 c4), ok_no hw.bn hn12]; rfl]; exact hM, by rw [show sp_gust ρ k b = (ρ, -2) by rw [sp_gust, if_neg (z1 c4), ok_no hw.bn hn12]; rfl]⟩
  · refine r_c (pc' := 9) dX7_gust_7 rfl kc_bipush_m3 ?_
    refine r_reti dX7_gust_9 rfl (rfl) (Nat.le_of_ble_eq_true rfl) (Nat.le_of_ble_eq_true rfl) ⟨_, rfl, ?_⟩
    exact ⟨I, rfl, fun _ _ => rfl, by rw [show sp_gust ρ k b = (ρ, -3) by rw [sp_gust, if_pos (z0 c4 hw.bi)]]; exact hM, by rw [show sp_gust ρ k b = (ρ, -3) by rw [sp_gust, if_pos (z0 c4 hw.bi)]]⟩

set_option maxHeartbeats 4000000 in
set_option maxRecDepth 100000 in
theorem pm_lodge {d : Nat} {x : hX} {I : Nat → Nat → Int32} {ρ : zR} {δ : zD} {η : zH} {ft tr : Int32} {g k : Int32} (hM : MI I (ρ, δ, η, ft, tr)) (hW : WF (ρ, δ, η, ft, tr)) : ci (d + 3) MX7_lodge [.ref 80, .int g, .int k] (hp x I) (fun r h' => ∃ I', h' = hp x I' ∧ (∀ q, q < 80 → I' q = I q) ∧ MI I' ((sp_lodge ρ g k).1, δ, η, ft, tr) ∧ r = (sp_lodge ρ g k).2) := by
  have hR : isMd I ρ := hM.R
  have hw : wfR ρ := hW.1
  have b6 : zi ρ ≤ 6 := hw.1
  have b8 : zn ρ ≤ 8 := hw.2.1
  have bg : zg ρ ≤ 8 := hw.2.2.1
  have d8 : δ.1 ≤ 8 := hW.2.1.1
  refine c_in (L := [.ref 80, .int g, .int k, .null]) rfl rfl ?_
  refine r_s (pc' := 1) dX7_lodge_0 rfl rfl ?_
  refine r_s (pc' := 2) dX7_lodge_1 rfl rfl ?_
  refine r_Vi1 (pc' := 5) dX7_lodge_2 rfl lX7_165 (hl_ rfl) rfl rfl rfl rfl (Nat.le_of_ble_eq_true rfl) (Nat.le_of_ble_eq_true rfl) (ct_X7_noGuest hR.2.2.1 hw.bg) (fun r2 h2 e2 => ?_)
  rcases e2 with ⟨rfl, rfl, j2, hj2, rfl⟩ | ⟨rfl, rfl, hn2⟩
  · refine r_ifne_f (pc' := 8) (tgt := 16) dX7_lodge_5 rfl (by decide) (by decide) ?_
    refine r_s (pc' := 9) dX7_lodge_8 rfl rfl ?_
    refine r_s (pc' := 10) dX7_lodge_9 rfl rfl ?_
    refine r_Vi1 (pc' := 13) dX7_lodge_10 rfl lX7_159 (hl_ rfl) rfl rfl rfl rfl (Nat.le_of_ble_eq_true rfl) (Nat.le_of_ble_eq_true rfl) (ct_X7_noInn hR.1 hw.bi) (fun r10 h10 e10 => ?_)
    rcases e10 with ⟨rfl, rfl, j10, hj10, rfl⟩ | ⟨rfl, rfl, hn10⟩
    · refine r_ifeq_t (tgt := 18) dX7_lodge_13 (by decide) (by decide) ?_
      refine r_s (pc' := 19) dX7_lodge_18 rfl rfl ?_
      refine r_gr (pc' := 22) dX7_lodge_19 rfl fX7_25 (hl_ rfl) rfl rfl ?_
      refine r_s (pc' := 23) dX7_lodge_22 rfl rfl ?_
      refine h_ald (pc' := 24) dX7_lodge_23 rfl (hl_ rfl) rfl (vp_in_nI (by omega) (by decide)) (nI_clamp (by omega)) ?_
      refine r_top (hR.h _ hj2) ?_
      refine r_st_3_4 (pc' := 25) dX7_lodge_24 rfl rfl rfl ?_
      refine r_s (pc' := 26) dX7_lodge_25 rfl rfl ?_
      refine r_gr (pc' := 29) dX7_lodge_26 rfl fX7_25 (hl_ rfl) rfl rfl ?_
      refine r_s (pc' := 30) dX7_lodge_29 rfl rfl ?_
      refine r_s (pc' := 31) dX7_lodge_30 rfl rfl ?_
      refine h_ast (pc' := 32) dX7_lodge_31 rfl (hl_ rfl) rfl (vp_in_nI (by omega) (by decide)) (nI_clamp (by omega)) ?_
      refine r_s (pc' := 33) dX7_lodge_32 rfl rfl ?_
      refine r_reti dX7_lodge_33 rfl (rfl) (Nat.le_of_ble_eq_true rfl) (Nat.le_of_ble_eq_true rfl) ⟨_, rfl, ?_⟩
      have e2 : sp_lodge ρ (nI j2) (nI j10) = (wh ρ (fup (zh ρ) j2 j10), nI (zh ρ j2)) := by rw [sp_lodge, if_pos ⟨ok_in hj2 hw.bg, ok_in hj10 hw.bi⟩, ix_nI (by omega), ix_nI (by omega)]
      rw [e2]
      exact ⟨_, rfl, fun q hq => up_o (by omega), hM.putR (hR.u_h j2 j10) (fun j hj => by rw [up_o (by decide)]) (fun r h1 h2 => up_o (by omega)), rfl⟩
    · refine r_ifeq_f (pc' := 16) (tgt := 18) dX7_lodge_13 rfl (by decide) (by decide) ?_
      refine r_c (pc' := 17) dX7_lodge_16 rfl kc_iconst_m1 ?_
      refine r_reti dX7_lodge_17 rfl (rfl) (Nat.le_of_ble_eq_true rfl) (Nat.le_of_ble_eq_true rfl) ⟨_, rfl, ?_⟩
      exact ⟨I, rfl, fun _ _ => rfl, by rw [sp_lodge_no (Or.inr (ok_no hw.bi hn10))]; exact hM, by rw [sp_lodge_no (Or.inr (ok_no hw.bi hn10))]⟩
  · refine r_ifne_t (tgt := 16) dX7_lodge_5 (by decide) (by decide) ?_
    refine r_c (pc' := 17) dX7_lodge_16 rfl kc_iconst_m1 ?_
    refine r_reti dX7_lodge_17 rfl (rfl) (Nat.le_of_ble_eq_true rfl) (Nat.le_of_ble_eq_true rfl) ⟨_, rfl, ?_⟩
    exact ⟨I, rfl, fun _ _ => rfl, by rw [sp_lodge_no (Or.inl (ok_no hw.bg hn2))]; exact hM, by rw [sp_lodge_no (Or.inl (ok_no hw.bg hn2))]⟩

set_option maxHeartbeats 4000000 in
set_option maxRecDepth 100000 in
theorem pm_trace {d : Nat} {x : hX} {I : Nat → Nat → Int32} {ρ : zR} {δ : zD} {η : zH} {ft tr : Int32} (hM : MI I (ρ, δ, η, ft, tr)) (hW : WF (ρ, δ, η, ft, tr)) : ci (d + 1) MX7_trace [.ref 80] (hp x I) (fun r h' => h' = hp x I ∧ r = tr) := by
  have hR : isMd I ρ := hM.R
  have hw : wfR ρ := hW.1
  have b6 : zi ρ ≤ 6 := hw.1
  have b8 : zn ρ ≤ 8 := hw.2.1
  have bg : zg ρ ≤ 8 := hw.2.2.1
  have d8 : δ.1 ≤ 8 := hW.2.1.1
  refine c_in (L := [.ref 80]) rfl rfl ?_
  refine r_s (pc' := 1) dX7_trace_0 rfl rfl ?_
  refine h_gi (pc' := 4) dX7_trace_1 rfl fX7_238 (hl_ rfl) rfl ?_
  refine r_reti dX7_trace_4 rfl (rfl) (Nat.le_of_ble_eq_true rfl) (Nat.le_of_ble_eq_true rfl) ⟨_, rfl, ?_⟩
  exact ⟨rfl, hM.t⟩

set_option maxHeartbeats 4000000 in
set_option maxRecDepth 100000 in
theorem pm_fault {d : Nat} {x : hX} {I : Nat → Nat → Int32} {ρ : zR} {δ : zD} {η : zH} {ft tr : Int32} (hM : MI I (ρ, δ, η, ft, tr)) (hW : WF (ρ, δ, η, ft, tr)) : ci (d + 1) MX7_fault [.ref 80] (hp x I) (fun r h' => h' = hp x I ∧ r = ft) := by
  have hR : isMd I ρ := hM.R
  have hw : wfR ρ := hW.1
  have b6 : zi ρ ≤ 6 := hw.1
  have b8 : zn ρ ≤ 8 := hw.2.1
  have bg : zg ρ ≤ 8 := hw.2.2.1
  have d8 : δ.1 ≤ 8 := hW.2.1.1
  refine c_in (L := [.ref 80]) rfl rfl ?_
  refine r_s (pc' := 1) dX7_fault_0 rfl rfl ?_
  refine h_gi (pc' := 4) dX7_fault_1 rfl fX7_79 (hl_ rfl) rfl ?_
  refine r_reti dX7_fault_4 rfl (rfl) (Nat.le_of_ble_eq_true rfl) (Nat.le_of_ble_eq_true rfl) ⟨_, rfl, ?_⟩
  exact ⟨rfl, hM.f⟩

set_option maxHeartbeats 4000000 in
set_option maxRecDepth 100000 in
theorem pm_as {d : Nat} {x : hX} {I : Nat → Nat → Int32} {ρ : zR} {δ : zD} {η : zH} {ft tr : Int32} {k w : Int32} (hM : MI I (ρ, δ, η, ft, tr)) (hW : WF (ρ, δ, η, ft, tr)) : ci (d + 3) MX7_as [.ref 80, .int k, .int w] (hp x I) (fun r h' => ∃ I', h' = hp x I' ∧ (∀ q, q < 80 → I' q = I q) ∧ MI I' (ρ, δ, η, (sp_as ρ k w).1, tr) ∧ r = (sp_as ρ k w).2) := by
  have hR : isMd I ρ := hM.R
  have hw : wfR ρ := hW.1
  have b6 : zi ρ ≤ 6 := hw.1
  have b8 : zn ρ ≤ 8 := hw.2.1
  have bg : zg ρ ≤ 8 := hw.2.2.1
  have d8 : δ.1 ≤ 8 := hW.2.1.1
  refine c_in (L := [.ref 80, .int k, .int w]) rfl rfl ?_
  refine r_s (pc' := 1) dX7_as_0 rfl rfl ?_
  refine r_s (pc' := 2) dX7_as_1 rfl rfl ?_
  refine r_Vi1 (pc' := 5) dX7_as_2 rfl lX7_159 (hl_ rfl) rfl rfl rfl rfl (Nat.le_of_ble_eq_true rfl) (Nat.le_of_ble_eq_true rfl) (ct_X7_noInn hR.1 hw.bi) (fun r2 h2 e2 => ?_)
  rcases e2 with ⟨rfl, rfl, j2, hj2, rfl⟩ | ⟨rfl, rfl, hn2⟩
  · refine r_ifeq_t (tgt := 14) dX7_as_5 (by decide) (by decide) ?_
    refine r_s (pc' := 15) dX7_as_14 rfl rfl ?_
    refine r_s (pc' := 16) dX7_as_15 rfl rfl ?_
    refine r_c (pc' := 17) dX7_as_16 rfl kc_lconst_0 ?_
    refine r_ldc2 (pc' := 20) dX7_as_17 rfl kX7_144 ?_
    refine r_topl (show (2 : Int64) = lN 2 from rfl) ?_
    refine r_Si3 (pc' := 23) dX7_as_20 rfl lX7_89 rfl (Nat.le_of_ble_eq_true rfl) (Nat.le_of_ble_eq_true rfl) (ct_in_m (n := 2) (by decide)) (fun r20 h20 e20 => ?_)
    rcases e20 with ⟨rfl, rfl, j20, hj20, rfl⟩ | ⟨rfl, rfl, hn20⟩
    · refine r_ifne_t (tgt := 33) dX7_as_23 (by decide) (by decide) ?_
      refine r_s (pc' := 34) dX7_as_33 rfl rfl ?_
      refine r_gr (pc' := 37) dX7_as_34 rfl fX7_7 (hl_ rfl) rfl rfl ?_
      refine r_s (pc' := 38) dX7_as_37 rfl rfl ?_
      refine h_ald (pc' := 39) dX7_as_38 rfl (hl_ rfl) rfl (vp_in_nI (by omega) (by decide)) (nI_clamp (by omega)) ?_
      refine r_top (hR.k _ hj2) ?_
      refine r_s (pc' := 40) dX7_as_39 rfl rfl ?_
      refine r_clt (pc' := 43) (tgt := 51) dX7_as_40 rfl (by decide) (fun c40 => ?_) (fun c40 => ?_)
      · refine r_s (pc' := 52) dX7_as_51 rfl rfl ?_
        refine r_c (pc' := 53) dX7_as_52 rfl kc_iconst_2 ?_
        refine r_Vi1 (pc' := 56) dX7_as_53 rfl lX7_129 (hl_ rfl) rfl rfl rfl rfl (Nat.le_of_ble_eq_true rfl) (Nat.le_of_ble_eq_true rfl) (ct_X7_failed (f := 2)) (fun r53 h53 e53 => ?_)
        obtain ⟨rfl, rfl⟩ := e53
        refine r_reti dX7_as_56 rfl (rfl) (Nat.le_of_ble_eq_true rfl) (Nat.le_of_ble_eq_true rfl) ⟨_, rfl, ?_⟩
        have hkd := hw.kd hj2
        have e2 : sp_as ρ (nI j2) (nI j20) = (2, -12) := by rw [sp_as, if_pos (ok_in hj2 hw.bi), if_pos (ok_in hj20 (by decide)), ix_nI (by omega), ix_nI (by omega), if_neg (fun h => absurd c40 (nI_nlt h (by omega)))]
        rw [e2]
        exact ⟨_, rfl, fun q hq => up_o (by omega), hM.upf 2, rfl⟩
      · refine r_s (pc' := 44) dX7_as_43 rfl rfl ?_
        refine r_c (pc' := 45) dX7_as_44 rfl kc_iconst_1 ?_
        refine r_Vi1 (pc' := 48) dX7_as_45 rfl lX7_141 (hl_ rfl) rfl rfl rfl rfl (Nat.le_of_ble_eq_true rfl) (Nat.le_of_ble_eq_true rfl) (ct_X7_refused (v := 1)) (fun r45 h45 e45 => ?_)
        obtain ⟨rfl, rfl⟩ := e45
        refine r_goto (tgt := 56) dX7_as_48 (by decide) ?_
        refine r_reti dX7_as_56 rfl (rfl) (Nat.le_of_ble_eq_true rfl) (Nat.le_of_ble_eq_true rfl) ⟨_, rfl, ?_⟩
        have hkd := hw.kd hj2
        have e2 : sp_as ρ (nI j2) (nI j20) = (0, 1) := by rw [sp_as, if_pos (ok_in hj2 hw.bi), if_pos (ok_in hj20 (by decide)), ix_nI (by omega), ix_nI (by omega), if_pos ((nI_leI (by omega) (by omega)).mp (x_nlt c40))]
        rw [e2]
        exact ⟨_, rfl, fun q hq => up_o (by omega), hM.upf 0, rfl⟩
    · refine r_ifne_f (pc' := 26) (tgt := 33) dX7_as_23 rfl (by decide) (by decide) ?_
      refine r_s (pc' := 27) dX7_as_26 rfl rfl ?_
      refine r_c (pc' := 29) dX7_as_27 rfl kc_bipush_m2 ?_
      refine r_Vi1 (pc' := 32) dX7_as_29 rfl lX7_141 (hl_ rfl) rfl rfl rfl rfl (Nat.le_of_ble_eq_true rfl) (Nat.le_of_ble_eq_true rfl) (ct_X7_refused (v := -2)) (fun r29 h29 e29 => ?_)
      obtain ⟨rfl, rfl⟩ := e29
      refine r_reti dX7_as_32 rfl (rfl) (Nat.le_of_ble_eq_true rfl) (Nat.le_of_ble_eq_true rfl) ⟨_, rfl, ?_⟩
      have e2 : sp_as ρ (nI j2) w = (0, -2) := by rw [sp_as, if_pos (ok_in hj2 hw.bi), ok_no (by decide) hn20]; rfl
      rw [e2]
      exact ⟨_, rfl, fun q hq => up_o (by omega), hM.upf 0, rfl⟩
  · refine r_ifeq_f (pc' := 8) (tgt := 14) dX7_as_5 rfl (by decide) (by decide) ?_
    refine r_s (pc' := 9) dX7_as_8 rfl rfl ?_
    refine r_c (pc' := 10) dX7_as_9 rfl kc_iconst_m1 ?_
    refine r_Vi1 (pc' := 13) dX7_as_10 rfl lX7_141 (hl_ rfl) rfl rfl rfl rfl (Nat.le_of_ble_eq_true rfl) (Nat.le_of_ble_eq_true rfl) (ct_X7_refused (v := -1)) (fun r10 h10 e10 => ?_)
    obtain ⟨rfl, rfl⟩ := e10
    refine r_reti dX7_as_13 rfl (rfl) (Nat.le_of_ble_eq_true rfl) (Nat.le_of_ble_eq_true rfl) ⟨_, rfl, ?_⟩
    have e2 : sp_as ρ k w = (0, -1) := by rw [sp_as, ok_no hw.bi hn2]; rfl
    rw [e2]
    exact ⟨_, rfl, fun q hq => up_o (by omega), hM.upf 0, rfl⟩

set_option maxHeartbeats 4000000 in
set_option maxRecDepth 100000 in
theorem pm_light {d : Nat} {x : hX} {I : Nat → Nat → Int32} {ρ : zR} {δ : zD} {η : zH} {ft tr : Int32} {k : Int32} (hM : MI I (ρ, δ, η, ft, tr)) (hW : WF (ρ, δ, η, ft, tr)) : ci (d + 3) MX7_light [.ref 80, .int k] (hp x I) (fun r h' => ∃ I', h' = hp x I' ∧ (∀ q, q < 80 → I' q = I q) ∧ MI I' (ρ, δ, η, ft, (sp_light ρ tr k).1) ∧ r = (sp_light ρ tr k).2) := by
  have hR : isMd I ρ := hM.R
  have hw : wfR ρ := hW.1
  have b6 : zi ρ ≤ 6 := hw.1
  have b8 : zn ρ ≤ 8 := hw.2.1
  have bg : zg ρ ≤ 8 := hw.2.2.1
  have d8 : δ.1 ≤ 8 := hW.2.1.1
  refine c_in (L := [.ref 80, .int k]) rfl rfl ?_
  refine r_s (pc' := 1) dX7_light_0 rfl rfl ?_
  refine r_s (pc' := 2) dX7_light_1 rfl rfl ?_
  refine r_Vi1 (pc' := 5) dX7_light_2 rfl lX7_159 (hl_ rfl) rfl rfl rfl rfl (Nat.le_of_ble_eq_true rfl) (Nat.le_of_ble_eq_true rfl) (ct_X7_noInn hR.1 hw.bi) (fun r2 h2 e2 => ?_)
  rcases e2 with ⟨rfl, rfl, j2, hj2, rfl⟩ | ⟨rfl, rfl, hn2⟩
  · refine r_ifeq_t (tgt := 10) dX7_light_5 (by decide) (by decide) ?_
    refine r_s (pc' := 11) dX7_light_10 rfl rfl ?_
    refine r_s (pc' := 12) dX7_light_11 rfl rfl ?_
    refine r_gr (pc' := 15) dX7_light_12 rfl fX7_7 (hl_ rfl) rfl rfl ?_
    refine r_s (pc' := 16) dX7_light_15 rfl rfl ?_
    refine h_ald (pc' := 17) dX7_light_16 rfl (hl_ rfl) rfl (vp_in_nI (by omega) (by decide)) (nI_clamp (by omega)) ?_
    refine r_top (hR.k _ hj2) ?_
    refine r_c (pc' := 18) dX7_light_17 rfl kc_iconst_2 ?_
    refine r_cne (pc' := 21) (tgt := 25) dX7_light_18 rfl (by decide) (fun c18 => ?_) (fun c18 => ?_)
    · refine r_c (pc' := 26) dX7_light_25 rfl kc_iconst_4 ?_
      refine r_Vv1 (pc' := 29) dX7_light_26 rfl lX7_241 (hl_ rfl) rfl rfl rfl rfl (Nat.le_of_ble_eq_true rfl) (Nat.le_of_ble_eq_true rfl) (ct_X7_traced (n := 4)) (fun h26 e26 => ?_)
      obtain rfl := e26
      refine r_s (pc' := 30) dX7_light_29 rfl rfl ?_
      refine r_gr (pc' := 33) dX7_light_30 rfl fX7_7 (hl_ rfl) rfl rfl ?_
      refine r_s (pc' := 34) dX7_light_33 rfl rfl ?_
      refine h_ald (pc' := 35) dX7_light_34 rfl (hl_ rfl) rfl (vp_in_nI (by omega) (by decide)) (nI_clamp (by omega)) ?_
      refine r_top ((show sm_up I 80 33 _ 81 j2 = nI (zk ρ j2) by rw [up_o (by decide)]; exact hR.k _ hj2)) ?_
      refine r_c (pc' := 36) dX7_light_35 rfl kc_iconst_2 ?_
      refine r_cne (pc' := 39) (tgt := 44) dX7_light_36 rfl (by decide) (fun c36 => ?_) (fun c36 => ?_)
      · refine r_s (pc' := 45) dX7_light_44 rfl rfl ?_
        refine r_reti dX7_light_45 rfl (rfl) (Nat.le_of_ble_eq_true rfl) (Nat.le_of_ble_eq_true rfl) ⟨_, rfl, ?_⟩
        have kd : ¬ zk ρ j2 = 2 := fun e => c18 (by rw [e]; rfl)
        have e2 : sp_light ρ tr (nI j2) = (bt_ 4 tr, nI j2) := by rw [sp_light, if_pos (ok_in hj2 hw.bi), ix_nI (by omega), if_neg kd]
        rw [e2]
        exact ⟨_, rfl, fun q hq => up_o (by omega), by have := hM.upt (bt_ 4 (I 80 33)); rw [show I 80 33 = tr from hM.t] at this ⊢; exact this, rfl⟩
      · refine r_c (pc' := 41) dX7_light_39 rfl kc_bipush_80 ?_
        refine r_goto (tgt := 45) dX7_light_41 (by decide) ?_
        refine r_reti dX7_light_45 rfl (rfl) (Nat.le_of_ble_eq_true rfl) (Nat.le_of_ble_eq_true rfl) ⟨_, rfl, ?_⟩
        exact absurd c36 c18
    · refine r_c (pc' := 22) dX7_light_21 rfl kc_iconst_5 ?_
      refine r_goto (tgt := 26) dX7_light_22 (by decide) ?_
      refine r_Vv1 (pc' := 29) dX7_light_26 rfl lX7_241 (hl_ rfl) rfl rfl rfl rfl (Nat.le_of_ble_eq_true rfl) (Nat.le_of_ble_eq_true rfl) (ct_X7_traced (n := 5)) (fun h26 e26 => ?_)
      obtain rfl := e26
      refine r_s (pc' := 30) dX7_light_29 rfl rfl ?_
      refine r_gr (pc' := 33) dX7_light_30 rfl fX7_7 (hl_ rfl) rfl rfl ?_
      refine r_s (pc' := 34) dX7_light_33 rfl rfl ?_
      refine h_ald (pc' := 35) dX7_light_34 rfl (hl_ rfl) rfl (vp_in_nI (by omega) (by decide)) (nI_clamp (by omega)) ?_
      refine r_top ((show sm_up I 80 33 _ 81 j2 = nI (zk ρ j2) by rw [up_o (by decide)]; exact hR.k _ hj2)) ?_
      refine r_c (pc' := 36) dX7_light_35 rfl kc_iconst_2 ?_
      refine r_cne (pc' := 39) (tgt := 44) dX7_light_36 rfl (by decide) (fun c36 => ?_) (fun c36 => ?_)
      · refine r_s (pc' := 45) dX7_light_44 rfl rfl ?_
        refine r_reti dX7_light_45 rfl (rfl) (Nat.le_of_ble_eq_true rfl) (Nat.le_of_ble_eq_true rfl) ⟨_, rfl, ?_⟩
        exact absurd c18 c36
      · refine r_c (pc' := 41) dX7_light_39 rfl kc_bipush_80 ?_
        refine r_goto (tgt := 45) dX7_light_41 (by decide) ?_
        refine r_reti dX7_light_45 rfl (rfl) (Nat.le_of_ble_eq_true rfl) (Nat.le_of_ble_eq_true rfl) ⟨_, rfl, ?_⟩
        have kd : zk ρ j2 = 2 := (nI_eq (by have := hw.kd hj2; omega) (by decide)).mp c18
        have e2 : sp_light ρ tr (nI j2) = (bt_ 5 tr, 80) := by rw [sp_light, if_pos (ok_in hj2 hw.bi), ix_nI (by omega), if_pos kd]
        rw [e2]
        exact ⟨_, rfl, fun q hq => up_o (by omega), by have := hM.upt (bt_ 5 (I 80 33)); rw [show I 80 33 = tr from hM.t] at this ⊢; exact this, rfl⟩
  · refine r_ifeq_f (pc' := 8) (tgt := 10) dX7_light_5 rfl (by decide) (by decide) ?_
    refine r_c (pc' := 9) dX7_light_8 rfl kc_iconst_m1 ?_
    refine r_reti dX7_light_9 rfl (rfl) (Nat.le_of_ble_eq_true rfl) (Nat.le_of_ble_eq_true rfl) ⟨_, rfl, ?_⟩
    exact ⟨I, rfl, fun _ _ => rfl, by rw [show sp_light ρ tr k = (tr, -1) by rw [sp_light, ok_no hw.bi hn2]; rfl]; exact hM, by rw [show sp_light ρ tr k = (tr, -1) by rw [sp_light, ok_no hw.bi hn2]; rfl]⟩

set_option maxHeartbeats 4000000 in
set_option maxRecDepth 100000 in
theorem pm_back {d : Nat} {x : hX} {I : Nat → Nat → Int32} {ρ : zR} {δ : zD} {η : zH} {ft tr : Int32} {k : Int32} (hM : MI I (ρ, δ, η, ft, tr)) (hW : WF (ρ, δ, η, ft, tr)) : ci (d + 2) MX7_back [.ref 80, .int k] (hp x I) (fun r h' => ∃ I', h' = hp x I' ∧ (∀ q, q < 80 → I' q = I q) ∧ MI I' (ρ, (sp_back δ k).1, η, ft, tr) ∧ r = (sp_back δ k).2) := by
  have hR : isMd I ρ := hM.R
  have hw : wfR ρ := hW.1
  have b6 : zi ρ ≤ 6 := hw.1
  have b8 : zn ρ ≤ 8 := hw.2.1
  have bg : zg ρ ≤ 8 := hw.2.2.1
  have d8 : δ.1 ≤ 8 := hW.2.1.1
  have hD : isDM I δ := hM.D
  refine c_in (L := [.ref 80, .int k]) rfl rfl ?_
  refine r_s (pc' := 1) dX7_back_0 rfl rfl ?_
  refine r_s (pc' := 2) dX7_back_1 rfl rfl ?_
  refine r_c (pc' := 3) dX7_back_2 rfl kc_lconst_0 ?_
  refine r_s (pc' := 4) dX7_back_3 rfl rfl ?_
  refine h_gi (pc' := 7) dX7_back_4 rfl fX7_156 (hl_ rfl) rfl ?_
  refine r_top (hD.1) ?_
  refine r_s (pc' := 8) dX7_back_7 rfl rfl ?_
  refine r_topl (nI_l (by omega)) ?_
  refine r_Si3 (pc' := 11) dX7_back_8 rfl lX7_89 rfl (Nat.le_of_ble_eq_true rfl) (Nat.le_of_ble_eq_true rfl) (ct_in_m (by omega)) (fun r8 h8 e8 => ?_)
  rcases e8 with ⟨rfl, rfl, j8, hj8, rfl⟩ | ⟨rfl, rfl, hn8⟩
  · refine r_ifne_t (tgt := 17) dX7_back_11 (by decide) (by decide) ?_
    refine r_s (pc' := 18) dX7_back_17 rfl rfl ?_
    refine r_s (pc' := 19) dX7_back_18 rfl rfl ?_
    refine h_gi (pc' := 22) dX7_back_19 rfl fX7_156 (hl_ rfl) rfl ?_
    refine r_top (hD.1) ?_
    refine r_s (pc' := 23) dX7_back_22 rfl rfl ?_
    refine r_s (pc' := 24) dX7_back_23 rfl rfl ?_
    refine h_pi (pc' := 27) dX7_back_24 rfl fX7_156 rfl (hl_ rfl) rfl ?_
    refine r_s (pc' := 28) dX7_back_27 rfl rfl ?_
    refine h_gi (pc' := 31) dX7_back_28 rfl fX7_156 (hl_ rfl) rfl ?_
    refine r_reti dX7_back_31 rfl (rfl) (Nat.le_of_ble_eq_true rfl) (Nat.le_of_ble_eq_true rfl) ⟨_, rfl, ?_⟩
    have e2 : sp_back δ (nI j8) = ((δ.1 - j8, δ.2), nI (δ.1 - j8)) := by rw [sp_back, if_pos (ok_in hj8 (by omega)), ix_nI (by omega)]
    have e3 : nI δ.1 - nI j8 = nI (δ.1 - j8) := pk_sub (by omega)
    rw [e2, e3]
    refine ⟨_, rfl, fun q hq => up_o (by omega), hM.putD ⟨up_s, fun r hr => ?_⟩ (fun j hj => up_n hj) (fun r h1 h2 h3 h4 => up_o h1), up_s⟩
    rw [up_o (by decide), up_o (by decide), up_o (by decide)]
    exact hD.2 r (by have : r < δ.1 - j8 := hr; omega)
  · refine r_ifne_f (pc' := 14) (tgt := 17) dX7_back_11 rfl (by decide) (by decide) ?_
    refine r_c (pc' := 16) dX7_back_14 rfl kc_bipush_m2 ?_
    refine r_reti dX7_back_16 rfl (rfl) (Nat.le_of_ble_eq_true rfl) (Nat.le_of_ble_eq_true rfl) ⟨_, rfl, ?_⟩
    exact ⟨I, rfl, fun _ _ => rfl, by rw [show sp_back δ k = (δ, -2) by rw [sp_back, ok_no (by omega) hn8]; rfl]; exact hM, by rw [show sp_back δ k = (δ, -2) by rw [sp_back, ok_no (by omega) hn8]; rfl]⟩
