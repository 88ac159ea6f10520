theorem b01_1 {b : Nat} (hb : b ≤ 1) (h : ¬ nI b = 0) : (1 : Int32) = nI b := by
  match b, hb with
  | 0, _ => exact absurd rfl h
  | 1, _ => rfl
theorem sp_fall_no {ρ : zR} {k v : Int32} (h0 : zi ρ ≠ 0) (h : ok k (zn ρ) = false ∨ ok v 6 = false) : sp_fall ρ k v = (ρ, -2) := by
  rw [sp_fall, if_neg h0, if_neg]
  intro ⟨a, b⟩
  rcases h with h | h
  · rw [h] at a; cases a
  · rw [h] at b; cases b
theorem sp_lodge_no {ρ : zR} {g k : Int32} (h : ok g (zg ρ) = false ∨ ok k (zi ρ) = false) : sp_lodge ρ g k = (ρ, -1) := by
  rw [sp_lodge, if_neg]
  intro ⟨a, b⟩
  rcases h with h | h
  · rw [h] at a; cases a
  · rw [h] at b; cases b

set_option maxHeartbeats 4000000 in
set_option maxRecDepth 100000 in
theorem pc_ofInn {d : Nat} {x : hX} {I : Nat → Nat → Int32} {ρ : zR} {δ : zD} {η : zH} {ft tr : Int32} {k w : Int32} (hC : CI I (ρ, δ, η, ft, tr)) (hW : WF (ρ, δ, η, ft, tr)) : ci (d + 2) MX6_ofInn [.ref 0, .int k, .int w] (hp x I) (fun r h' => h' = hp x I ∧ r = sp_ofInn ρ k w) := by
  have hR : isRd I 2 ρ := hC.R
  have hw : wfR ρ := hW.1
  have b6 : zi ρ ≤ 6 := hw.1
  have b8 : zn ρ ≤ 8 := hw.2.1
  have bg : zg ρ ≤ 8 := hw.2.2.1
  have d8 : δ.1 ≤ 8 := hW.2.1.1
  refine c_in (L := [.ref 0, .int k, .int w]) rfl rfl ?_
  refine r_s (pc' := 1) dX6_ofInn_0 rfl rfl ?_
  refine r_gr (pc' := 4) dX6_ofInn_1 rfl fX6_20 (hl_ rfl) rfl rfl ?_
  refine r_s (pc' := 5) dX6_ofInn_4 rfl rfl ?_
  refine r_Vi1 (pc' := 8) dX6_ofInn_5 rfl lX6_97 (hl_ rfl) rfl rfl rfl rfl (Nat.le_of_ble_eq_true rfl) (Nat.le_of_ble_eq_true rfl) (ct_X2_hasInn (Or.inl rfl) hR.1 hw.bi) (fun r5 h5 e5 => ?_)
  rcases e5 with ⟨rfl, rfl, j5, hj5, rfl⟩ | ⟨rfl, rfl, hn5⟩
  · refine r_ifne_t (tgt := 13) dX6_ofInn_8 (by decide) (by decide) ?_
    refine r_s (pc' := 14) dX6_ofInn_13 rfl rfl ?_
    rcases sw3 w with rfl | rfl | rfl | ⟨n0, n1, n2, ho⟩
    · refine r_tin (off := 26) (tgt := 40) dX6_ofInn_14 (by decide) (by decide) (by decide) (by decide) ?_
      refine r_s (pc' := 41) dX6_ofInn_40 rfl rfl ?_
      refine r_gr (pc' := 44) dX6_ofInn_41 rfl fX6_20 (hl_ rfl) rfl rfl ?_
      refine r_gr (pc' := 47) dX6_ofInn_44 rfl fX6_100 (hl_ rfl) rfl rfl ?_
      refine r_s (pc' := 48) dX6_ofInn_47 rfl rfl ?_
      refine h_ald (pc' := 49) dX6_ofInn_48 rfl (hl_ rfl) rfl (vp_in_nI (by omega) (by decide)) (nI_clamp (by omega)) ?_
      refine r_top (hR.k _ hj5) ?_
      refine r_reti dX6_ofInn_49 rfl (rfl) (Nat.le_of_ble_eq_true rfl) (Nat.le_of_ble_eq_true rfl) ⟨_, rfl, ?_⟩
      exact ⟨rfl, by rw [sp_ofInn, if_pos (ok_in hj5 hw.bi), ix_nI (by omega)]; rfl⟩
    · refine r_tin (off := 36) (tgt := 50) dX6_ofInn_14 (by decide) (by decide) (by decide) (by decide) ?_
      refine r_s (pc' := 51) dX6_ofInn_50 rfl rfl ?_
      refine r_gr (pc' := 54) dX6_ofInn_51 rfl fX6_20 (hl_ rfl) rfl rfl ?_
      refine r_gr (pc' := 57) dX6_ofInn_54 rfl fX6_104 (hl_ rfl) rfl rfl ?_
      refine r_s (pc' := 58) dX6_ofInn_57 rfl rfl ?_
      refine h_ald (pc' := 59) dX6_ofInn_58 rfl (hl_ rfl) rfl (vp_in_nI (by omega) (by decide)) (nI_clamp (by omega)) ?_
      refine r_top (hR.s _ hj5) ?_
      refine r_reti dX6_ofInn_59 rfl (rfl) (Nat.le_of_ble_eq_true rfl) (Nat.le_of_ble_eq_true rfl) ⟨_, rfl, ?_⟩
      exact ⟨rfl, by rw [sp_ofInn, if_pos (ok_in hj5 hw.bi), ix_nI (by omega)]; rfl⟩
    · refine r_tin (off := 46) (tgt := 60) dX6_ofInn_14 (by decide) (by decide) (by decide) (by decide) ?_
      refine r_s (pc' := 61) dX6_ofInn_60 rfl rfl ?_
      refine r_gr (pc' := 64) dX6_ofInn_61 rfl fX6_20 (hl_ rfl) rfl rfl ?_
      refine r_s (pc' := 65) dX6_ofInn_64 rfl rfl ?_
      refine r_s (pc' := 66) dX6_ofInn_65 rfl rfl ?_
      refine r_gr (pc' := 69) dX6_ofInn_66 rfl fX6_20 (hl_ rfl) rfl rfl ?_
      refine r_gr (pc' := 72) dX6_ofInn_69 rfl fX6_104 (hl_ rfl) rfl rfl ?_
      refine r_s (pc' := 73) dX6_ofInn_72 rfl rfl ?_
      refine h_ald (pc' := 74) dX6_ofInn_73 rfl (hl_ rfl) rfl (vp_in_nI (by omega) (by decide)) (nI_clamp (by omega)) ?_
      refine r_top (hR.s _ hj5) ?_
      refine r_Vi2 (pc' := 77) dX6_ofInn_74 rfl lX6_107 (hl_ rfl) rfl rfl rfl rfl (Nat.le_of_ble_eq_true rfl) (Nat.le_of_ble_eq_true rfl) (ct_X2_keepsBy (Or.inl rfl) (by omega) (hR.k _ hj5) (hw.kd hj5)) (fun r74 h74 e74 => ?_)
      obtain ⟨rfl, rfl⟩ := e74
      refine r_reti dX6_ofInn_77 rfl (rfl) (Nat.le_of_ble_eq_true rfl) (Nat.le_of_ble_eq_true rfl) ⟨_, rfl, ?_⟩
      exact ⟨rfl, by rw [sp_ofInn, if_pos (ok_in hj5 hw.bi), ix_nI (by omega)]; rfl⟩
    · refine r_tout (tgt := 78) dX6_ofInn_14 (ho) (by decide) ?_
      refine r_c (pc' := 80) dX6_ofInn_78 rfl kc_bipush_m2 ?_
      refine r_reti dX6_ofInn_80 rfl (rfl) (Nat.le_of_ble_eq_true rfl) (Nat.le_of_ble_eq_true rfl) ⟨_, rfl, ?_⟩
      exact ⟨rfl, by rw [sp_ofInn, if_pos (ok_in hj5 hw.bi), if_neg n0, if_neg n1, if_neg n2]⟩
  · refine r_ifne_f (pc' := 11) (tgt := 13) dX6_ofInn_8 rfl (by decide) (by decide) ?_
    refine r_c (pc' := 12) dX6_ofInn_11 rfl kc_iconst_m1 ?_
    refine r_reti dX6_ofInn_12 rfl (rfl) (Nat.le_of_ble_eq_true rfl) (Nat.le_of_ble_eq_true rfl) ⟨_, rfl, ?_⟩
    exact ⟨rfl, by rw [sp_ofInn, ok_no hw.bi hn5]; rfl⟩

set_option maxHeartbeats 4000000 in
set_option maxRecDepth 100000 in
theorem pc_ofGuest {d : Nat} {x : hX} {I : Nat → Nat → Int32} {ρ : zR} {δ : zD} {η : zH} {ft tr : Int32} {k w : Int32} (hC : CI I (ρ, δ, η, ft, tr)) (hW : WF (ρ, δ, η, ft, tr)) : ci (d + 2) MX6_ofGuest [.ref 0, .int k, .int w] (hp x I) (fun r h' => h' = hp x I ∧ r = sp_ofGuest ρ k w) := by
  have hR : isRd I 2 ρ := hC.R
  have hw : wfR ρ := hW.1
  have b6 : zi ρ ≤ 6 := hw.1
  have b8 : zn ρ ≤ 8 := hw.2.1
  have bg : zg ρ ≤ 8 := hw.2.2.1
  have d8 : δ.1 ≤ 8 := hW.2.1.1
  refine c_in (L := [.ref 0, .int k, .int w]) rfl rfl ?_
  refine r_s (pc' := 1) dX6_ofGuest_0 rfl rfl ?_
  refine r_gr (pc' := 4) dX6_ofGuest_1 rfl fX6_20 (hl_ rfl) rfl rfl ?_
  refine r_s (pc' := 5) dX6_ofGuest_4 rfl rfl ?_
  refine r_Vi1 (pc' := 8) dX6_ofGuest_5 rfl lX6_111 (hl_ rfl) rfl rfl rfl rfl (Nat.le_of_ble_eq_true rfl) (Nat.le_of_ble_eq_true rfl) (ct_X2_hasGuest (Or.inl rfl) hR.2.2.1 hw.bg) (fun r5 h5 e5 => ?_)
  rcases e5 with ⟨rfl, rfl, j5, hj5, rfl⟩ | ⟨rfl, rfl, hn5⟩
  · refine r_ifne_t (tgt := 13) dX6_ofGuest_8 (by decide) (by decide) ?_
    refine r_s (pc' := 14) dX6_ofGuest_13 rfl rfl ?_
    rcases sw2 w with rfl | rfl | ⟨n0, n1, m0, m1⟩
    · refine r_look (off := 26) (tgt := 40) dX6_ofGuest_14 (by decide) (by decide) (by decide) ?_
      refine r_s (pc' := 41) dX6_ofGuest_40 rfl rfl ?_
      refine r_gr (pc' := 44) dX6_ofGuest_41 rfl fX6_20 (hl_ rfl) rfl rfl ?_
      refine r_gr (pc' := 47) dX6_ofGuest_44 rfl fX6_114 (hl_ rfl) rfl rfl ?_
      refine r_s (pc' := 48) dX6_ofGuest_47 rfl rfl ?_
      refine h_ald (pc' := 49) dX6_ofGuest_48 rfl (hl_ rfl) rfl (vp_in_nI (by omega) (by decide)) (nI_clamp (by omega)) ?_
      refine r_top (hR.y _ hj5) ?_
      refine r_reti dX6_ofGuest_49 rfl (rfl) (Nat.le_of_ble_eq_true rfl) (Nat.le_of_ble_eq_true rfl) ⟨_, rfl, ?_⟩
      exact ⟨rfl, by rw [sp_ofGuest, if_pos (ok_in hj5 hw.bg), ix_nI (by omega)]; rfl⟩
    · refine r_look (off := 36) (tgt := 50) dX6_ofGuest_14 (by decide) (by decide) (by decide) ?_
      refine r_s (pc' := 51) dX6_ofGuest_50 rfl rfl ?_
      refine r_gr (pc' := 54) dX6_ofGuest_51 rfl fX6_20 (hl_ rfl) rfl rfl ?_
      refine r_gr (pc' := 57) dX6_ofGuest_54 rfl fX6_117 (hl_ rfl) rfl rfl ?_
      refine r_s (pc' := 58) dX6_ofGuest_57 rfl rfl ?_
      refine h_ald (pc' := 59) dX6_ofGuest_58 rfl (hl_ rfl) rfl (vp_in_nI (by omega) (by decide)) (nI_clamp (by omega)) ?_
      refine r_top (hR.h _ hj5) ?_
      refine r_reti dX6_ofGuest_59 rfl (rfl) (Nat.le_of_ble_eq_true rfl) (Nat.le_of_ble_eq_true rfl) ⟨_, rfl, ?_⟩
      exact ⟨rfl, by rw [sp_ofGuest, if_pos (ok_in hj5 hw.bg), ix_nI (by omega)]; rfl⟩
    · refine r_look (off := 46) (tgt := 60) dX6_ofGuest_14 (by decide) (lk_d m0 m1) (by decide) ?_
      refine r_c (pc' := 62) dX6_ofGuest_60 rfl kc_bipush_m2 ?_
      refine r_reti dX6_ofGuest_62 rfl (rfl) (Nat.le_of_ble_eq_true rfl) (Nat.le_of_ble_eq_true rfl) ⟨_, rfl, ?_⟩
      exact ⟨rfl, by rw [sp_ofGuest, if_pos (ok_in hj5 hw.bg), if_neg n0, if_neg n1]⟩
  · refine r_ifne_f (pc' := 11) (tgt := 13) dX6_ofGuest_8 rfl (by decide) (by decide) ?_
    refine r_c (pc' := 12) dX6_ofGuest_11 rfl kc_iconst_m1 ?_
    refine r_reti dX6_ofGuest_12 rfl (rfl) (Nat.le_of_ble_eq_true rfl) (Nat.le_of_ble_eq_true rfl) ⟨_, rfl, ?_⟩
    exact ⟨rfl, by rw [sp_ofGuest, ok_no hw.bg hn5]; rfl⟩

set_option maxHeartbeats 4000000 in
set_option maxRecDepth 100000 in
theorem pc_ofNight {d : Nat} {x : hX} {I : Nat → Nat → Int32} {ρ : zR} {δ : zD} {η : zH} {ft tr : Int32} {k w : Int32} (hC : CI I (ρ, δ, η, ft, tr)) (hW : WF (ρ, δ, η, ft, tr)) : ci (d + 2) MX6_ofNight [.ref 0, .int k, .int w] (hp x I) (fun r h' => h' = hp x I ∧ r = sp_ofNight ρ k w) := by
  have hR : isRd I 2 ρ := hC.R
  have hw : wfR ρ := hW.1
  have b6 : zi ρ ≤ 6 := hw.1
  have b8 : zn ρ ≤ 8 := hw.2.1
  have bg : zg ρ ≤ 8 := hw.2.2.1
  have d8 : δ.1 ≤ 8 := hW.2.1.1
  refine c_in (L := [.ref 0, .int k, .int w]) rfl rfl ?_
  refine r_s (pc' := 1) dX6_ofNight_0 rfl rfl ?_
  refine r_gr (pc' := 4) dX6_ofNight_1 rfl fX6_20 (hl_ rfl) rfl rfl ?_
  refine r_Vi0 (pc' := 7) dX6_ofNight_4 rfl lX6_120 (hl_ rfl) rfl rfl rfl rfl (Nat.le_of_ble_eq_true rfl) (Nat.le_of_ble_eq_true rfl) (ct_X2_stands (Or.inl rfl) hR.1 hw.bi) (fun r4 h4 e4 => ?_)
  rcases e4 with ⟨rfl, rfl, hs4⟩ | ⟨rfl, rfl, hs4⟩
  · refine r_ifne_t (tgt := 13) dX6_ofNight_7 (by decide) (by decide) ?_
    refine r_s (pc' := 14) dX6_ofNight_13 rfl rfl ?_
    refine r_gr (pc' := 17) dX6_ofNight_14 rfl fX6_20 (hl_ rfl) rfl rfl ?_
    refine r_s (pc' := 18) dX6_ofNight_17 rfl rfl ?_
    refine r_Vi1 (pc' := 21) dX6_ofNight_18 rfl lX6_124 (hl_ rfl) rfl rfl rfl rfl (Nat.le_of_ble_eq_true rfl) (Nat.le_of_ble_eq_true rfl) (ct_X2_hasNight (Or.inl rfl) hR.2.1 hw.bn) (fun r18 h18 e18 => ?_)
    rcases e18 with ⟨rfl, rfl, j18, hj18, rfl⟩ | ⟨rfl, rfl, hn18⟩
    · refine r_ifne_t (tgt := 27) dX6_ofNight_21 (by decide) (by decide) ?_
      refine r_s (pc' := 28) dX6_ofNight_27 rfl rfl ?_
      rcases sw2 w with rfl | rfl | ⟨n0, n1, m0, m1⟩
      · refine r_look (off := 28) (tgt := 56) dX6_ofNight_28 (by decide) (by decide) (by decide) ?_
        refine r_s (pc' := 57) dX6_ofNight_56 rfl rfl ?_
        refine r_gr (pc' := 60) dX6_ofNight_57 rfl fX6_20 (hl_ rfl) rfl rfl ?_
        refine r_gr (pc' := 63) dX6_ofNight_60 rfl fX6_127 (hl_ rfl) rfl rfl ?_
        refine r_s (pc' := 64) dX6_ofNight_63 rfl rfl ?_
        refine h_ald (pc' := 65) dX6_ofNight_64 rfl (hl_ rfl) rfl (vp_in_nI (by omega) (by decide)) (nI_clamp (by omega)) ?_
        refine r_top (hR.w _ hj18) ?_
        refine r_reti dX6_ofNight_65 rfl (rfl) (Nat.le_of_ble_eq_true rfl) (Nat.le_of_ble_eq_true rfl) ⟨_, rfl, ?_⟩
        exact ⟨rfl, by rw [sp_ofNight, if_neg (by omega), if_pos (ok_in hj18 hw.bn), ix_nI (by omega)]; rfl⟩
      · refine r_look (off := 38) (tgt := 66) dX6_ofNight_28 (by decide) (by decide) (by decide) ?_
        refine r_s (pc' := 67) dX6_ofNight_66 rfl rfl ?_
        refine r_gr (pc' := 70) dX6_ofNight_67 rfl fX6_20 (hl_ rfl) rfl rfl ?_
        refine r_gr (pc' := 73) dX6_ofNight_70 rfl fX6_130 (hl_ rfl) rfl rfl ?_
        refine r_s (pc' := 74) dX6_ofNight_73 rfl rfl ?_
        refine h_ald (pc' := 75) dX6_ofNight_74 rfl (hl_ rfl) rfl (vp_in_nI (by omega) (by decide)) (nI_clamp (by omega)) ?_
        refine r_top (hR.f _ hj18) ?_
        refine r_reti dX6_ofNight_75 rfl (rfl) (Nat.le_of_ble_eq_true rfl) (Nat.le_of_ble_eq_true rfl) ⟨_, rfl, ?_⟩
        exact ⟨rfl, by rw [sp_ofNight, if_neg (by omega), if_pos (ok_in hj18 hw.bn), ix_nI (by omega)]; rfl⟩
      · refine r_look (off := 48) (tgt := 76) dX6_ofNight_28 (by decide) (lk_d m0 m1) (by decide) ?_
        refine r_c (pc' := 78) dX6_ofNight_76 rfl kc_bipush_m2 ?_
        refine r_reti dX6_ofNight_78 rfl (rfl) (Nat.le_of_ble_eq_true rfl) (Nat.le_of_ble_eq_true rfl) ⟨_, rfl, ?_⟩
        exact ⟨rfl, by rw [sp_ofNight, if_neg (by omega), if_pos (ok_in hj18 hw.bn), if_neg n0, if_neg n1]⟩
    · refine r_ifne_f (pc' := 24) (tgt := 27) dX6_ofNight_21 rfl (by decide) (by decide) ?_
      refine r_c (pc' := 26) dX6_ofNight_24 rfl kc_bipush_m2 ?_
      refine r_reti dX6_ofNight_26 rfl (rfl) (Nat.le_of_ble_eq_true rfl) (Nat.le_of_ble_eq_true rfl) ⟨_, rfl, ?_⟩
      exact ⟨rfl, by rw [sp_ofNight, if_neg (by omega), ok_no hw.bn hn18]; rfl⟩
  · refine r_ifne_f (pc' := 10) (tgt := 13) dX6_ofNight_7 rfl (by decide) (by decide) ?_
    refine r_c (pc' := 12) dX6_ofNight_10 rfl kc_bipush_m3 ?_
    refine r_reti dX6_ofNight_12 rfl (rfl) (Nat.le_of_ble_eq_true rfl) (Nat.le_of_ble_eq_true rfl) ⟨_, rfl, ?_⟩
    exact ⟨rfl, by rw [sp_ofNight, if_pos hs4]⟩

set_option maxHeartbeats 4000000 in
set_option maxRecDepth 100000 in
theorem pc_many {d : Nat} {x : hX} {I : Nat → Nat → Int32} {ρ : zR} {δ : zD} {η : zH} {ft tr : Int32} {w : Int32} (hC : CI I (ρ, δ, η, ft, tr)) (hW : WF (ρ, δ, η, ft, tr)) : ci (d + 1) MX6_many [.ref 0, .int w] (hp x I) (fun r h' => h' = hp x I ∧ r = sp_many (ρ, δ, η, ft, tr) w) := by
  have hR : isRd I 2 ρ := hC.R
  have hw : wfR ρ := hW.1
  have b6 : zi ρ ≤ 6 := hw.1
  have b8 : zn ρ ≤ 8 := hw.2.1
  have bg : zg ρ ≤ 8 := hw.2.2.1
  have d8 : δ.1 ≤ 8 := hW.2.1.1
  refine c_in (L := [.ref 0, .int w]) rfl rfl ?_
  refine r_s (pc' := 1) dX6_many_0 rfl rfl ?_
  rcases sw5 w with rfl | rfl | rfl | rfl | rfl | ⟨n0, n1, n2, n3, n4, ho⟩
  · refine r_tin (off := 35) (tgt := 36) dX6_many_1 (by decide) (by decide) (by decide) (by decide) ?_
    refine r_s (pc' := 37) dX6_many_36 rfl rfl ?_
    refine r_gr (pc' := 40) dX6_many_37 rfl fX6_20 (hl_ rfl) rfl rfl ?_
    refine h_gi (pc' := 43) dX6_many_40 rfl fX6_249 (hl_ rfl) rfl ?_
    refine r_reti dX6_many_43 rfl (rfl) (Nat.le_of_ble_eq_true rfl) (Nat.le_of_ble_eq_true rfl) ⟨_, rfl, ?_⟩
    exact ⟨rfl, by first | exact hR.1 | exact hR.2.1 | exact hR.2.2.1 | exact hR.2.2.2.1 | exact hC.D.1⟩
  · refine r_tin (off := 43) (tgt := 44) dX6_many_1 (by decide) (by decide) (by decide) (by decide) ?_
    refine r_s (pc' := 45) dX6_many_44 rfl rfl ?_
    refine r_gr (pc' := 48) dX6_many_45 rfl fX6_20 (hl_ rfl) rfl rfl ?_
    refine h_gi (pc' := 51) dX6_many_48 rfl fX6_164 (hl_ rfl) rfl ?_
    refine r_reti dX6_many_51 rfl (rfl) (Nat.le_of_ble_eq_true rfl) (Nat.le_of_ble_eq_true rfl) ⟨_, rfl, ?_⟩
    exact ⟨rfl, by first | exact hR.1 | exact hR.2.1 | exact hR.2.2.1 | exact hR.2.2.2.1 | exact hC.D.1⟩
  · refine r_tin (off := 51) (tgt := 52) dX6_many_1 (by decide) (by decide) (by decide) (by decide) ?_
    refine r_s (pc' := 53) dX6_many_52 rfl rfl ?_
    refine r_gr (pc' := 56) dX6_many_53 rfl fX6_20 (hl_ rfl) rfl rfl ?_
    refine h_gi (pc' := 59) dX6_many_56 rfl fX6_94 (hl_ rfl) rfl ?_
    refine r_reti dX6_many_59 rfl (rfl) (Nat.le_of_ble_eq_true rfl) (Nat.le_of_ble_eq_true rfl) ⟨_, rfl, ?_⟩
    exact ⟨rfl, by first | exact hR.1 | exact hR.2.1 | exact hR.2.2.1 | exact hR.2.2.2.1 | exact hC.D.1⟩
  · refine r_tin (off := 59) (tgt := 60) dX6_many_1 (by decide) (by decide) (by decide) (by decide) ?_
    refine r_s (pc' := 61) dX6_many_60 rfl rfl ?_
    refine r_gr (pc' := 64) dX6_many_61 rfl fX6_20 (hl_ rfl) rfl rfl ?_
    refine h_gi (pc' := 67) dX6_many_64 rfl fX6_133 (hl_ rfl) rfl ?_
    refine r_reti dX6_many_67 rfl (rfl) (Nat.le_of_ble_eq_true rfl) (Nat.le_of_ble_eq_true rfl) ⟨_, rfl, ?_⟩
    exact ⟨rfl, by first | exact hR.1 | exact hR.2.1 | exact hR.2.2.1 | exact hR.2.2.2.1 | exact hC.D.1⟩
  · refine r_tin (off := 67) (tgt := 68) dX6_many_1 (by decide) (by decide) (by decide) (by decide) ?_
    refine r_s (pc' := 69) dX6_many_68 rfl rfl ?_
    refine r_gr (pc' := 72) dX6_many_69 rfl fX6_39 (hl_ rfl) rfl rfl ?_
    refine h_gi (pc' := 75) dX6_many_72 rfl fX6_178 (hl_ rfl) rfl ?_
    refine r_reti dX6_many_75 rfl (rfl) (Nat.le_of_ble_eq_true rfl) (Nat.le_of_ble_eq_true rfl) ⟨_, rfl, ?_⟩
    exact ⟨rfl, by first | exact hR.1 | exact hR.2.1 | exact hR.2.2.1 | exact hR.2.2.2.1 | exact hC.D.1⟩
  · refine r_tout (tgt := 76) dX6_many_1 (ho) (by decide) ?_
    refine r_c (pc' := 78) dX6_many_76 rfl kc_bipush_m2 ?_
    refine r_reti dX6_many_78 rfl (rfl) (Nat.le_of_ble_eq_true rfl) (Nat.le_of_ble_eq_true rfl) ⟨_, rfl, ?_⟩
    exact ⟨rfl, by rw [sp_many, if_neg n0, if_neg n1, if_neg n2, if_neg n3, if_neg n4]⟩

set_option maxHeartbeats 4000000 in
set_option maxRecDepth 100000 in
theorem pc_rule {d : Nat} {x : hX} {I : Nat → Nat → Int32} {ρ : zR} {δ : zD} {η : zH} {ft tr : Int32} {v : Int32} (hC : CI I (ρ, δ, η, ft, tr)) (hW : WF (ρ, δ, η, ft, tr)) : ci (d + 2) MX6_rule [.ref 0, .int v] (hp x I) (fun r h' => ∃ I', h' = hp x I' ∧ (∀ q, 80 ≤ q → I' q = I q) ∧ CI I' ((sp_rule ρ v).1, δ, η, ft, tr) ∧ r = (sp_rule ρ v).2) := by
  have hR : isRd I 2 ρ := hC.R
  have hw : wfR ρ := hW.1
  have b6 : zi ρ ≤ 6 := hw.1
  have b8 : zn ρ ≤ 8 := hw.2.1
  have bg : zg ρ ≤ 8 := hw.2.2.1
  have d8 : δ.1 ≤ 8 := hW.2.1.1
  refine c_in (L := [.ref 0, .int v, .null]) rfl rfl ?_
  refine r_s (pc' := 1) dX6_rule_0 rfl rfl ?_
  refine r_iflt (pc' := 4) (tgt := 9) dX6_rule_1 rfl (by decide) (fun c1 => ?_) (fun c1 => ?_)
  · refine r_c (pc' := 11) dX6_rule_9 rfl kc_bipush_m2 ?_
    refine r_reti dX6_rule_11 rfl (rfl) (Nat.le_of_ble_eq_true rfl) (Nat.le_of_ble_eq_true rfl) ⟨_, rfl, ?_⟩
    have e : ok v 2 = false := ok_no (by decide) (by first | exact x_lo c1 (by decide) | exact x_hi (x_nlt c6) (by decide))
    have e2 : sp_rule ρ v = (ρ, -2) := by rw [sp_rule, e]; rfl
    exact ⟨I, rfl, fun _ _ => rfl, by rw [e2]; exact hC, by rw [e2]⟩
  · refine r_s (pc' := 5) dX6_rule_4 rfl rfl ?_
    refine r_c (pc' := 6) dX6_rule_5 rfl kc_iconst_2 ?_
    refine r_clt (pc' := 9) (tgt := 12) dX6_rule_6 rfl (by decide) (fun c6 => ?_) (fun c6 => ?_)
    · refine r_s (pc' := 13) dX6_rule_12 rfl rfl ?_
      refine r_gr (pc' := 16) dX6_rule_13 rfl fX6_20 (hl_ rfl) rfl rfl ?_
      refine r_Vi0 (pc' := 19) dX6_rule_16 rfl lX6_120 (hl_ rfl) rfl rfl rfl rfl (Nat.le_of_ble_eq_true rfl) (Nat.le_of_ble_eq_true rfl) (ct_X2_stands (Or.inl rfl) hR.1 hw.bi) (fun r16 h16 e16 => ?_)
      rcases e16 with ⟨rfl, rfl, hs16⟩ | ⟨rfl, rfl, hs16⟩
      · refine r_ifne_t (tgt := 25) dX6_rule_19 (by decide) (by decide) ?_
        refine r_s (pc' := 26) dX6_rule_25 rfl rfl ?_
        refine r_gr (pc' := 29) dX6_rule_26 rfl fX6_20 (hl_ rfl) rfl rfl ?_
        refine h_gi (pc' := 32) dX6_rule_29 rfl fX6_133 (hl_ rfl) rfl ?_
        refine r_st_2_3 (pc' := 33) dX6_rule_32 rfl rfl rfl ?_
        refine r_s (pc' := 34) dX6_rule_33 rfl rfl ?_
        refine r_gr (pc' := 37) dX6_rule_34 rfl fX6_20 (hl_ rfl) rfl rfl ?_
        refine r_s (pc' := 38) dX6_rule_37 rfl rfl ?_
        refine h_pi (pc' := 41) dX6_rule_38 rfl fX6_133 rfl (hl_ rfl) rfl ?_
        refine r_s (pc' := 42) dX6_rule_41 rfl rfl ?_
        refine r_reti dX6_rule_42 rfl (rfl) (Nat.le_of_ble_eq_true rfl) (Nat.le_of_ble_eq_true rfl) ⟨_, rfl, ?_⟩
        obtain ⟨j, hj, rfl⟩ := x_in (n := 2) c1 c6 (by decide)
        have e2 : sp_rule ρ (nI j) = (wl ρ j, nI (zl ρ)) := by rw [sp_rule, if_pos (ok_in hj (by decide)), if_neg (by omega), ix_nI (by omega)]
        rw [e2]
        exact ⟨_, rfl, fun q hq => up_o (by omega), hC.putR (hR.u_l j) (up_n (by decide)) (fun r hr => up_o (by omega)), hR.2.2.2.1⟩
      · refine r_ifne_f (pc' := 22) (tgt := 25) dX6_rule_19 rfl (by decide) (by decide) ?_
        refine r_c (pc' := 24) dX6_rule_22 rfl kc_bipush_m3 ?_
        refine r_reti dX6_rule_24 rfl (rfl) (Nat.le_of_ble_eq_true rfl) (Nat.le_of_ble_eq_true rfl) ⟨_, rfl, ?_⟩
        obtain ⟨j, hj, rfl⟩ := x_in (n := 2) c1 c6 (by decide)
        have e2 : sp_rule ρ (nI j) = (ρ, -3) := by rw [sp_rule, if_pos (ok_in hj (by decide)), if_pos hs16]
        exact ⟨I, rfl, fun _ _ => rfl, by rw [e2]; exact hC, by rw [e2]⟩
    · refine r_c (pc' := 11) dX6_rule_9 rfl kc_bipush_m2 ?_
      refine r_reti dX6_rule_11 rfl (rfl) (Nat.le_of_ble_eq_true rfl) (Nat.le_of_ble_eq_true rfl) ⟨_, rfl, ?_⟩
      have e : ok v 2 = false := ok_no (by decide) (by first | exact x_lo c1 (by decide) | exact x_hi (x_nlt c6) (by decide))
      have e2 : sp_rule ρ v = (ρ, -2) := by rw [sp_rule, e]; rfl
      exact ⟨I, rfl, fun _ _ => rfl, by rw [e2]; exact hC, by rw [e2]⟩

set_option maxHeartbeats 4000000 in
set_option maxRecDepth 100000 in
theorem pc_fall {d : Nat} {x : hX} {I : Nat → Nat → Int32} {ρ : zR} {δ : zD} {η : zH} {ft tr : Int32} {k v : Int32} (hC : CI I (ρ, δ, η, ft, tr)) (hW : WF (ρ, δ, η, ft, tr)) : ci (d + 2) MX6_fall [.ref 0, .int k, .int v] (hp x I) (fun r h' => ∃ I', h' = hp x I' ∧ (∀ q, 80 ≤ q → I' q = I q) ∧ CI I' ((sp_fall ρ k v).1, δ, η, ft, tr) ∧ r = (sp_fall ρ k v).2) := by
  have hR : isRd I 2 ρ := hC.R
  have hw : wfR ρ := hW.1
  have b6 : zi ρ ≤ 6 := hw.1
  have b8 : zn ρ ≤ 8 := hw.2.1
  have bg : zg ρ ≤ 8 := hw.2.2.1
  have d8 : δ.1 ≤ 8 := hW.2.1.1
  refine c_in (L := [.ref 0, .int k, .int v, .null]) rfl rfl ?_
  refine r_s (pc' := 1) dX6_fall_0 rfl rfl ?_
  refine r_gr (pc' := 4) dX6_fall_1 rfl fX6_20 (hl_ rfl) rfl rfl ?_
  refine r_Vi0 (pc' := 7) dX6_fall_4 rfl lX6_120 (hl_ rfl) rfl rfl rfl rfl (Nat.le_of_ble_eq_true rfl) (Nat.le_of_ble_eq_true rfl) (ct_X2_stands (Or.inl rfl) hR.1 hw.bi) (fun r4 h4 e4 => ?_)
  rcases e4 with ⟨rfl, rfl, hs4⟩ | ⟨rfl, rfl, hs4⟩
  · refine r_ifne_t (tgt := 13) dX6_fall_7 (by decide) (by decide) ?_
    refine r_s (pc' := 14) dX6_fall_13 rfl rfl ?_
    refine r_gr (pc' := 17) dX6_fall_14 rfl fX6_20 (hl_ rfl) rfl rfl ?_
    refine r_s (pc' := 18) dX6_fall_17 rfl rfl ?_
    refine r_Vi1 (pc' := 21) dX6_fall_18 rfl lX6_124 (hl_ rfl) rfl rfl rfl rfl (Nat.le_of_ble_eq_true rfl) (Nat.le_of_ble_eq_true rfl) (ct_X2_hasNight (Or.inl rfl) hR.2.1 hw.bn) (fun r18 h18 e18 => ?_)
    rcases e18 with ⟨rfl, rfl, j18, hj18, rfl⟩ | ⟨rfl, rfl, hn18⟩
    · refine r_ifeq_f (pc' := 24) (tgt := 33) dX6_fall_21 rfl (by decide) (by decide) ?_
      refine r_s (pc' := 25) dX6_fall_24 rfl rfl ?_
      refine r_iflt (pc' := 28) (tgt := 33) dX6_fall_25 rfl (by decide) (fun c25 => ?_) (fun c25 => ?_)
      · refine r_c (pc' := 35) dX6_fall_33 rfl kc_bipush_m2 ?_
        refine r_reti dX6_fall_35 rfl (rfl) (Nat.le_of_ble_eq_true rfl) (Nat.le_of_ble_eq_true rfl) ⟨_, rfl, ?_⟩
        exact ⟨I, rfl, fun _ _ => rfl, by rw [sp_fall_no (by omega) (Or.inr (ok_no (by decide) (x_lo c25 (by decide))))]; exact hC, by rw [sp_fall_no (by omega) (Or.inr (ok_no (by decide) (x_lo c25 (by decide))))]⟩
      · refine r_s (pc' := 29) dX6_fall_28 rfl rfl ?_
        refine r_c (pc' := 30) dX6_fall_29 rfl kc_iconst_5 ?_
        refine r_cle (pc' := 33) (tgt := 36) dX6_fall_30 rfl (by decide) (fun c30 => ?_) (fun c30 => ?_)
        · refine r_s (pc' := 37) dX6_fall_36 rfl rfl ?_
          refine r_gr (pc' := 40) dX6_fall_37 rfl fX6_20 (hl_ rfl) rfl rfl ?_
          refine r_gr (pc' := 43) dX6_fall_40 rfl fX6_130 (hl_ rfl) rfl rfl ?_
          refine r_s (pc' := 44) dX6_fall_43 rfl rfl ?_
          refine h_ald (pc' := 45) dX6_fall_44 rfl (hl_ rfl) rfl (vp_in_nI (by omega) (by decide)) (nI_clamp (by omega)) ?_
          refine r_top (hR.f _ hj18) ?_
          refine r_st_3_4 (pc' := 46) dX6_fall_45 rfl rfl rfl ?_
          refine r_s (pc' := 47) dX6_fall_46 rfl rfl ?_
          refine r_gr (pc' := 50) dX6_fall_47 rfl fX6_20 (hl_ rfl) rfl rfl ?_
          refine r_gr (pc' := 53) dX6_fall_50 rfl fX6_130 (hl_ rfl) rfl rfl ?_
          refine r_s (pc' := 54) dX6_fall_53 rfl rfl ?_
          refine r_s (pc' := 55) dX6_fall_54 rfl rfl ?_
          refine h_ast (pc' := 56) dX6_fall_55 rfl (hl_ rfl) rfl (vp_in_nI (by omega) (by decide)) (nI_clamp (by omega)) ?_
          refine r_s (pc' := 57) dX6_fall_56 rfl rfl ?_
          refine r_reti dX6_fall_57 rfl (rfl) (Nat.le_of_ble_eq_true rfl) (Nat.le_of_ble_eq_true rfl) ⟨_, rfl, ?_⟩
          obtain ⟨j, hj, rfl⟩ := x_in' (n := 5) c25 c30 (by decide)
          have e2 : sp_fall ρ (nI j18) (nI j) = (wf ρ (fup (zf ρ) j18 j), nI (zf ρ j18)) := by rw [sp_fall, if_neg (by omega), if_pos ⟨ok_in hj18 hw.bn, ok_in hj (by decide)⟩, ix_nI (by omega), ix_nI (by omega)]
          rw [e2]
          exact ⟨_, rfl, fun q hq => up_o (by omega), hC.putR (hR.u_f j18 j) (by rw [up_o (by decide)]) (fun r hr => up_o (by omega)), rfl⟩
        · refine r_c (pc' := 35) dX6_fall_33 rfl kc_bipush_m2 ?_
          refine r_reti dX6_fall_35 rfl (rfl) (Nat.le_of_ble_eq_true rfl) (Nat.le_of_ble_eq_true rfl) ⟨_, rfl, ?_⟩
          exact ⟨I, rfl, fun _ _ => rfl, by rw [sp_fall_no (by omega) (Or.inr (ok_no (by decide) (x_hi' (n := 5) (x_nle c30) (by decide))))]; exact hC, by rw [sp_fall_no (by omega) (Or.inr (ok_no (by decide) (x_hi' (n := 5) (x_nle c30) (by decide))))]⟩
    · refine r_ifeq_t (tgt := 33) dX6_fall_21 (by decide) (by decide) ?_
      refine r_c (pc' := 35) dX6_fall_33 rfl kc_bipush_m2 ?_
      refine r_reti dX6_fall_35 rfl (rfl) (Nat.le_of_ble_eq_true rfl) (Nat.le_of_ble_eq_true rfl) ⟨_, rfl, ?_⟩
      exact ⟨I, rfl, fun _ _ => rfl, by rw [sp_fall_no (by omega) (Or.inl (ok_no hw.bn hn18))]; exact hC, by rw [sp_fall_no (by omega) (Or.inl (ok_no hw.bn hn18))]⟩
  · refine r_ifne_f (pc' := 10) (tgt := 13) dX6_fall_7 rfl (by decide) (by decide) ?_
    refine r_c (pc' := 12) dX6_fall_10 rfl kc_bipush_m3 ?_
    refine r_reti dX6_fall_12 rfl (rfl) (Nat.le_of_ble_eq_true rfl) (Nat.le_of_ble_eq_true rfl) ⟨_, rfl, ?_⟩
    have e2 : sp_fall ρ k v = (ρ, -3) := by rw [sp_fall, if_pos hs4]
    exact ⟨I, rfl, fun _ _ => rfl, by rw [e2]; exact hC, by rw [e2]⟩

set_option maxHeartbeats 4000000 in
set_option maxRecDepth 100000 in
theorem pc_gust {d : Nat} {x : hX} {I : Nat → Nat → Int32} {ρ : zR} {δ : zD} {η : zH} {ft tr : Int32} {k : Int32} {b : Nat} (hC : CI I (ρ, δ, η, ft, tr)) (hW : WF (ρ, δ, η, ft, tr)) (hb : b ≤ 1) : ci (d + 2) MX6_gust [.ref 0, .int k, .int (nI b)] (hp x I) (fun r h' => ∃ I', h' = hp x I' ∧ (∀ q, 80 ≤ q → I' q = I q) ∧ CI I' ((sp_gust ρ k b).1, δ, η, ft, tr) ∧ r = (sp_gust ρ k b).2) := by
  have hR : isRd I 2 ρ := hC.R
  have hw : wfR ρ := hW.1
  have b6 : zi ρ ≤ 6 := hw.1
  have b8 : zn ρ ≤ 8 := hw.2.1
  have bg : zg ρ ≤ 8 := hw.2.2.1
  have d8 : δ.1 ≤ 8 := hW.2.1.1
  refine c_in (L := [.ref 0, .int k, .int (nI b), .null, .null]) rfl rfl ?_
  refine r_s (pc' := 1) dX6_gust_0 rfl rfl ?_
  refine r_gr (pc' := 4) dX6_gust_1 rfl fX6_20 (hl_ rfl) rfl rfl ?_
  refine r_Vi0 (pc' := 7) dX6_gust_4 rfl lX6_120 (hl_ rfl) rfl rfl rfl rfl (Nat.le_of_ble_eq_true rfl) (Nat.le_of_ble_eq_true rfl) (ct_X2_stands (Or.inl rfl) hR.1 hw.bi) (fun r4 h4 e4 => ?_)
  rcases e4 with ⟨rfl, rfl, hs4⟩ | ⟨rfl, rfl, hs4⟩
  · refine r_ifne_t (tgt := 13) dX6_gust_7 (by decide) (by decide) ?_
    refine r_s (pc' := 14) dX6_gust_13 rfl rfl ?_
    refine r_gr (pc' := 17) dX6_gust_14 rfl fX6_20 (hl_ rfl) rfl rfl ?_
    refine r_s (pc' := 18) dX6_gust_17 rfl rfl ?_
    refine r_Vi1 (pc' := 21) dX6_gust_18 rfl lX6_124 (hl_ rfl) rfl rfl rfl rfl (Nat.le_of_ble_eq_true rfl) (Nat.le_of_ble_eq_true rfl) (ct_X2_hasNight (Or.inl rfl) hR.2.1 hw.bn) (fun r18 h18 e18 => ?_)
    rcases e18 with ⟨rfl, rfl, j18, hj18, rfl⟩ | ⟨rfl, rfl, hn18⟩
    · refine r_ifne_t (tgt := 27) dX6_gust_21 (by decide) (by decide) ?_
      refine r_s (pc' := 28) dX6_gust_27 rfl rfl ?_
      refine r_ifeq (pc' := 31) (tgt := 35) dX6_gust_28 rfl (by decide) (fun c28 => ?_) (fun c28 => ?_)
      · refine r_c (pc' := 36) dX6_gust_35 rfl kc_iconst_0 ?_
        refine r_top (show (0 : Int32) = nI b from c28.symm) ?_
        refine r_st_3_5 (pc' := 37) dX6_gust_36 rfl rfl rfl ?_
        refine r_s (pc' := 38) dX6_gust_37 rfl rfl ?_
        refine r_gr (pc' := 41) dX6_gust_38 rfl fX6_20 (hl_ rfl) rfl rfl ?_
        refine r_gr (pc' := 44) dX6_gust_41 rfl fX6_127 (hl_ rfl) rfl rfl ?_
        refine r_s (pc' := 45) dX6_gust_44 rfl rfl ?_
        refine h_ald (pc' := 46) dX6_gust_45 rfl (hl_ rfl) rfl (vp_in_nI (by omega) (by decide)) (nI_clamp (by omega)) ?_
        refine r_top (hR.w _ hj18) ?_
        refine r_s (pc' := 47) dX6_gust_46 rfl rfl ?_
        refine r_cne (pc' := 50) (tgt := 54) dX6_gust_47 rfl (by decide) (fun c47 => ?_) (fun c47 => ?_)
        · refine r_c (pc' := 55) dX6_gust_54 rfl kc_iconst_1 ?_
          refine r_st_4_5 (pc' := 57) dX6_gust_55 rfl rfl rfl ?_
          refine r_s (pc' := 58) dX6_gust_57 rfl rfl ?_
          refine r_gr (pc' := 61) dX6_gust_58 rfl fX6_20 (hl_ rfl) rfl rfl ?_
          refine r_gr (pc' := 64) dX6_gust_61 rfl fX6_127 (hl_ rfl) rfl rfl ?_
          refine r_s (pc' := 65) dX6_gust_64 rfl rfl ?_
          refine r_s (pc' := 66) dX6_gust_65 rfl rfl ?_
          refine h_ast (pc' := 67) dX6_gust_66 rfl (hl_ rfl) rfl (vp_in_nI (by omega) (by decide)) (nI_clamp (by omega)) ?_
          refine r_s (pc' := 69) dX6_gust_67 rfl rfl ?_
          refine r_reti dX6_gust_69 rfl (rfl) (Nat.le_of_ble_eq_true rfl) (Nat.le_of_ble_eq_true rfl) ⟨_, rfl, ?_⟩
          have hz : zw ρ j18 ≤ 1 := hw.w1 hj18
          have e2 : sp_gust ρ (nI j18) b = (ww ρ (fup (zw ρ) j18 b), if zw ρ j18 = b then 0 else 1) := by rw [sp_gust, if_neg (by omega), if_pos (ok_in hj18 hw.bn), ix_nI (by omega)]
          rw [e2]
          refine ⟨_, rfl, fun q hq => up_o (by omega), hC.putR (hR.u_w j18 b) (by rw [up_o (by decide)]) (fun r hr => up_o (by omega)), ?_⟩
          first
            | (rw [if_pos ((nI_eq (by omega) (by omega)).mp c47)])
            | (rw [if_neg (fun e => c47 (by rw [e]))])
        · refine r_c (pc' := 51) dX6_gust_50 rfl kc_iconst_0 ?_
          refine r_goto (tgt := 55) dX6_gust_51 (by decide) ?_
          refine r_st_4_5 (pc' := 57) dX6_gust_55 rfl rfl rfl ?_
          refine r_s (pc' := 58) dX6_gust_57 rfl rfl ?_
          refine r_gr (pc' := 61) dX6_gust_58 rfl fX6_20 (hl_ rfl) rfl rfl ?_
          refine r_gr (pc' := 64) dX6_gust_61 rfl fX6_127 (hl_ rfl) rfl rfl ?_
          refine r_s (pc' := 65) dX6_gust_64 rfl rfl ?_
          refine r_s (pc' := 66) dX6_gust_65 rfl rfl ?_
          refine h_ast (pc' := 67) dX6_gust_66 rfl (hl_ rfl) rfl (vp_in_nI (by omega) (by decide)) (nI_clamp (by omega)) ?_
          refine r_s (pc' := 69) dX6_gust_67 rfl rfl ?_
          refine r_reti dX6_gust_69 rfl (rfl) (Nat.le_of_ble_eq_true rfl) (Nat.le_of_ble_eq_true rfl) ⟨_, rfl, ?_⟩
          have hz : zw ρ j18 ≤ 1 := hw.w1 hj18
          have e2 : sp_gust ρ (nI j18) b = (ww ρ (fup (zw ρ) j18 b), if zw ρ j18 = b then 0 else 1) := by rw [sp_gust, if_neg (by omega), if_pos (ok_in hj18 hw.bn), ix_nI (by omega)]
          rw [e2]
          refine ⟨_, rfl, fun q hq => up_o (by omega), hC.putR (hR.u_w j18 b) (by rw [up_o (by decide)]) (fun r hr => up_o (by omega)), ?_⟩
          first
            | (rw [if_pos ((nI_eq (by omega) (by omega)).mp c47)])
            | (rw [if_neg (fun e => c47 (by rw [e]))])
      · refine r_c (pc' := 32) dX6_gust_31 rfl kc_iconst_1 ?_
        refine r_goto (tgt := 36) dX6_gust_32 (by decide) ?_
        refine r_top (b01_1 hb c28) ?_
        refine r_st_3_5 (pc' := 37) dX6_gust_36 rfl rfl rfl ?_
        refine r_s (pc' := 38) dX6_gust_37 rfl rfl ?_
        refine r_gr (pc' := 41) dX6_gust_38 rfl fX6_20 (hl_ rfl) rfl rfl ?_
        refine r_gr (pc' := 44) dX6_gust_41 rfl fX6_127 (hl_ rfl) rfl rfl ?_
        refine r_s (pc' := 45) dX6_gust_44 rfl rfl ?_
        refine h_ald (pc' := 46) dX6_gust_45 rfl (hl_ rfl) rfl (vp_in_nI (by omega) (by decide)) (nI_clamp (by omega)) ?_
        refine r_top (hR.w _ hj18) ?_
        refine r_s (pc' := 47) dX6_gust_46 rfl rfl ?_
        refine r_cne (pc' := 50) (tgt := 54) dX6_gust_47 rfl (by decide) (fun c47 => ?_) (fun c47 => ?_)
        · refine r_c (pc' := 55) dX6_gust_54 rfl kc_iconst_1 ?_
          refine r_st_4_5 (pc' := 57) dX6_gust_55 rfl rfl rfl ?_
          refine r_s (pc' := 58) dX6_gust_57 rfl rfl ?_
          refine r_gr (pc' := 61) dX6_gust_58 rfl fX6_20 (hl_ rfl) rfl rfl ?_
          refine r_gr (pc' := 64) dX6_gust_61 rfl fX6_127 (hl_ rfl) rfl rfl ?_
          refine r_s (pc' := 65) dX6_gust_64 rfl rfl ?_
          refine r_s (pc' := 66) dX6_gust_65 rfl rfl ?_
          refine h_ast (pc' := 67) dX6_gust_66 rfl (hl_ rfl) rfl (vp_in_nI (by omega) (by decide)) (nI_clamp (by omega)) ?_
          refine r_s (pc' := 69) dX6_gust_67 rfl rfl ?_
          refine r_reti dX6_gust_69 rfl (rfl) (Nat.le_of_ble_eq_true rfl) (Nat.le_of_ble_eq_true rfl) ⟨_, rfl, ?_⟩
          have hz : zw ρ j18 ≤ 1 := hw.w1 hj18
          have e2 : sp_gust ρ (nI j18) b = (ww ρ (fup (zw ρ) j18 b), if zw ρ j18 = b then 0 else 1) := by rw [sp_gust, if_neg (by omega), if_pos (ok_in hj18 hw.bn), ix_nI (by omega)]
          rw [e2]
          refine ⟨_, rfl, fun q hq => up_o (by omega), hC.putR (hR.u_w j18 b) (by rw [up_o (by decide)]) (fun r hr => up_o (by omega)), ?_⟩
          first
            | (rw [if_pos ((nI_eq (by omega) (by omega)).mp c47)])
            | (rw [if_neg (fun e => c47 (by rw [e]))])
        · refine r_c (pc' := 51) dX6_gust_50 rfl kc_iconst_0 ?_
          refine r_goto (tgt := 55) dX6_gust_51 (by decide) ?_
          refine r_st_4_5 (pc' := 57) dX6_gust_55 rfl rfl rfl ?_
          refine r_s (pc' := 58) dX6_gust_57 rfl rfl ?_
          refine r_gr (pc' := 61) dX6_gust_58 rfl fX6_20 (hl_ rfl) rfl rfl ?_
          refine r_gr (pc' := 64) dX6_gust_61 rfl fX6_127 (hl_ rfl) rfl rfl ?_
          refine r_s (pc' := 65) dX6_gust_64 rfl rfl ?_
          refine r_s (pc' := 66) dX6_gust_65 rfl rfl ?_
          refine h_ast (pc' := 67) dX6_gust_66 rfl (hl_ rfl) rfl (vp_in_nI (by omega) (by decide)) (nI_clamp (by omega)) ?_
          refine r_s (pc' := 69) dX6_gust_67 rfl rfl ?_
          refine r_reti dX6_gust_69 rfl (rfl) (Nat.le_of_ble_eq_true rfl) (Nat.le_of_ble_eq_true rfl) ⟨_, rfl, ?_⟩
          have hz : zw ρ j18 ≤ 1 := hw.w1 hj18
          have e2 : sp_gust ρ (nI j18) b = (ww ρ (fup (zw ρ) j18 b), if zw ρ j18 = b then 0 else 1) := by rw [sp_gust, if_neg (by omega), if_pos (ok_in hj18 hw.bn), ix_nI (by omega)]
          rw [e2]
          refine ⟨_, rfl, fun q hq => up_o (by omega), hC.putR (hR.u_w j18 b) (by rw [up_o (by decide)]) (fun r hr => up_o (by omega)), ?_⟩
          first
            | (rw [if_pos ((nI_eq (by omega) (by omega)).mp c47)])
            | (rw [if_neg (fun e => c47 (by rw [e]))])
    · refine r_ifne_f (pc' := 24) (tgt := 27) dX6_gust_21 rfl (by decide) (by decide) ?_
      refine r_c (pc' := 26) dX6_gust_24 rfl kc_bipush_m2 ?_
      refine r_reti dX6_gust_26 rfl (rfl) (Nat.le_of_ble_eq_true rfl) (Nat.le_of_ble_eq_true rfl) ⟨_, rfl, ?_⟩
      have e2 : sp_gust ρ k b = (ρ, -2) := by rw [sp_gust, if_neg (by omega), ok_no hw.bn hn18]; rfl
      exact ⟨I, rfl, fun _ _ => rfl, by rw [e2]; exact hC, by rw [e2]⟩
  · refine r_ifne_f (pc' := 10) (tgt := 13) dX6_gust_7 rfl (by decide) (by decide) ?_
    refine r_c (pc' := 12) dX6_gust_10 rfl kc_bipush_m3 ?_
    refine r_reti dX6_gust_12 rfl (rfl) (Nat.le_of_ble_eq_true rfl) (Nat.le_of_ble_eq_true rfl) ⟨_, rfl, ?_⟩
    have e2 : sp_gust ρ k b = (ρ, -3) := by rw [sp_gust, if_pos hs4]
    exact ⟨I, rfl, fun _ _ => rfl, by rw [e2]; exact hC, by rw [e2]⟩

set_option maxHeartbeats 4000000 in
set_option maxRecDepth 100000 in
theorem pc_lodge {d : Nat} {x : hX} {I : Nat → Nat → Int32} {ρ : zR} {δ : zD} {η : zH} {ft tr : Int32} {g k : Int32} (hC : CI I (ρ, δ, η, ft, tr)) (hW : WF (ρ, δ, η, ft, tr)) : ci (d + 2) MX6_lodge [.ref 0, .int g, .int k] (hp x I) (fun r h' => ∃ I', h' = hp x I' ∧ (∀ q, 80 ≤ q → I' q = I q) ∧ CI I' ((sp_lodge ρ g k).1, δ, η, ft, tr) ∧ r = (sp_lodge ρ g k).2) := by
  have hR : isRd I 2 ρ := hC.R
  have hw : wfR ρ := hW.1
  have b6 : zi ρ ≤ 6 := hw.1
  have b8 : zn ρ ≤ 8 := hw.2.1
  have bg : zg ρ ≤ 8 := hw.2.2.1
  have d8 : δ.1 ≤ 8 := hW.2.1.1
  refine c_in (L := [.ref 0, .int g, .int k, .null]) rfl rfl ?_
  refine r_s (pc' := 1) dX6_lodge_0 rfl rfl ?_
  refine r_gr (pc' := 4) dX6_lodge_1 rfl fX6_20 (hl_ rfl) rfl rfl ?_
  refine r_s (pc' := 5) dX6_lodge_4 rfl rfl ?_
  refine r_Vi1 (pc' := 8) dX6_lodge_5 rfl lX6_111 (hl_ rfl) rfl rfl rfl rfl (Nat.le_of_ble_eq_true rfl) (Nat.le_of_ble_eq_true rfl) (ct_X2_hasGuest (Or.inl rfl) hR.2.2.1 hw.bg) (fun r5 h5 e5 => ?_)
  rcases e5 with ⟨rfl, rfl, j5, hj5, rfl⟩ | ⟨rfl, rfl, hn5⟩
  · refine r_ifeq_f (pc' := 11) (tgt := 22) dX6_lodge_8 rfl (by decide) (by decide) ?_
    refine r_s (pc' := 12) dX6_lodge_11 rfl rfl ?_
    refine r_gr (pc' := 15) dX6_lodge_12 rfl fX6_20 (hl_ rfl) rfl rfl ?_
    refine r_s (pc' := 16) dX6_lodge_15 rfl rfl ?_
    refine r_Vi1 (pc' := 19) dX6_lodge_16 rfl lX6_97 (hl_ rfl) rfl rfl rfl rfl (Nat.le_of_ble_eq_true rfl) (Nat.le_of_ble_eq_true rfl) (ct_X2_hasInn (Or.inl rfl) hR.1 hw.bi) (fun r16 h16 e16 => ?_)
    rcases e16 with ⟨rfl, rfl, j16, hj16, rfl⟩ | ⟨rfl, rfl, hn16⟩
    · refine r_ifne_t (tgt := 24) dX6_lodge_19 (by decide) (by decide) ?_
      refine r_s (pc' := 25) dX6_lodge_24 rfl rfl ?_
      refine r_gr (pc' := 28) dX6_lodge_25 rfl fX6_20 (hl_ rfl) rfl rfl ?_
      refine r_gr (pc' := 31) dX6_lodge_28 rfl fX6_117 (hl_ rfl) rfl rfl ?_
      refine r_s (pc' := 32) dX6_lodge_31 rfl rfl ?_
      refine h_ald (pc' := 33) dX6_lodge_32 rfl (hl_ rfl) rfl (vp_in_nI (by omega) (by decide)) (nI_clamp (by omega)) ?_
      refine r_top (hR.h _ hj5) ?_
      refine r_st_3_4 (pc' := 34) dX6_lodge_33 rfl rfl rfl ?_
      refine r_s (pc' := 35) dX6_lodge_34 rfl rfl ?_
      refine r_gr (pc' := 38) dX6_lodge_35 rfl fX6_20 (hl_ rfl) rfl rfl ?_
      refine r_gr (pc' := 41) dX6_lodge_38 rfl fX6_117 (hl_ rfl) rfl rfl ?_
      refine r_s (pc' := 42) dX6_lodge_41 rfl rfl ?_
      refine r_s (pc' := 43) dX6_lodge_42 rfl rfl ?_
      refine h_ast (pc' := 44) dX6_lodge_43 rfl (hl_ rfl) rfl (vp_in_nI (by omega) (by decide)) (nI_clamp (by omega)) ?_
      refine r_s (pc' := 45) dX6_lodge_44 rfl rfl ?_
      refine r_reti dX6_lodge_45 rfl (rfl) (Nat.le_of_ble_eq_true rfl) (Nat.le_of_ble_eq_true rfl) ⟨_, rfl, ?_⟩
      have e2 : sp_lodge ρ (nI j5) (nI j16) = (wh ρ (fup (zh ρ) j5 j16), nI (zh ρ j5)) := by rw [sp_lodge, if_pos ⟨ok_in hj5 hw.bg, ok_in hj16 hw.bi⟩, ix_nI (by omega), ix_nI (by omega)]
      rw [e2]
      exact ⟨_, rfl, fun q hq => up_o (by omega), hC.putR (hR.u_h j5 j16) (by rw [up_o (by decide)]) (fun r hr => up_o (by omega)), rfl⟩
    · refine r_ifne_f (pc' := 22) (tgt := 24) dX6_lodge_19 rfl (by decide) (by decide) ?_
      refine r_c (pc' := 23) dX6_lodge_22 rfl kc_iconst_m1 ?_
      refine r_reti dX6_lodge_23 rfl (rfl) (Nat.le_of_ble_eq_true rfl) (Nat.le_of_ble_eq_true rfl) ⟨_, rfl, ?_⟩
      exact ⟨I, rfl, fun _ _ => rfl, by rw [sp_lodge_no (Or.inr (ok_no hw.bi hn16))]; exact hC, by rw [sp_lodge_no (Or.inr (ok_no hw.bi hn16))]⟩
  · refine r_ifeq_t (tgt := 22) dX6_lodge_8 (by decide) (by decide) ?_
    refine r_c (pc' := 23) dX6_lodge_22 rfl kc_iconst_m1 ?_
    refine r_reti dX6_lodge_23 rfl (rfl) (Nat.le_of_ble_eq_true rfl) (Nat.le_of_ble_eq_true rfl) ⟨_, rfl, ?_⟩
    exact ⟨I, rfl, fun _ _ => rfl, by rw [sp_lodge_no (Or.inl (ok_no hw.bg hn5))]; exact hC, by rw [sp_lodge_no (Or.inl (ok_no hw.bg hn5))]⟩
