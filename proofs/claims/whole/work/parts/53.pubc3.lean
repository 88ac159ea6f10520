theorem CI.frN {I I' : Nat → Nat → Int32} {σ : zS} (h : CI I σ) (hf : frN 16 I I') : CI I' σ := h.same (fun r hr => hf r (by unfold atC at hr; omega))
theorem frN.m {q : Nat} {I I' : Nat → Nat → Int32} (hf : frN q I I') (hq : q + 21 < 80) : ∀ t, 80 ≤ t → I' t = I t := fun t ht => hf t (by omega)
theorem isRd.frN {q r : Nat} {I I' : Nat → Nat → Int32} {ρ : zR} (h : isRd I r ρ) (hq : isN q r) (hf : frN q I I') : isRd I' r ρ := h.same (fun t t1 t2 => hf t (by have := hq.sep; omega))
theorem fM_eq {I : Nat → Nat → Int32} {ρ : zR} {f : Int32} (h : isRd I 2 ρ) : mk (fun g => decide (I 7 g = f)) (zg ρ) = fM ρ f := mk_cg (fun g hg => by rw [h.y g hg]; rfl)

set_option maxHeartbeats 4000000 in
set_option maxRecDepth 100000 in
theorem pc_where {d : Nat} {x : hX} {I : Nat → Nat → Int32} {ρ : zR} {δ : zD} {η : zH} {ft tr : Int32} {g n : Int32} (hC : CI I (ρ, δ, η, ft, tr)) (hW : WF (ρ, δ, η, ft, tr)) : ci (d + 5) MX6_where [.ref 0, .int g, .int n] (hp x I) (fun r h' => ∃ I', h' = hp x I' ∧ (∀ q, 80 ≤ q → I' q = I q) ∧ CI I' (ρ, δ, η, ft, tr) ∧ r = sp_where ρ g n) := by
  have hR : isRd I 2 ρ := hC.R
  have hw : wfR ρ := hW.1
  have b6 : zi ρ ≤ 6 := hw.1
  have b8 : zn ρ ≤ 8 := hw.2.1
  have bg : zg ρ ≤ 8 := hw.2.2.1
  have d8 : δ.1 ≤ 8 := hW.2.1.1
  have hN : isN 16 2 := Or.inl ⟨rfl, rfl⟩
  refine c_in (L := [.ref 0, .int g, .int n]) rfl rfl ?_
  refine r_s (pc' := 1) dX6_where_0 rfl rfl ?_
  refine r_gr (pc' := 4) dX6_where_1 rfl fX6_20 (hl_ rfl) rfl rfl ?_
  refine r_s (pc' := 5) dX6_where_4 rfl rfl ?_
  refine r_Vi1 (pc' := 8) dX6_where_5 rfl lX6_111 (hl_ rfl) rfl rfl rfl rfl (Nat.le_of_ble_eq_true rfl) (Nat.le_of_ble_eq_true rfl) (ct_X2_hasGuest (Or.inl rfl) hR.2.2.1 hw.bg) (fun r5 h5 e5 => ?_)
  rcases e5 with ⟨rfl, rfl, j5, hj5, rfl⟩ | ⟨rfl, rfl, hn5⟩
  · refine r_ifne_t (tgt := 13) dX6_where_8 (by decide) (by decide) ?_
    refine r_s (pc' := 14) dX6_where_13 rfl rfl ?_
    refine r_gr (pc' := 17) dX6_where_14 rfl fX6_20 (hl_ rfl) rfl rfl ?_
    refine r_s (pc' := 18) dX6_where_17 rfl rfl ?_
    refine r_Vi1 (pc' := 21) dX6_where_18 rfl lX6_139 (hl_ rfl) rfl rfl rfl rfl (Nat.le_of_ble_eq_true rfl) (Nat.le_of_ble_eq_true rfl) (ct_X2_countsNights (Or.inl rfl) hR.2.1 hw.bn1) (fun r18 h18 e18 => ?_)
    rcases e18 with ⟨rfl, rfl, j18, hj18, rfl⟩ | ⟨rfl, rfl, hn18⟩
    · refine r_ifne_t (tgt := 27) dX6_where_21 (by decide) (by decide) ?_
      have hz := hw.gz (by omega)
      refine r_s (pc' := 28) dX6_where_27 rfl rfl ?_
      refine r_gr (pc' := 31) dX6_where_28 rfl fX6_32 (hl_ rfl) rfl rfl ?_
      refine r_s (pc' := 32) dX6_where_31 rfl rfl ?_
      refine r_Vv1 (pc' := 35) dX6_where_32 rfl lX6_142 (hl_ rfl) rfl rfl rfl rfl (Nat.le_of_ble_eq_true rfl) (Nat.le_of_ble_eq_true rfl) (ct_X0_run (rm := 6) hN hR hw hz hC.rm (by omega)) (fun h32 e32 => ?_)
      obtain ⟨I1, rfl, g1, g2⟩ := e32
      refine r_s (pc' := 36) dX6_where_35 rfl rfl ?_
      refine r_gr (pc' := 39) dX6_where_36 rfl fX6_32 (hl_ rfl) rfl rfl ?_
      refine r_s (pc' := 40) dX6_where_39 rfl rfl ?_
      refine r_s (pc' := 41) dX6_where_40 rfl rfl ?_
      refine r_Vi2 (pc' := 44) dX6_where_41 rfl lX6_146 (hl_ rfl) rfl rfl rfl rfl (Nat.le_of_ble_eq_true rfl) (Nat.le_of_ble_eq_true rfl) (ct_X0_placeOf (S := sim ρ 6 (zw ρ) j18) hN (hR.frN hN g2) hw (by omega) (g1 _ (Nat.le_refl _)) hj5 ((sim_ok hw hz 6 (zw ρ) _).1 _ hj5)) (fun r41 h41 e41 => ?_)
      obtain ⟨rfl, rfl⟩ := e41
      refine r_reti dX6_where_44 rfl (rfl) (Nat.le_of_ble_eq_true rfl) (Nat.le_of_ble_eq_true rfl) ⟨_, rfl, ?_⟩
      exact ⟨I1, rfl, g2.m (by decide), hC.frN g2, by rw [sp_where, if_pos (ok_in hj5 hw.bg), if_pos (ok_in hj18 hw.bn1), ix_nI (by omega), ix_nI (by omega)]⟩
    · refine r_ifne_f (pc' := 24) (tgt := 27) dX6_where_21 rfl (by decide) (by decide) ?_
      refine r_c (pc' := 26) dX6_where_24 rfl kc_bipush_m2 ?_
      refine r_reti dX6_where_26 rfl (rfl) (Nat.le_of_ble_eq_true rfl) (Nat.le_of_ble_eq_true rfl) ⟨_, rfl, ?_⟩
      exact ⟨I, rfl, fun _ _ => rfl, hC, by rw [sp_where, if_pos (ok_in hj5 hw.bg), ok_no hw.bn1 hn18]; rfl⟩
  · refine r_ifne_f (pc' := 11) (tgt := 13) dX6_where_8 rfl (by decide) (by decide) ?_
    refine r_c (pc' := 12) dX6_where_11 rfl kc_iconst_m1 ?_
    refine r_reti dX6_where_12 rfl (rfl) (Nat.le_of_ble_eq_true rfl) (Nat.le_of_ble_eq_true rfl) ⟨_, rfl, ?_⟩
    exact ⟨I, rfl, fun _ _ => rfl, hC, by rw [sp_where, ok_no hw.bg hn5]; rfl⟩

set_option maxHeartbeats 4000000 in
set_option maxRecDepth 100000 in
theorem pc_deep {d : Nat} {x : hX} {I : Nat → Nat → Int32} {ρ : zR} {δ : zD} {η : zH} {ft tr : Int32} {k n : Int32} (hC : CI I (ρ, δ, η, ft, tr)) (hW : WF (ρ, δ, η, ft, tr)) : ci (d + 5) MX6_deep [.ref 0, .int k, .int n] (hp x I) (fun r h' => ∃ I', h' = hp x I' ∧ (∀ q, 80 ≤ q → I' q = I q) ∧ CI I' (ρ, δ, η, ft, tr) ∧ r = sp_deep ρ k n) := by
  have hR : isRd I 2 ρ := hC.R
  have hw : wfR ρ := hW.1
  have b6 : zi ρ ≤ 6 := hw.1
  have b8 : zn ρ ≤ 8 := hw.2.1
  have bg : zg ρ ≤ 8 := hw.2.2.1
  have d8 : δ.1 ≤ 8 := hW.2.1.1
  have hN : isN 16 2 := Or.inl ⟨rfl, rfl⟩
  refine c_in (L := [.ref 0, .int k, .int n]) rfl rfl ?_
  refine r_s (pc' := 1) dX6_deep_0 rfl rfl ?_
  refine r_gr (pc' := 4) dX6_deep_1 rfl fX6_20 (hl_ rfl) rfl rfl ?_
  refine r_s (pc' := 5) dX6_deep_4 rfl rfl ?_
  refine r_Vi1 (pc' := 8) dX6_deep_5 rfl lX6_97 (hl_ rfl) rfl rfl rfl rfl (Nat.le_of_ble_eq_true rfl) (Nat.le_of_ble_eq_true rfl) (ct_X2_hasInn (Or.inl rfl) hR.1 hw.bi) (fun r5 h5 e5 => ?_)
  rcases e5 with ⟨rfl, rfl, j5, hj5, rfl⟩ | ⟨rfl, rfl, hn5⟩
  · refine r_ifne_t (tgt := 13) dX6_deep_8 (by decide) (by decide) ?_
    refine r_s (pc' := 14) dX6_deep_13 rfl rfl ?_
    refine r_gr (pc' := 17) dX6_deep_14 rfl fX6_20 (hl_ rfl) rfl rfl ?_
    refine r_s (pc' := 18) dX6_deep_17 rfl rfl ?_
    refine r_Vi1 (pc' := 21) dX6_deep_18 rfl lX6_139 (hl_ rfl) rfl rfl rfl rfl (Nat.le_of_ble_eq_true rfl) (Nat.le_of_ble_eq_true rfl) (ct_X2_countsNights (Or.inl rfl) hR.2.1 hw.bn1) (fun r18 h18 e18 => ?_)
    rcases e18 with ⟨rfl, rfl, j18, hj18, rfl⟩ | ⟨rfl, rfl, hn18⟩
    · refine r_ifne_t (tgt := 27) dX6_deep_21 (by decide) (by decide) ?_
      have hz : 0 < zi ρ := by omega
      refine r_s (pc' := 28) dX6_deep_27 rfl rfl ?_
      refine r_gr (pc' := 31) dX6_deep_28 rfl fX6_32 (hl_ rfl) rfl rfl ?_
      refine r_s (pc' := 32) dX6_deep_31 rfl rfl ?_
      refine r_Vv1 (pc' := 35) dX6_deep_32 rfl lX6_142 (hl_ rfl) rfl rfl rfl rfl (Nat.le_of_ble_eq_true rfl) (Nat.le_of_ble_eq_true rfl) (ct_X0_run (rm := 6) hN hR hw hz hC.rm (by omega)) (fun h32 e32 => ?_)
      obtain ⟨I1, rfl, g1, g2⟩ := e32
      refine r_s (pc' := 36) dX6_deep_35 rfl rfl ?_
      refine r_gr (pc' := 39) dX6_deep_36 rfl fX6_32 (hl_ rfl) rfl rfl ?_
      refine r_gr (pc' := 42) dX6_deep_39 rfl fX6_149 (hl_ rfl) rfl rfl ?_
      refine r_s (pc' := 43) dX6_deep_42 rfl rfl ?_
      refine r_gald (pc' := 44) dX6_deep_43 rfl (hl_ rfl) rfl (vp_in_nI (show j18 < 9 by omega) (by decide)) (by rw [nI_clamp (show j18 < 2 ^ 31 by omega)]; exact hN.ri (x := x) (show j18 < 9 by omega)) ?_
      refine r_s (pc' := 45) dX6_deep_44 rfl rfl ?_
      refine h_ald (pc' := 46) dX6_deep_45 rfl ((hN).lb 2 _ rfl (show j18 < 9 by omega)) ((hN).ki (show j18 < 9 by omega)) (vp_in_nI (show j5 < 6 by omega) (by decide)) (nI_clamp (by omega)) ?_
      refine r_top ((g1 _ (Nat.le_refl _)).1 _ hj5) ?_
      refine r_reti dX6_deep_46 rfl (rfl) (Nat.le_of_ble_eq_true rfl) (Nat.le_of_ble_eq_true rfl) ⟨_, rfl, ?_⟩
      exact ⟨I1, rfl, g2.m (by decide), hC.frN g2, by rw [sp_deep, if_pos (ok_in hj5 hw.bi), if_pos (ok_in hj18 hw.bn1), ix_nI (by omega), ix_nI (by omega)]⟩
    · refine r_ifne_f (pc' := 24) (tgt := 27) dX6_deep_21 rfl (by decide) (by decide) ?_
      refine r_c (pc' := 26) dX6_deep_24 rfl kc_bipush_m2 ?_
      refine r_reti dX6_deep_26 rfl (rfl) (Nat.le_of_ble_eq_true rfl) (Nat.le_of_ble_eq_true rfl) ⟨_, rfl, ?_⟩
      exact ⟨I, rfl, fun _ _ => rfl, hC, by rw [sp_deep, if_pos (ok_in hj5 hw.bi), ok_no hw.bn1 hn18]; rfl⟩
  · refine r_ifne_f (pc' := 11) (tgt := 13) dX6_deep_8 rfl (by decide) (by decide) ?_
    refine r_c (pc' := 12) dX6_deep_11 rfl kc_iconst_m1 ?_
    refine r_reti dX6_deep_12 rfl (rfl) (Nat.le_of_ble_eq_true rfl) (Nat.le_of_ble_eq_true rfl) ⟨_, rfl, ?_⟩
    exact ⟨I, rfl, fun _ _ => rfl, hC, by rw [sp_deep, ok_no hw.bi hn5]; rfl⟩

set_option maxHeartbeats 4000000 in
set_option maxRecDepth 100000 in
theorem pc_beds {d : Nat} {x : hX} {I : Nat → Nat → Int32} {ρ : zR} {δ : zD} {η : zH} {ft tr : Int32} {k n : Int32} (hC : CI I (ρ, δ, η, ft, tr)) (hW : WF (ρ, δ, η, ft, tr)) : ci (d + 5) MX6_beds [.ref 0, .int k, .int n] (hp x I) (fun r h' => ∃ I', h' = hp x I' ∧ (∀ q, 80 ≤ q → I' q = I q) ∧ CI I' (ρ, δ, η, ft, tr) ∧ r = sp_beds ρ k n) := by
  have hR : isRd I 2 ρ := hC.R
  have hw : wfR ρ := hW.1
  have b6 : zi ρ ≤ 6 := hw.1
  have b8 : zn ρ ≤ 8 := hw.2.1
  have bg : zg ρ ≤ 8 := hw.2.2.1
  have d8 : δ.1 ≤ 8 := hW.2.1.1
  have hN : isN 16 2 := Or.inl ⟨rfl, rfl⟩
  refine c_in (L := [.ref 0, .int k, .int n]) rfl rfl ?_
  refine r_s (pc' := 1) dX6_beds_0 rfl rfl ?_
  refine r_gr (pc' := 4) dX6_beds_1 rfl fX6_20 (hl_ rfl) rfl rfl ?_
  refine r_s (pc' := 5) dX6_beds_4 rfl rfl ?_
  refine r_Vi1 (pc' := 8) dX6_beds_5 rfl lX6_152 (hl_ rfl) rfl rfl rfl rfl (Nat.le_of_ble_eq_true rfl) (Nat.le_of_ble_eq_true rfl) (ct_X2_hasInnOrRoad (Or.inl rfl) hR.1 (by omega)) (fun r5 h5 e5 => ?_)
  rcases e5 with ⟨rfl, rfl, hs5, j5, hj5, rfl⟩ | ⟨rfl, rfl, hn5⟩
  · refine r_ifne_t (tgt := 13) dX6_beds_8 (by decide) (by decide) ?_
    refine r_s (pc' := 14) dX6_beds_13 rfl rfl ?_
    refine r_gr (pc' := 17) dX6_beds_14 rfl fX6_20 (hl_ rfl) rfl rfl ?_
    refine r_s (pc' := 18) dX6_beds_17 rfl rfl ?_
    refine r_Vi1 (pc' := 21) dX6_beds_18 rfl lX6_139 (hl_ rfl) rfl rfl rfl rfl (Nat.le_of_ble_eq_true rfl) (Nat.le_of_ble_eq_true rfl) (ct_X2_countsNights (Or.inl rfl) hR.2.1 hw.bn1) (fun r18 h18 e18 => ?_)
    rcases e18 with ⟨rfl, rfl, j18, hj18, rfl⟩ | ⟨rfl, rfl, hn18⟩
    · refine r_ifne_t (tgt := 27) dX6_beds_21 (by decide) (by decide) ?_
      have hz : 0 < zi ρ := hs5
      refine r_s (pc' := 28) dX6_beds_27 rfl rfl ?_
      refine r_gr (pc' := 31) dX6_beds_28 rfl fX6_32 (hl_ rfl) rfl rfl ?_
      refine r_s (pc' := 32) dX6_beds_31 rfl rfl ?_
      refine r_Vv1 (pc' := 35) dX6_beds_32 rfl lX6_142 (hl_ rfl) rfl rfl rfl rfl (Nat.le_of_ble_eq_true rfl) (Nat.le_of_ble_eq_true rfl) (ct_X0_run (rm := 6) hN hR hw hz hC.rm (by omega)) (fun h32 e32 => ?_)
      obtain ⟨I1, rfl, g1, g2⟩ := e32
      refine r_s (pc' := 36) dX6_beds_35 rfl rfl ?_
      refine r_gr (pc' := 39) dX6_beds_36 rfl fX6_32 (hl_ rfl) rfl rfl ?_
      refine r_gr (pc' := 42) dX6_beds_39 rfl fX6_155 (hl_ rfl) rfl rfl ?_
      refine r_s (pc' := 43) dX6_beds_42 rfl rfl ?_
      refine r_gald (pc' := 44) dX6_beds_43 rfl (hl_ rfl) rfl (vp_in_nI (show j18 < 9 by omega) (by decide)) (by rw [nI_clamp (show j18 < 2 ^ 31 by omega)]; exact hN.rg (x := x) (show j18 < 9 by omega)) ?_
      refine r_s (pc' := 45) dX6_beds_44 rfl rfl ?_
      refine h_ald (pc' := 46) dX6_beds_45 rfl ((hN).lb 12 _ rfl (show j18 < 9 by omega)) ((hN).kg (show j18 < 9 by omega)) (vp_in_nI (show j5 < 7 by omega) (by decide)) (nI_clamp (by omega)) ?_
      refine r_top ((g1 _ (Nat.le_refl _)).2.1 _ (by omega)) ?_
      refine r_reti dX6_beds_46 rfl (rfl) (Nat.le_of_ble_eq_true rfl) (Nat.le_of_ble_eq_true rfl) ⟨_, rfl, ?_⟩
      exact ⟨I1, rfl, g2.m (by decide), hC.frN g2, by rw [sp_beds, if_pos ⟨(by omega : ¬ zi ρ = 0), ok_in hj5 (by omega)⟩, if_pos (ok_in hj18 hw.bn1), ix_nI (by omega), ix_nI (by omega)]⟩
    · refine r_ifne_f (pc' := 24) (tgt := 27) dX6_beds_21 rfl (by decide) (by decide) ?_
      refine r_c (pc' := 26) dX6_beds_24 rfl kc_bipush_m2 ?_
      refine r_reti dX6_beds_26 rfl (rfl) (Nat.le_of_ble_eq_true rfl) (Nat.le_of_ble_eq_true rfl) ⟨_, rfl, ?_⟩
      exact ⟨I, rfl, fun _ _ => rfl, hC, by rw [sp_beds, if_pos ⟨(by omega : ¬ zi ρ = 0), ok_in hj5 (by omega)⟩, ok_no hw.bn1 hn18]; rfl⟩
  · refine r_ifne_f (pc' := 11) (tgt := 13) dX6_beds_8 rfl (by decide) (by decide) ?_
    refine r_c (pc' := 12) dX6_beds_11 rfl kc_iconst_m1 ?_
    refine r_reti dX6_beds_12 rfl (rfl) (Nat.le_of_ble_eq_true rfl) (Nat.le_of_ble_eq_true rfl) ⟨_, rfl, ?_⟩
    exact ⟨I, rfl, fun _ _ => rfl, hC, by rw [sp_beds, if_neg (fun q => by rcases hn5 with h | h; exact q.1 h; have := q.2; rw [ok_no (by omega) h] at this; cases this)]⟩

set_option maxHeartbeats 4000000 in
set_option maxRecDepth 100000 in
theorem pc_meet {d : Nat} {x : hX} {I : Nat → Nat → Int32} {ρ : zR} {δ : zD} {η : zH} {ft tr : Int32} {f : Int32} (hC : CI I (ρ, δ, η, ft, tr)) (hW : WF (ρ, δ, η, ft, tr)) : ci (d + 5) MX6_meet [.ref 0, .int f] (hp x I) (fun r h' => ∃ I', h' = hp x I' ∧ (∀ q, 80 ≤ q → I' q = I q) ∧ CI I' (ρ, δ, η, ft, tr) ∧ r = sp_meet ρ f) := by
  have hR : isRd I 2 ρ := hC.R
  have hw : wfR ρ := hW.1
  have b6 : zi ρ ≤ 6 := hw.1
  have b8 : zn ρ ≤ 8 := hw.2.1
  have bg : zg ρ ≤ 8 := hw.2.2.1
  have d8 : δ.1 ≤ 8 := hW.2.1.1
  have hN : isN 16 2 := Or.inl ⟨rfl, rfl⟩
  refine c_in (L := [.ref 0, .int f, .null]) rfl rfl ?_
  refine r_s (pc' := 1) dX6_meet_0 rfl rfl ?_
  refine r_gr (pc' := 4) dX6_meet_1 rfl fX6_20 (hl_ rfl) rfl rfl ?_
  refine r_s (pc' := 5) dX6_meet_4 rfl rfl ?_
  refine r_Vi1 (pc' := 8) dX6_meet_5 rfl lX6_161 (hl_ rfl) rfl rfl rfl rfl (Nat.le_of_ble_eq_true rfl) (Nat.le_of_ble_eq_true rfl) (ct_X2_membersOf hR.2.2.1 bg) (fun r5 h5 e5 => ?_)
  obtain ⟨rfl, rfl⟩ := e5
  refine r_top (congrArg nI (fM_eq (f := f) hR)) ?_
  refine r_st_2_3 (pc' := 9) dX6_meet_8 rfl rfl rfl ?_
  refine r_s (pc' := 10) dX6_meet_9 rfl rfl ?_
  refine r_ifne (pc' := 13) (tgt := 15) dX6_meet_10 rfl (by decide) (fun c10 => ?_) (fun c10 => ?_)
  · have hf : ¬ fM ρ f = 0 := z1 c10
    have hz := hw.gz (fM_g hf)
    refine r_s (pc' := 16) dX6_meet_15 rfl rfl ?_
    refine r_gr (pc' := 19) dX6_meet_16 rfl fX6_32 (hl_ rfl) rfl rfl ?_
    refine r_s (pc' := 20) dX6_meet_19 rfl rfl ?_
    refine r_s (pc' := 21) dX6_meet_20 rfl rfl ?_
    refine r_gr (pc' := 24) dX6_meet_21 rfl fX6_20 (hl_ rfl) rfl rfl ?_
    refine h_gi (pc' := 27) dX6_meet_24 rfl fX6_164 (hl_ rfl) rfl ?_
    refine r_top (hR.2.1) ?_
    refine r_Vi2 (pc' := 30) dX6_meet_27 rfl lX6_166 (hl_ rfl) rfl rfl rfl rfl (Nat.le_of_ble_eq_true rfl) (Nat.le_of_ble_eq_true rfl) (ct_X0_firstMeeting (rm := 6) hN hR hw hz hC.rm (Nat.le_refl _) (fM_lt hw)) (fun r27 h27 e27 => ?_)
    obtain ⟨I1, rfl, g2, rfl⟩ := e27
    refine r_reti dX6_meet_30 rfl (rfl) (Nat.le_of_ble_eq_true rfl) (Nat.le_of_ble_eq_true rfl) ⟨_, rfl, ?_⟩
    exact ⟨I1, rfl, g2.m (by decide), hC.frN g2, by rw [sp_meet, if_neg (z1 c10)]⟩
  · refine r_c (pc' := 14) dX6_meet_13 rfl kc_iconst_m1 ?_
    refine r_reti dX6_meet_14 rfl (rfl) (Nat.le_of_ble_eq_true rfl) (Nat.le_of_ble_eq_true rfl) ⟨_, rfl, ?_⟩
    exact ⟨I, rfl, fun _ _ => rfl, hC, by rw [sp_meet, if_pos (z0 c10 (by have := fM_lt (f := f) hw; omega))]⟩

set_option maxHeartbeats 4000000 in
set_option maxRecDepth 100000 in
theorem lp_X6_fe {d : Nat} {Q : sm_Q} {x : hX} {I : Nat → Nat → Int32} {ρ : zR} {S : zN} {n k f1 m1 : Nat} {f : Nat → Int32} (hN : isN 16 2) (hR : isRd I 2 ρ) (hw : wfR ρ) (hn8 : n ≤ 8) (hS : NR I 16 ρ n S) (hA : ∀ g, g < zg ρ → S.1 g ≤ zi ρ) (hk : k < 4) (him : f1 + m1 ≤ 60) (hm : m1 ≤ zg ρ) (hf : ∀ j, j < f1 + m1 → I (72 + 2 * k + 1) j = f j) (hQ : Q (some (.int (fmI (fun g => decide (¬ f (f1 + g) = nI (S.1 g))) m1))) (hp x I)) : ∀ (m i : Nat) , i + m = m1 → (∀ j, j < i → (decide (¬ f (f1 + j) = nI (S.1 j))) = false) → sm_wp (sm_c (d + 2)) 0 0 MX6_firstElsewhere Q 11 [.ref 0, .int (nI n), .ref (72 + 2 * k), .int (nI f1), .int (nI m1), .int (nI i)] [] (hp x I) 0 0 := by
  have b6 : zi ρ ≤ 6 := hw.1
  have b8 : zn ρ ≤ 8 := hw.2.1
  have bg : zg ρ ≤ 8 := hw.2.2.1
  have bl : zl ρ ≤ 1 := hw.2.2.2.1
  intro m
  induction m with
  | zero =>
    intro i  hi h1
    have hi : i = m1 := by omega
    refine r_s (pc' := 13) dX6_firstElsewhere_11 rfl rfl ?_
    refine r_s (pc' := 15) dX6_firstElsewhere_13 rfl rfl ?_
    refine r_cge_t (tgt := 49) dX6_firstElsewhere_15 (by decide) (by rw [hi]; exact Int32.le_refl _) ?_
    refine r_c (pc' := 51) dX6_firstElsewhere_49 rfl kc_bipush_m9 ?_
    refine r_reti dX6_firstElsewhere_51 rfl (rfl) (Nat.le_of_ble_eq_true rfl) (Nat.le_of_ble_eq_true rfl) ?_
    rw [hi] at h1; rw [fmI_no h1] at hQ; exact hQ
  | succ m ih =>
    intro i  hi h1
    refine r_s (pc' := 13) dX6_firstElsewhere_11 rfl rfl ?_
    refine r_s (pc' := 15) dX6_firstElsewhere_13 rfl rfl ?_
    refine r_cge_f (pc' := 18) (tgt := 49) dX6_firstElsewhere_15 rfl (by decide) (nI_ge (by omega) (by omega)) ?_
    refine r_s (pc' := 19) dX6_firstElsewhere_18 rfl rfl ?_
    refine r_gr (pc' := 22) dX6_firstElsewhere_19 rfl fX6_218 ((isS_of hk)).l ((isS_of hk)).K ((isS_of hk)).r0 ?_
    refine r_s (pc' := 23) dX6_firstElsewhere_22 rfl rfl ?_
    refine r_s (pc' := 25) dX6_firstElsewhere_23 rfl rfl ?_
    refine r_s (pc' := 26) dX6_firstElsewhere_25 rfl rfl ?_
    refine r_top (nI_add _ _) ?_
    refine h_ald (pc' := 27) dX6_firstElsewhere_26 rfl ((isS_of hk)).la ((isS_of hk)).k1 (vp_in_nI (by omega) (by decide)) (nI_clamp (by omega)) ?_
    refine r_top (hf (f1 + i) (by omega)) ?_
    refine r_s (pc' := 28) dX6_firstElsewhere_27 rfl rfl ?_
    refine r_gr (pc' := 31) dX6_firstElsewhere_28 rfl fX6_32 (hl_ rfl) rfl rfl ?_
    refine r_s (pc' := 33) dX6_firstElsewhere_31 rfl rfl ?_
    refine r_s (pc' := 34) dX6_firstElsewhere_33 rfl rfl ?_
    refine r_Vi2 (pc' := 37) dX6_firstElsewhere_34 rfl lX6_146 (hl_ rfl) rfl rfl rfl rfl (Nat.le_of_ble_eq_true rfl) (Nat.le_of_ble_eq_true rfl) (ct_X0_placeOf (S := S) hN hR hw hn8 hS (by omega) (hA i (by omega))) (fun r34 h34 e34 => ?_)
    obtain ⟨rfl, rfl⟩ := e34
    refine r_ceq (pc' := 40) (tgt := 43) dX6_firstElsewhere_37 rfl (by decide) (fun c37 => ?_) (fun c37 => ?_)
    · refine r_in_5_6 (pc' := 46) dX6_firstElsewhere_43 rfl rfl (i1 _) ?_
      refine r_goto (tgt := 11) dX6_firstElsewhere_46 (by decide) ?_
      refine ih (i + 1) (by omega) (fun j hj => ?_)
      by_cases e : j = i
      · subst e; exact decide_eq_false (fun h => h c37)
      · exact h1 j (by omega)
    · refine r_s (pc' := 42) dX6_firstElsewhere_40 rfl rfl ?_
      refine r_reti dX6_firstElsewhere_42 rfl (rfl) (Nat.le_of_ble_eq_true rfl) (Nat.le_of_ble_eq_true rfl) ?_
      rw [fmI_at (p := fun g => decide (¬ f (f1 + g) = nI (S.1 g))) (by omega) (decide_eq_true c37) h1] at hQ; exact hQ

set_option maxHeartbeats 4000000 in
set_option maxRecDepth 100000 in
theorem ct_X6_firstElsewhere {d : Nat} {x : hX} {I : Nat → Nat → Int32} {ρ : zR} {n k f1 m1 : Nat} {f : Nat → Int32} (hR : isRd I 2 ρ) (hrm : I 2 10 = rmI 6) (hw : wfR ρ) (hz : 0 < zi ρ) (hn : n ≤ zn ρ) (hk : k < 4) (him : f1 + m1 ≤ 60) (hm : m1 ≤ zg ρ) (hf : ∀ j, j < f1 + m1 → I (72 + 2 * k + 1) j = f j) : ci (d + 5) MX6_firstElsewhere [.ref 0, .int (nI n), .ref (72 + 2 * k), .int (nI f1), .int (nI m1)] (hp x I) (fun r h' => ∃ I', h' = hp x I' ∧ frN 16 I I' ∧ r = lsI ρ n f1 m1 f) := by
  have b8 : zn ρ ≤ 8 := hw.2.1
  have hN : isN 16 2 := Or.inl ⟨rfl, rfl⟩
  refine c_in (L := [.ref 0, .int (nI n), .ref (72 + 2 * k), .int (nI f1), .int (nI m1), .null]) rfl rfl ?_
  refine r_s (pc' := 1) dX6_firstElsewhere_0 rfl rfl ?_
  refine r_gr (pc' := 4) dX6_firstElsewhere_1 rfl fX6_32 (hl_ rfl) rfl rfl ?_
  refine r_s (pc' := 5) dX6_firstElsewhere_4 rfl rfl ?_
  refine r_Vv1 (pc' := 8) dX6_firstElsewhere_5 rfl lX6_142 (hl_ rfl) rfl rfl rfl rfl (Nat.le_of_ble_eq_true rfl) (Nat.le_of_ble_eq_true rfl) (ct_X0_run (rm := 6) hN hR hw hz hrm hn) (fun h5 e5 => ?_)
  obtain ⟨I1, rfl, g1, g2⟩ := e5
  refine r_c (pc' := 9) dX6_firstElsewhere_8 rfl kc_iconst_0 ?_
  refine r_st_5_6 (pc' := 11) dX6_firstElsewhere_9 rfl rfl rfl ?_
  exact lp_X6_fe (S := sim ρ 6 (zw ρ) n) hN (hR.frN hN g2) hw (by omega) (g1 n (Nat.le_refl _)) (sim_ok hw hz 6 (zw ρ) n).1 hk him hm (fun j hj => by rw [g2 _ (by omega)]; exact hf j hj) ⟨_, rfl, I1, rfl, g2, rfl⟩ m1 0 (by omega) (fun j hj => absurd hj (by omega))

set_option maxHeartbeats 4000000 in
set_option maxRecDepth 100000 in
theorem pc_list {d : Nat} {x : hX} {I : Nat → Nat → Int32} {ρ : zR} {δ : zD} {η : zH} {ft tr : Int32} {nn k ln i n : Int32} (hC : CI I (ρ, δ, η, ft, tr)) (hW : WF (ρ, δ, η, ft, tr)) : ci (d + 6) MX6_list [.ref 0, .int nn, .int k, .int ln, .int i, .int n] (hp x I) (fun r h' => ∃ I', h' = hp x I' ∧ (∀ q, 80 ≤ q → I' q = I q) ∧ CI I' (ρ, δ, η, (sp_list ρ η nn k ln i n).1, tr) ∧ r = (sp_list ρ η nn k ln i n).2) := by
  have hR : isRd I 2 ρ := hC.R
  have hw : wfR ρ := hW.1
  have b6 : zi ρ ≤ 6 := hw.1
  have b8 : zn ρ ≤ 8 := hw.2.1
  have bg : zg ρ ≤ 8 := hw.2.2.1
  have d8 : δ.1 ≤ 8 := hW.2.1.1
  have hSh : ∀ k, k < 4 → shC I k (η k) := hC.S
  have hWh : ∀ k, k < 4 → okO (η k) := fun k hk a n f e => hW.2.2 k hk a n f e
  have hS1 : CI (sm_up I 0 6 0) (ρ, δ, η, 0, tr) := hC.upf 0
  have hSh1 : ∀ k, k < 4 → shC (sm_up I 0 6 0) k (η k) := hS1.S
  have hN : isN 16 2 := Or.inl ⟨rfl, rfl⟩
  have hR1 : isRd (sm_up I 0 6 0) 2 ρ := (hC.upf 0).R
  have hrm1 : sm_up I 0 6 0 2 10 = -9 := (hC.upf 0).rm
  refine c_in (L := [.ref 0, .int nn, .int k, .int ln, .int i, .int n, .null]) rfl rfl ?_
  refine r_s (pc' := 1) dX6_list_0 rfl rfl ?_
  refine r_c (pc' := 2) dX6_list_1 rfl kc_iconst_0 ?_
  refine h_pi (pc' := 5) dX6_list_2 rfl fX6_52 rfl (hl_ rfl) rfl ?_
  refine r_s (pc' := 6) dX6_list_5 rfl rfl ?_
  refine r_Si1 (pc' := 9) dX6_list_6 rfl lX6_60 rfl (Nat.le_of_ble_eq_true rfl) (Nat.le_of_ble_eq_true rfl) (ct_X6_isSheet) (fun r6 h6 e6 => ?_)
  rcases e6 with ⟨rfl, rfl, j6, hj6, rfl⟩ | ⟨rfl, rfl, hn6⟩
  · refine r_ifne_t (tgt := 14) dX6_list_9 (by decide) (by decide) ?_
    refine r_s (pc' := 15) dX6_list_14 rfl rfl ?_
    refine r_Si1 (pc' := 18) dX6_list_15 rfl lX6_64 rfl (Nat.le_of_ble_eq_true rfl) (Nat.le_of_ble_eq_true rfl) (ct_X6_isLane) (fun r15 h15 e15 => ?_)
    rcases e15 with ⟨rfl, rfl, j15, hj15, rfl⟩ | ⟨rfl, rfl, hn15⟩
    · refine r_ifne_t (tgt := 24) dX6_list_18 (by decide) (by decide) ?_
      refine r_s (pc' := 25) dX6_list_24 rfl rfl ?_
      refine r_gr (pc' := 28) dX6_list_25 rfl fX6_20 (hl_ rfl) rfl rfl ?_
      refine r_Vi0 (pc' := 31) dX6_list_28 rfl lX6_120 (hl_ rfl) rfl rfl rfl rfl (Nat.le_of_ble_eq_true rfl) (Nat.le_of_ble_eq_true rfl) (ct_X2_stands (Or.inl rfl) hR1.1 hw.bi) (fun r28 h28 e28 => ?_)
      rcases e28 with ⟨rfl, rfl, hs28⟩ | ⟨rfl, rfl, hs28⟩
      · refine r_ifne_t (tgt := 37) dX6_list_31 (by decide) (by decide) ?_
        refine r_s (pc' := 38) dX6_list_37 rfl rfl ?_
        refine r_gr (pc' := 41) dX6_list_38 rfl fX6_20 (hl_ rfl) rfl rfl ?_
        refine r_s (pc' := 42) dX6_list_41 rfl rfl ?_
        refine r_Vi1 (pc' := 45) dX6_list_42 rfl lX6_139 (hl_ rfl) rfl rfl rfl rfl (Nat.le_of_ble_eq_true rfl) (Nat.le_of_ble_eq_true rfl) (ct_X2_countsNights (Or.inl rfl) hR1.2.1 hw.bn1) (fun r42 h42 e42 => ?_)
        rcases e42 with ⟨rfl, rfl, j42, hj42, rfl⟩ | ⟨rfl, rfl, hn42⟩
        · refine r_ifne_t (tgt := 51) dX6_list_45 (by decide) (by decide) ?_
          refine r_s (pc' := 52) dX6_list_51 rfl rfl ?_
          refine r_gr (pc' := 55) dX6_list_52 rfl fX6_13 (hl_ rfl) rfl rfl ?_
          refine r_s (pc' := 56) dX6_list_55 rfl rfl ?_
          refine r_sald (pc' := 57) dX6_list_56 rfl (hl_ rfl) rfl (vp_in_nI (by omega) (by decide)) (by rw [nI_clamp (by omega : j6 < 2 ^ 31)]; exact isS_r (x := x) (by omega)) ?_
          refine r_s (pc' := 58) dX6_list_57 rfl rfl ?_
          refine r_s (pc' := 60) dX6_list_58 rfl rfl ?_
          refine r_s (pc' := 62) dX6_list_60 rfl rfl ?_
          refine r_Vi3 (pc' := 65) dX6_list_62 rfl lX6_67 ((isS_of (by omega : j6 < 4))).l ((isS_of (by omega : j6 < 4))).K rfl rfl rfl (Nat.le_of_ble_eq_true rfl) (Nat.le_of_ble_eq_true rfl) (ct_X3_faultOfRow (isS_of hj6) (hSh1 _ hj6).Q (hWh _ hj6)) (fun r62 h62 e62 => ?_)
          rcases e62 with ⟨rfl, rfl, heta⟩ | ⟨rfl, rfl, a, sz, fc, heta, hne⟩ | ⟨rfl, rfl, a, sz, fc, heta, hln, hm0⟩ | ⟨rfl, rfl, a, sz, fc, heta, hln, hm0, hro⟩ | ⟨rfl, rfl, a, sz, fc, f1, m1, heta, hln, hle, rfl, rfl⟩
          · refine r_st_6_7 (pc' := 67) dX6_list_65 rfl rfl rfl ?_
            refine r_s (pc' := 69) dX6_list_67 rfl rfl ?_
            refine r_ifeq_f (pc' := 72) (tgt := 79) dX6_list_69 rfl (by decide) (by decide) ?_
            refine r_s (pc' := 73) dX6_list_72 rfl rfl ?_
            refine r_s (pc' := 75) dX6_list_73 rfl rfl ?_
            refine r_Vi1 (pc' := 78) dX6_list_75 rfl lX6_71 (hl_ rfl) rfl rfl rfl rfl (Nat.le_of_ble_eq_true rfl) (Nat.le_of_ble_eq_true rfl) (ct_X6_faulted (f := 1)) (fun r75 h75 e75 => ?_)
            obtain ⟨rfl, rfl⟩ := e75
            refine r_reti dX6_list_78 rfl (rfl) (Nat.le_of_ble_eq_true rfl) (Nat.le_of_ble_eq_true rfl) ⟨_, rfl, ?_⟩
            have e0 : sp_list ρ η (nI j42) (nI j6) (nI j15) i n = (1, -11) := by
              unfold sp_list
              rw [if_pos (ok_in hj6 (by decide))]
              rw [if_pos (ok_in hj15 (by decide))]
              rw [if_neg (show ¬ zi ρ = 0 by omega)]
              rw [if_pos (ok_in hj42 hw.bn1)]
              rw [ix_nI (show j6 < 2 ^ 31 by omega), heta]
            exact ⟨_, rfl, (fun q hq => by rw [up_o (by omega), up_o (by omega)]), by rw [e0]; exact (hC.upf 0).upf 1, by rw [e0]; rfl⟩
          · refine r_st_6_7 (pc' := 67) dX6_list_65 rfl rfl rfl ?_
            refine r_s (pc' := 69) dX6_list_67 rfl rfl ?_
            refine r_ifeq_f (pc' := 72) (tgt := 79) dX6_list_69 rfl (by decide) (by decide) ?_
            refine r_s (pc' := 73) dX6_list_72 rfl rfl ?_
            refine r_s (pc' := 75) dX6_list_73 rfl rfl ?_
            refine r_Vi1 (pc' := 78) dX6_list_75 rfl lX6_71 (hl_ rfl) rfl rfl rfl rfl (Nat.le_of_ble_eq_true rfl) (Nat.le_of_ble_eq_true rfl) (ct_X6_faulted (f := 2)) (fun r75 h75 e75 => ?_)
            obtain ⟨rfl, rfl⟩ := e75
            refine r_reti dX6_list_78 rfl (rfl) (Nat.le_of_ble_eq_true rfl) (Nat.le_of_ble_eq_true rfl) ⟨_, rfl, ?_⟩
            have e0 : sp_list ρ η (nI j42) (nI j6) (nI j15) i n = (2, -12) := by
              unfold sp_list
              rw [if_pos (ok_in hj6 (by decide))]
              rw [if_pos (ok_in hj15 (by decide))]
              rw [if_neg (show ¬ zi ρ = 0 by omega)]
              rw [if_pos (ok_in hj42 hw.bn1)]
              rw [ix_nI (show j6 < 2 ^ 31 by omega), heta]
              exact if_neg hne
            exact ⟨_, rfl, (fun q hq => by rw [up_o (by omega), up_o (by omega)]), by rw [e0]; exact (hC.upf 0).upf 2, by rw [e0]; rfl⟩
          · refine r_st_6_7 (pc' := 67) dX6_list_65 rfl rfl rfl ?_
            refine r_s (pc' := 69) dX6_list_67 rfl rfl ?_
            refine r_ifeq_f (pc' := 72) (tgt := 79) dX6_list_69 rfl (by decide) (by decide) ?_
            refine r_s (pc' := 73) dX6_list_72 rfl rfl ?_
            refine r_s (pc' := 75) dX6_list_73 rfl rfl ?_
            refine r_Vi1 (pc' := 78) dX6_list_75 rfl lX6_71 (hl_ rfl) rfl rfl rfl rfl (Nat.le_of_ble_eq_true rfl) (Nat.le_of_ble_eq_true rfl) (ct_X6_faulted (f := 4)) (fun r75 h75 e75 => ?_)
            obtain ⟨rfl, rfl⟩ := e75
            refine r_reti dX6_list_78 rfl (rfl) (Nat.le_of_ble_eq_true rfl) (Nat.le_of_ble_eq_true rfl) ⟨_, rfl, ?_⟩
            have e0 : sp_list ρ η (nI j42) (nI j6) (nI j15) i n = (4, -14) := by
              unfold sp_list
              rw [if_pos (ok_in hj6 (by decide))]
              rw [if_pos (ok_in hj15 (by decide))]
              rw [if_neg (show ¬ zi ρ = 0 by omega)]
              rw [if_pos (ok_in hj42 hw.bn1)]
              rw [ix_nI (show j6 < 2 ^ 31 by omega), heta]
              exact (if_pos hln.symm).trans (if_pos hm0)
            exact ⟨_, rfl, (fun q hq => by rw [up_o (by omega), up_o (by omega)]), by rw [e0]; exact (hC.upf 0).upf 4, by rw [e0]; rfl⟩
          · refine r_st_6_7 (pc' := 67) dX6_list_65 rfl rfl rfl ?_
            refine r_s (pc' := 69) dX6_list_67 rfl rfl ?_
            refine r_ifeq_f (pc' := 72) (tgt := 79) dX6_list_69 rfl (by decide) (by decide) ?_
            refine r_s (pc' := 73) dX6_list_72 rfl rfl ?_
            refine r_s (pc' := 75) dX6_list_73 rfl rfl ?_
            refine r_Vi1 (pc' := 78) dX6_list_75 rfl lX6_71 (hl_ rfl) rfl rfl rfl rfl (Nat.le_of_ble_eq_true rfl) (Nat.le_of_ble_eq_true rfl) (ct_X6_faulted (f := 3)) (fun r75 h75 e75 => ?_)
            obtain ⟨rfl, rfl⟩ := e75
            refine r_reti dX6_list_78 rfl (rfl) (Nat.le_of_ble_eq_true rfl) (Nat.le_of_ble_eq_true rfl) ⟨_, rfl, ?_⟩
            have e0 : sp_list ρ η (nI j42) (nI j6) (nI j15) i n = (3, -13) := by
              unfold sp_list
              rw [if_pos (ok_in hj6 (by decide))]
              rw [if_pos (ok_in hj15 (by decide))]
              rw [if_neg (show ¬ zi ρ = 0 by omega)]
              rw [if_pos (ok_in hj42 hw.bn1)]
              rw [ix_nI (show j6 < 2 ^ 31 by omega), heta]
              exact (if_pos hln.symm).trans ((if_neg hm0).trans (by rw [hro]; rfl))
            exact ⟨_, rfl, (fun q hq => by rw [up_o (by omega), up_o (by omega)]), by rw [e0]; exact (hC.upf 0).upf 3, by rw [e0]; rfl⟩
          · refine r_st_6_7 (pc' := 67) dX6_list_65 rfl rfl rfl ?_
            refine r_s (pc' := 69) dX6_list_67 rfl rfl ?_
            refine r_ifeq_t (tgt := 79) dX6_list_69 (by decide) (by decide) ?_
            have hbd := hWh _ hj6 a sz fc heta
            have hro : rowok sz (nI f1) (nI m1) = true := by
              unfold rowok; rw [nI_toInt (by omega), nI_toInt (by omega)]; exact decide_eq_true (by omega)
            have hs62 := hSh1 _ hj6
            rw [heta] at hs62
            refine r_s (pc' := 81) dX6_list_79 rfl rfl ?_
            refine r_s (pc' := 82) dX6_list_81 rfl rfl ?_
            refine r_gr (pc' := 85) dX6_list_82 rfl fX6_20 (hl_ rfl) rfl rfl ?_
            refine h_gi (pc' := 88) dX6_list_85 rfl fX6_94 (hl_ rfl) rfl ?_
            refine r_top (hR1.2.2.1) ?_
            refine r_cle (pc' := 91) (tgt := 94) dX6_list_88 rfl (by decide) (fun c88 => ?_) (fun c88 => ?_)
            · have hmg : m1 ≤ zg ρ := (nI_leI (by omega) (by omega)).mp c88
              refine r_s (pc' := 95) dX6_list_94 rfl rfl ?_
              refine r_s (pc' := 96) dX6_list_95 rfl rfl ?_
              refine r_s (pc' := 97) dX6_list_96 rfl rfl ?_
              refine r_gr (pc' := 100) dX6_list_97 rfl fX6_13 (hl_ rfl) rfl rfl ?_
              refine r_s (pc' := 101) dX6_list_100 rfl rfl ?_
              refine r_sald (pc' := 102) dX6_list_101 rfl (hl_ rfl) rfl (vp_in_nI (by omega) (by decide)) (by rw [nI_clamp (by omega : j6 < 2 ^ 31)]; exact isS_r (x := x) (by omega)) ?_
              refine r_s (pc' := 104) dX6_list_102 rfl rfl ?_
              refine r_s (pc' := 106) dX6_list_104 rfl rfl ?_
              refine r_Vi4 (pc' := 109) dX6_list_106 rfl lX6_157 (hl_ rfl) rfl rfl rfl rfl (Nat.le_of_ble_eq_true rfl) (Nat.le_of_ble_eq_true rfl) (ct_X6_firstElsewhere (f := fc) hR1 hrm1 hw (by omega) (by omega) hj6 (by omega) hmg (fun j hj => (hs62.2.2 j (by omega)))) (fun r106 h106 e106 => ?_)
              obtain ⟨I1, rfl, g2, rfl⟩ := e106
              refine r_reti dX6_list_109 rfl (rfl) (Nat.le_of_ble_eq_true rfl) (Nat.le_of_ble_eq_true rfl) ⟨_, rfl, ?_⟩
              have e0 : sp_list ρ η (nI j42) (nI j6) (nI j15) (nI f1) (nI m1) = (0, lsI ρ j42 f1 m1 fc) := by
                unfold sp_list
                rw [if_pos (ok_in hj6 (by decide))]
                rw [if_pos (ok_in hj15 (by decide))]
                rw [if_neg (show ¬ zi ρ = 0 by omega)]
                rw [if_pos (ok_in hj42 hw.bn1)]
                rw [ix_nI (show j6 < 2 ^ 31 by omega), heta]
                exact (if_pos hln.symm).trans ((if_neg (nI_pos (by omega))).trans ((if_pos hro).trans (by rw [if_pos (ok_in (show m1 < zg ρ + 1 by omega) (by omega)), ix_nI (show j42 < 2 ^ 31 by omega), ix_nI (show f1 < 2 ^ 31 by omega), ix_nI (show m1 < 2 ^ 31 by omega)])))
              exact ⟨_, rfl, (fun q hq => by rw [g2 q (by omega), up_o (by omega)]), by rw [e0]; exact (hC.upf 0).frN g2, by rw [e0]⟩
            · refine r_c (pc' := 93) dX6_list_91 rfl kc_bipush_m2 ?_
              refine r_reti dX6_list_93 rfl (rfl) (Nat.le_of_ble_eq_true rfl) (Nat.le_of_ble_eq_true rfl) ⟨_, rfl, ?_⟩
              have e0 : sp_list ρ η (nI j42) (nI j6) (nI j15) (nI f1) (nI m1) = (0, -2) := by
                unfold sp_list
                rw [if_pos (ok_in hj6 (by decide))]
                rw [if_pos (ok_in hj15 (by decide))]
                rw [if_neg (show ¬ zi ρ = 0 by omega)]
                rw [if_pos (ok_in hj42 hw.bn1)]
                rw [ix_nI (show j6 < 2 ^ 31 by omega), heta]
                exact (if_pos hln.symm).trans ((if_neg (nI_pos (by omega))).trans ((if_pos hro).trans (by rw [ok_no (by omega) (fun j hj e => c88 (by rw [e]; exact nI_le (by omega) (by omega)))]; rfl)))
              exact ⟨_, rfl, (fun q hq => up_o (by omega)), by rw [e0]; exact hC.upf 0, by rw [e0]⟩
        · refine r_ifne_f (pc' := 48) (tgt := 51) dX6_list_45 rfl (by decide) (by decide) ?_
          refine r_c (pc' := 50) dX6_list_48 rfl kc_bipush_m2 ?_
          refine r_reti dX6_list_50 rfl (rfl) (Nat.le_of_ble_eq_true rfl) (Nat.le_of_ble_eq_true rfl) ⟨_, rfl, ?_⟩
          have e0 : sp_list ρ η nn (nI j6) (nI j15) i n = (0, -2) := by
            unfold sp_list
            rw [if_pos (ok_in hj6 (by decide))]
            rw [if_pos (ok_in hj15 (by decide))]
            rw [if_neg (show ¬ zi ρ = 0 by omega)]
            rw [ok_no hw.bn1 hn42]; rfl
          exact ⟨_, rfl, (fun q hq => up_o (by omega)), by rw [e0]; exact hC.upf 0, by rw [e0]⟩
      · refine r_ifne_f (pc' := 34) (tgt := 37) dX6_list_31 rfl (by decide) (by decide) ?_
        refine r_c (pc' := 36) dX6_list_34 rfl kc_bipush_m3 ?_
        refine r_reti dX6_list_36 rfl (rfl) (Nat.le_of_ble_eq_true rfl) (Nat.le_of_ble_eq_true rfl) ⟨_, rfl, ?_⟩
        have e0 : sp_list ρ η nn (nI j6) (nI j15) i n = (0, -3) := by
          unfold sp_list
          rw [if_pos (ok_in hj6 (by decide))]
          rw [if_pos (ok_in hj15 (by decide))]
          rw [if_pos (show zi ρ = 0 by omega)]
        exact ⟨_, rfl, (fun q hq => up_o (by omega)), by rw [e0]; exact hC.upf 0, by rw [e0]⟩
    · refine r_ifne_f (pc' := 21) (tgt := 24) dX6_list_18 rfl (by decide) (by decide) ?_
      refine r_c (pc' := 23) dX6_list_21 rfl kc_bipush_m2 ?_
      refine r_reti dX6_list_23 rfl (rfl) (Nat.le_of_ble_eq_true rfl) (Nat.le_of_ble_eq_true rfl) ⟨_, rfl, ?_⟩
      have e0 : sp_list ρ η nn (nI j6) ln i n = (0, -2) := by
        unfold sp_list
        rw [if_pos (ok_in hj6 (by decide))]
        rw [ok_no (by decide) hn15]; rfl
      exact ⟨_, rfl, (fun q hq => up_o (by omega)), by rw [e0]; exact hC.upf 0, by rw [e0]⟩
  · refine r_ifne_f (pc' := 12) (tgt := 14) dX6_list_9 rfl (by decide) (by decide) ?_
    refine r_c (pc' := 13) dX6_list_12 rfl kc_iconst_m1 ?_
    refine r_reti dX6_list_13 rfl (rfl) (Nat.le_of_ble_eq_true rfl) (Nat.le_of_ble_eq_true rfl) ⟨_, rfl, ?_⟩
    have e0 : sp_list ρ η nn k ln i n = (0, -1) := by
      unfold sp_list
      rw [ok_no (by decide) hn6]; rfl
    exact ⟨_, rfl, (fun q hq => up_o (by omega)), by rw [e0]; exact hC.upf 0, by rw [e0]⟩
