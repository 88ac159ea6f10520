set_option maxHeartbeats 4000000 in
set_option maxRecDepth 100000 in
theorem fin_sweepM {d : Nat} {x : hX} {I : Nat → Nat → Int32} {ρ : zR} {δ : zD} {η : zH} {ft tr : Int32} {j i b v : Nat} (hM : MI I (ρ, δ, η, ft, tr)) (hW : WF (ρ, δ, η, ft, tr)) (hj : j < zi ρ) (hi : i < zi ρ) (hne : j ≠ i) (ei : i = if b = 1 then j + 1 else j - 1) (hn : (b = 1 ∧ j + 1 < zi ρ) ∨ (b = 0 ∧ 0 < j)) (hv : v ≤ 9) : sm_wp (sm_c (d + 1)) 0 0 MX7_sweep (qi (fun r h' => ∃ I', h' = hp x I' ∧ (∀ q, q < 80 → I' q = I q) ∧ MI I' ((sp_sweep ρ (nI j) b (nI v)).1, δ, η, ft, tr) ∧ r = (sp_sweep ρ (nI j) b (nI v)).2)) 46 [.ref 80, .int (nI j), .int (nI b), .int (nI v), .int (nI i)] [] (hp x I) 0 0 := by
  have hR : isMd I ρ := hM.R
  have hw : wfR ρ := hW.1
  have b6 : zi ρ ≤ 6 := hw.1
  have b8 : zn ρ ≤ 8 := hw.2.1
  have bg : zg ρ ≤ 8 := hw.2.2.1
  have d8 : δ.1 ≤ 8 := hW.2.1.1
  have e3 : sp_sweep ρ (nI j) b (nI v) = (wsn ρ (swp (zs ρ) j i v), nI (swc (zs ρ) j i v)) := by rw [sp_sweep, if_pos (ok_in hj hw.bi), ix_nI (by omega), if_pos hn, if_pos (ok_in (by omega) (by decide)), ix_nI (by omega), ← ei]
  refine r_s (pc' := 47) dX7_sweep_46 rfl rfl ?_
  refine r_s (pc' := 48) dX7_sweep_47 rfl rfl ?_
  refine r_s (pc' := 50) dX7_sweep_48 rfl rfl ?_
  refine r_s (pc' := 51) dX7_sweep_50 rfl rfl ?_
  refine r_Vi3 (pc' := 54) dX7_sweep_51 rfl lX7_175 (hl_ rfl) rfl rfl rfl rfl (Nat.le_of_ble_eq_true rfl) (Nat.le_of_ble_eq_true rfl) (ct_X7_swept (by omega) (by omega) hne (hR.s _ hj) (hR.s _ hi) (hw.s9 hj) (hw.s9 hi) hv) (fun r51 h51 e51 => ?_)
  obtain ⟨rfl, rfl⟩ := e51
  refine r_goto (tgt := 59) dX7_sweep_54 (by decide) ?_
  refine r_reti dX7_sweep_59 rfl (rfl) (Nat.le_of_ble_eq_true rfl) (Nat.le_of_ble_eq_true rfl) ⟨_, rfl, ?_⟩
  refine ⟨_, rfl, fun q hq => by rw [up_o (by omega), up_o (by omega)], ?_, ?_⟩
  · rw [e3]; exact hM.putR (hR.swp j i v hne) (fun z hz => by rw [up_o (by decide), up_o (by decide)]) (fun r h1 h2 => by rw [up_o (by omega), up_o (by omega)])
  · rw [e3]; rfl

set_option maxHeartbeats 4000000 in
set_option maxRecDepth 100000 in
theorem pm_sweep {d : Nat} {x : hX} {I : Nat → Nat → Int32} {ρ : zR} {δ : zD} {η : zH} {ft tr : Int32} {k v : Int32} {b : Nat} (hM : MI I (ρ, δ, η, ft, tr)) (hW : WF (ρ, δ, η, ft, tr)) (hb : b ≤ 1) : ci (d + 3) MX7_sweep [.ref 80, .int k, .int (nI b), .int v] (hp x I) (fun r h' => ∃ I', h' = hp x I' ∧ (∀ q, q < 80 → I' q = I q) ∧ MI I' ((sp_sweep ρ k b v).1, δ, η, ft, tr) ∧ r = (sp_sweep ρ k b v).2) := by
  have hR : isMd I ρ := hM.R
  have hw : wfR ρ := hW.1
  have b6 : zi ρ ≤ 6 := hw.1
  have b8 : zn ρ ≤ 8 := hw.2.1
  have bg : zg ρ ≤ 8 := hw.2.2.1
  have d8 : δ.1 ≤ 8 := hW.2.1.1
  refine c_in (L := [.ref 80, .int k, .int (nI b), .int v, .null]) rfl rfl ?_
  refine r_s (pc' := 1) dX7_sweep_0 rfl rfl ?_
  refine r_ifeq (pc' := 4) (tgt := 10) dX7_sweep_1 rfl (by decide) (fun c1 => ?_) (fun c1 => ?_)
  · refine r_s (pc' := 11) dX7_sweep_10 rfl rfl ?_
    refine r_c (pc' := 12) dX7_sweep_11 rfl kc_iconst_1 ?_
    refine r_s (pc' := 13) dX7_sweep_12 rfl rfl ?_
    refine r_st_4_5 (pc' := 15) dX7_sweep_13 rfl rfl rfl ?_
    refine r_s (pc' := 16) dX7_sweep_15 rfl rfl ?_
    refine r_s (pc' := 17) dX7_sweep_16 rfl rfl ?_
    refine r_Vi1 (pc' := 20) dX7_sweep_17 rfl lX7_159 (hl_ rfl) rfl rfl rfl rfl (Nat.le_of_ble_eq_true rfl) (Nat.le_of_ble_eq_true rfl) (ct_X7_noInn hR.1 hw.bi) (fun r17 h17 e17 => ?_)
    rcases e17 with ⟨rfl, rfl, j17, hj17, rfl⟩ | ⟨rfl, rfl, hn17⟩
    · have ht : (b = 1 ∧ nI j17 - 1 = nI j17 + 1) ∨ (b = 0 ∧ nI j17 - 1 = nI j17 - 1) := Or.inr ⟨(nI_eq (by omega) (by omega)).mp (c1 : nI b = nI 0), rfl⟩
      refine r_ifne_f (pc' := 23) (tgt := 32) dX7_sweep_20 rfl (by decide) (by decide) ?_
      refine r_s (pc' := 24) dX7_sweep_23 rfl rfl ?_
      refine r_s (pc' := 26) dX7_sweep_24 rfl rfl ?_
      refine r_Vi1 (pc' := 29) dX7_sweep_26 rfl lX7_159 (hl_ rfl) rfl rfl rfl rfl (Nat.le_of_ble_eq_true rfl) (Nat.le_of_ble_eq_true rfl) (ct_X7_noInn hR.1 hw.bi) (fun r26 h26 e26 => ?_)
      rcases e26 with ⟨rfl, rfl, j26, hj26, hk26⟩ | ⟨rfl, rfl, hn26⟩
      · refine r_ifeq_t (tgt := 34) dX7_sweep_29 (by decide) (by decide) ?_
        refine r_s (pc' := 35) dX7_sweep_34 rfl rfl ?_
        refine r_s (pc' := 36) dX7_sweep_35 rfl rfl ?_
        refine r_c (pc' := 37) dX7_sweep_36 rfl kc_lconst_0 ?_
        refine r_ldc2 (pc' := 40) dX7_sweep_37 rfl kX7_173 ?_
        refine r_topl (show (9 : Int64) = lN 9 from rfl) ?_
        refine r_Si3 (pc' := 43) dX7_sweep_40 rfl lX7_89 rfl (Nat.le_of_ble_eq_true rfl) (Nat.le_of_ble_eq_true rfl) (ct_in_m (n := 9) (by decide)) (fun r40 h40 e40 => ?_)
        rcases e40 with ⟨rfl, rfl, j40, hj40, rfl⟩ | ⟨rfl, rfl, hn40⟩
        · refine r_ifeq_f (pc' := 46) (tgt := 57) dX7_sweep_43 rfl (by decide) (by decide) ?_
          rcases sweep_to hj17 b6 ht with ⟨i, hi, e, e2, hn⟩ | ⟨hn, -⟩
          rotate_left
          · exact absurd hk26 (hn _ hj26)
          rw [e]
          clear hk26 ht e
          have hne : j17 ≠ i := by (rw [e2]; split <;> omega)
          exact fin_sweepM hM hW hj17 hi hne e2 hn (by omega)
        · refine r_ifeq_t (tgt := 57) dX7_sweep_43 (by decide) (by decide) ?_
          refine r_c (pc' := 59) dX7_sweep_57 rfl kc_bipush_m2 ?_
          refine r_reti dX7_sweep_59 rfl (rfl) (Nat.le_of_ble_eq_true rfl) (Nat.le_of_ble_eq_true rfl) ⟨_, rfl, ?_⟩
          rcases sweep_to hj17 b6 ht with ⟨i, hi, e, e2, hn⟩ | ⟨hn, -⟩
          rotate_left
          · exact absurd hk26 (hn _ hj26)
          exact ⟨I, rfl, fun _ _ => rfl, by rw [show sp_sweep ρ (nI j17) b v = (ρ, -2) by rw [sp_sweep, if_pos (ok_in hj17 hw.bi), ix_nI (by omega), if_pos hn, ok_no (by decide) hn40]; rfl]; exact hM, by rw [show sp_sweep ρ (nI j17) b v = (ρ, -2) by rw [sp_sweep, if_pos (ok_in hj17 hw.bi), ix_nI (by omega), if_pos hn, ok_no (by decide) hn40]; rfl]⟩
      · refine r_ifeq_f (pc' := 32) (tgt := 34) dX7_sweep_29 rfl (by decide) (by decide) ?_
        refine r_c (pc' := 33) dX7_sweep_32 rfl kc_iconst_m1 ?_
        refine r_reti dX7_sweep_33 rfl (rfl) (Nat.le_of_ble_eq_true rfl) (Nat.le_of_ble_eq_true rfl) ⟨_, rfl, ?_⟩
        rcases sweep_to hj17 b6 ht with ⟨i, hi, e, -⟩ | ⟨-, hn⟩
        · exact absurd e (hn26 i hi)
        · exact ⟨I, rfl, fun _ _ => rfl, by rw [show sp_sweep ρ (nI j17) b v = (ρ, -1) by rw [sp_sweep, if_pos (ok_in hj17 hw.bi), ix_nI (by omega), if_neg hn]]; exact hM, by rw [show sp_sweep ρ (nI j17) b v = (ρ, -1) by rw [sp_sweep, if_pos (ok_in hj17 hw.bi), ix_nI (by omega), if_neg hn]]⟩
    · refine r_ifne_t (tgt := 32) dX7_sweep_20 (by decide) (by decide) ?_
      refine r_c (pc' := 33) dX7_sweep_32 rfl kc_iconst_m1 ?_
      refine r_reti dX7_sweep_33 rfl (rfl) (Nat.le_of_ble_eq_true rfl) (Nat.le_of_ble_eq_true rfl) ⟨_, rfl, ?_⟩
      exact ⟨I, rfl, fun _ _ => rfl, by rw [show sp_sweep ρ k b v = (ρ, -1) by rw [sp_sweep, ok_no hw.bi hn17]; rfl]; exact hM, by rw [show sp_sweep ρ k b v = (ρ, -1) by rw [sp_sweep, ok_no hw.bi hn17]; rfl]⟩
  · refine r_s (pc' := 5) dX7_sweep_4 rfl rfl ?_
    refine r_c (pc' := 6) dX7_sweep_5 rfl kc_iconst_1 ?_
    refine r_s (pc' := 7) dX7_sweep_6 rfl rfl ?_
    refine r_goto (tgt := 13) dX7_sweep_7 (by decide) ?_
    refine r_st_4_5 (pc' := 15) dX7_sweep_13 rfl rfl rfl ?_
    refine r_s (pc' := 16) dX7_sweep_15 rfl rfl ?_
    refine r_s (pc' := 17) dX7_sweep_16 rfl rfl ?_
    refine r_Vi1 (pc' := 20) dX7_sweep_17 rfl lX7_159 (hl_ rfl) rfl rfl rfl rfl (Nat.le_of_ble_eq_true rfl) (Nat.le_of_ble_eq_true rfl) (ct_X7_noInn hR.1 hw.bi) (fun r17 h17 e17 => ?_)
    rcases e17 with ⟨rfl, rfl, j17, hj17, rfl⟩ | ⟨rfl, rfl, hn17⟩
    · have ht : (b = 1 ∧ nI j17 + 1 = nI j17 + 1) ∨ (b = 0 ∧ nI j17 + 1 = nI j17 - 1) := Or.inl ⟨by have := b01_1 hb c1; exact ((nI_eq (by omega) (by omega)).mp (this.symm : nI b = nI 1)), rfl⟩
      refine r_ifne_f (pc' := 23) (tgt := 32) dX7_sweep_20 rfl (by decide) (by decide) ?_
      refine r_s (pc' := 24) dX7_sweep_23 rfl rfl ?_
      refine r_s (pc' := 26) dX7_sweep_24 rfl rfl ?_
      refine r_Vi1 (pc' := 29) dX7_sweep_26 rfl lX7_159 (hl_ rfl) rfl rfl rfl rfl (Nat.le_of_ble_eq_true rfl) (Nat.le_of_ble_eq_true rfl) (ct_X7_noInn hR.1 hw.bi) (fun r26 h26 e26 => ?_)
      rcases e26 with ⟨rfl, rfl, j26, hj26, hk26⟩ | ⟨rfl, rfl, hn26⟩
      · refine r_ifeq_t (tgt := 34) dX7_sweep_29 (by decide) (by decide) ?_
        refine r_s (pc' := 35) dX7_sweep_34 rfl rfl ?_
        refine r_s (pc' := 36) dX7_sweep_35 rfl rfl ?_
        refine r_c (pc' := 37) dX7_sweep_36 rfl kc_lconst_0 ?_
        refine r_ldc2 (pc' := 40) dX7_sweep_37 rfl kX7_173 ?_
        refine r_topl (show (9 : Int64) = lN 9 from rfl) ?_
        refine r_Si3 (pc' := 43) dX7_sweep_40 rfl lX7_89 rfl (Nat.le_of_ble_eq_true rfl) (Nat.le_of_ble_eq_true rfl) (ct_in_m (n := 9) (by decide)) (fun r40 h40 e40 => ?_)
        rcases e40 with ⟨rfl, rfl, j40, hj40, rfl⟩ | ⟨rfl, rfl, hn40⟩
        · refine r_ifeq_f (pc' := 46) (tgt := 57) dX7_sweep_43 rfl (by decide) (by decide) ?_
          rcases sweep_to hj17 b6 ht with ⟨i, hi, e, e2, hn⟩ | ⟨hn, -⟩
          rotate_left
          · exact absurd hk26 (hn _ hj26)
          rw [e]
          clear hk26 ht e
          have hne : j17 ≠ i := by (rw [e2]; split <;> omega)
          exact fin_sweepM hM hW hj17 hi hne e2 hn (by omega)
        · refine r_ifeq_t (tgt := 57) dX7_sweep_43 (by decide) (by decide) ?_
          refine r_c (pc' := 59) dX7_sweep_57 rfl kc_bipush_m2 ?_
          refine r_reti dX7_sweep_59 rfl (rfl) (Nat.le_of_ble_eq_true rfl) (Nat.le_of_ble_eq_true rfl) ⟨_, rfl, ?_⟩
          rcases sweep_to hj17 b6 ht with ⟨i, hi, e, e2, hn⟩ | ⟨hn, -⟩
          rotate_left
          · exact absurd hk26 (hn _ hj26)
          exact ⟨I, rfl, fun _ _ => rfl, by rw [show sp_sweep ρ (nI j17) b v = (ρ, -2) by rw [sp_sweep, if_pos (ok_in hj17 hw.bi), ix_nI (by omega), if_pos hn, ok_no (by decide) hn40]; rfl]; exact hM, by rw [show sp_sweep ρ (nI j17) b v = (ρ, -2) by rw [sp_sweep, if_pos (ok_in hj17 hw.bi), ix_nI (by omega), if_pos hn, ok_no (by decide) hn40]; rfl]⟩
      · refine r_ifeq_f (pc' := 32) (tgt := 34) dX7_sweep_29 rfl (by decide) (by decide) ?_
        refine r_c (pc' := 33) dX7_sweep_32 rfl kc_iconst_m1 ?_
        refine r_reti dX7_sweep_33 rfl (rfl) (Nat.le_of_ble_eq_true rfl) (Nat.le_of_ble_eq_true rfl) ⟨_, rfl, ?_⟩
        rcases sweep_to hj17 b6 ht with ⟨i, hi, e, -⟩ | ⟨-, hn⟩
        · exact absurd e (hn26 i hi)
        · exact ⟨I, rfl, fun _ _ => rfl, by rw [show sp_sweep ρ (nI j17) b v = (ρ, -1) by rw [sp_sweep, if_pos (ok_in hj17 hw.bi), ix_nI (by omega), if_neg hn]]; exact hM, by rw [show sp_sweep ρ (nI j17) b v = (ρ, -1) by rw [sp_sweep, if_pos (ok_in hj17 hw.bi), ix_nI (by omega), if_neg hn]]⟩
    · refine r_ifne_t (tgt := 32) dX7_sweep_20 (by decide) (by decide) ?_
      refine r_c (pc' := 33) dX7_sweep_32 rfl kc_iconst_m1 ?_
      refine r_reti dX7_sweep_33 rfl (rfl) (Nat.le_of_ble_eq_true rfl) (Nat.le_of_ble_eq_true rfl) ⟨_, rfl, ?_⟩
      exact ⟨I, rfl, fun _ _ => rfl, by rw [show sp_sweep ρ k b v = (ρ, -1) by rw [sp_sweep, ok_no hw.bi hn17]; rfl]; exact hM, by rw [show sp_sweep ρ k b v = (ρ, -1) by rw [sp_sweep, ok_no hw.bi hn17]; rfl]⟩

set_option maxHeartbeats 4000000 in
set_option maxRecDepth 100000 in
theorem fin_tell0 {d : Nat} {x : hX} {I : Nat → Nat → Int32} {j s : Nat} {tr : Int32} (hj : j < 6) (hk : I 81 j = nI 0) (hs : I 82 j = nI s) (ht : I 80 33 = tr) : sm_wp (sm_c (d + 1)) 0 0 MX7_tell (qi (fun r h' => (∃ I', h' = hp x I' ∧ I' 80 33 = bt_ 1 tr ∧ (∀ i, i ≠ 33 → I' 80 i = I 80 i) ∧ (∀ q, q ≠ 80 → I' q = I q)) ∧ r = nI s)) 10 [.ref 80, .int (nI j), .null, .null] [] (hp x I) 0 0 := by
  refine r_s (pc' := 11) dX7_tell_10 rfl rfl ?_
  refine r_gr (pc' := 14) dX7_tell_11 rfl fX7_7 (hl_ rfl) rfl rfl ?_
  refine r_s (pc' := 15) dX7_tell_14 rfl rfl ?_
  refine h_ald (pc' := 16) dX7_tell_15 rfl (hl_ rfl) rfl (vp_in_nI (by omega) (by decide)) (nI_clamp (by omega)) ?_
  refine r_top (hk) ?_
  refine r_st_2_4 (pc' := 17) dX7_tell_16 rfl rfl rfl ?_
  refine r_s (pc' := 18) dX7_tell_17 rfl rfl ?_
  refine r_c (pc' := 19) dX7_tell_18 rfl kc_iconst_2 ?_
  refine r_cne_t (tgt := 27) dX7_tell_19 (by decide) (by decide) ?_
  refine r_s (pc' := 28) dX7_tell_27 rfl rfl ?_
  refine r_ifle_t (tgt := 36) dX7_tell_28 (by decide) (by decide) ?_
  refine r_s (pc' := 37) dX7_tell_36 rfl rfl ?_
  refine r_c (pc' := 38) dX7_tell_37 rfl kc_iconst_1 ?_
  refine r_Vv1 (pc' := 41) dX7_tell_38 rfl lX7_241 (hl_ rfl) rfl rfl rfl rfl (Nat.le_of_ble_eq_true rfl) (Nat.le_of_ble_eq_true rfl) (ct_X7_traced (n := 1)) (fun h38 e38 => ?_)
  obtain rfl := e38
  refine r_s (pc' := 42) dX7_tell_41 rfl rfl ?_
  refine r_c (pc' := 43) dX7_tell_42 rfl kc_iconst_2 ?_
  refine r_cne_t (tgt := 51) dX7_tell_43 (by decide) (by decide) ?_
  refine r_s (pc' := 52) dX7_tell_51 rfl rfl ?_
  refine r_gr (pc' := 55) dX7_tell_52 rfl fX7_13 (hl_ rfl) rfl rfl ?_
  refine r_s (pc' := 56) dX7_tell_55 rfl rfl ?_
  refine h_ald (pc' := 57) dX7_tell_56 rfl (hl_ rfl) rfl (vp_in_nI (by omega) (by decide)) (nI_clamp (by omega)) ?_
  refine r_top ((show _ = nI s by rw [up_o (by decide)]; exact hs)) ?_
  refine r_st_3_4 (pc' := 58) dX7_tell_57 rfl rfl rfl ?_
  refine r_s (pc' := 59) dX7_tell_58 rfl rfl ?_
  refine r_ifne_f (pc' := 62) (tgt := 66) dX7_tell_59 rfl (by decide) (by decide) ?_
  refine r_s (pc' := 63) dX7_tell_62 rfl rfl ?_
  refine r_goto (tgt := 84) dX7_tell_63 (by decide) ?_
  refine r_reti dX7_tell_84 rfl (rfl) (Nat.le_of_ble_eq_true rfl) (Nat.le_of_ble_eq_true rfl) ⟨_, rfl, ?_⟩
  refine ⟨⟨_, rfl, ?_, fun i hi => ?_, fun q hq => ?_⟩, rfl⟩
  · rw [up_s, ht]
  · rw [up_n hi]
  · rw [up_o hq]

set_option maxHeartbeats 4000000 in
set_option maxRecDepth 100000 in
theorem fin_tell1 {d : Nat} {x : hX} {I : Nat → Nat → Int32} {j s : Nat} {tr : Int32} (hj : j < 6) (hk : I 81 j = nI 1) (hs : I 82 j = nI s) (ht : I 80 33 = tr) : sm_wp (sm_c (d + 1)) 0 0 MX7_tell (qi (fun r h' => (∃ I', h' = hp x I' ∧ I' 80 33 = bt_ 1 (bt_ 2 tr) ∧ (∀ i, i ≠ 33 → I' 80 i = I 80 i) ∧ (∀ q, q ≠ 80 → I' q = I q)) ∧ r = nI (s + 100))) 10 [.ref 80, .int (nI j), .null, .null] [] (hp x I) 0 0 := by
  refine r_s (pc' := 11) dX7_tell_10 rfl rfl ?_
  refine r_gr (pc' := 14) dX7_tell_11 rfl fX7_7 (hl_ rfl) rfl rfl ?_
  refine r_s (pc' := 15) dX7_tell_14 rfl rfl ?_
  refine h_ald (pc' := 16) dX7_tell_15 rfl (hl_ rfl) rfl (vp_in_nI (by omega) (by decide)) (nI_clamp (by omega)) ?_
  refine r_top (hk) ?_
  refine r_st_2_4 (pc' := 17) dX7_tell_16 rfl rfl rfl ?_
  refine r_s (pc' := 18) dX7_tell_17 rfl rfl ?_
  refine r_c (pc' := 19) dX7_tell_18 rfl kc_iconst_2 ?_
  refine r_cne_t (tgt := 27) dX7_tell_19 (by decide) (by decide) ?_
  refine r_s (pc' := 28) dX7_tell_27 rfl rfl ?_
  refine r_ifle_f (pc' := 31) (tgt := 36) dX7_tell_28 rfl (by decide) (by decide) ?_
  refine r_s (pc' := 32) dX7_tell_31 rfl rfl ?_
  refine r_c (pc' := 33) dX7_tell_32 rfl kc_iconst_2 ?_
  refine r_Vv1 (pc' := 36) dX7_tell_33 rfl lX7_241 (hl_ rfl) rfl rfl rfl rfl (Nat.le_of_ble_eq_true rfl) (Nat.le_of_ble_eq_true rfl) (ct_X7_traced (n := 2)) (fun h33 e33 => ?_)
  obtain rfl := e33
  refine r_s (pc' := 37) dX7_tell_36 rfl rfl ?_
  refine r_c (pc' := 38) dX7_tell_37 rfl kc_iconst_1 ?_
  refine r_Vv1 (pc' := 41) dX7_tell_38 rfl lX7_241 (hl_ rfl) rfl rfl rfl rfl (Nat.le_of_ble_eq_true rfl) (Nat.le_of_ble_eq_true rfl) (ct_X7_traced (n := 1)) (fun h38 e38 => ?_)
  obtain rfl := e38
  refine r_s (pc' := 42) dX7_tell_41 rfl rfl ?_
  refine r_c (pc' := 43) dX7_tell_42 rfl kc_iconst_2 ?_
  refine r_cne_t (tgt := 51) dX7_tell_43 (by decide) (by decide) ?_
  refine r_s (pc' := 52) dX7_tell_51 rfl rfl ?_
  refine r_gr (pc' := 55) dX7_tell_52 rfl fX7_13 (hl_ rfl) rfl rfl ?_
  refine r_s (pc' := 56) dX7_tell_55 rfl rfl ?_
  refine h_ald (pc' := 57) dX7_tell_56 rfl (hl_ rfl) rfl (vp_in_nI (by omega) (by decide)) (nI_clamp (by omega)) ?_
  refine r_top ((show _ = nI s by rw [up_o (by decide), up_o (by decide)]; exact hs)) ?_
  refine r_st_3_4 (pc' := 58) dX7_tell_57 rfl rfl rfl ?_
  refine r_s (pc' := 59) dX7_tell_58 rfl rfl ?_
  refine r_ifne_t (tgt := 66) dX7_tell_59 (by decide) (by decide) ?_
  refine r_s (pc' := 67) dX7_tell_66 rfl rfl ?_
  refine r_c (pc' := 68) dX7_tell_67 rfl kc_iconst_1 ?_
  refine r_cne_f (pc' := 71) (tgt := 78) dX7_tell_68 rfl (by decide) (by decide) ?_
  refine r_s (pc' := 72) dX7_tell_71 rfl rfl ?_
  refine r_c (pc' := 74) dX7_tell_72 rfl kc_bipush_100 ?_
  refine r_s (pc' := 75) dX7_tell_74 rfl rfl ?_
  refine r_top (nI_add _ 100) ?_
  refine r_goto (tgt := 84) dX7_tell_75 (by decide) ?_
  refine r_reti dX7_tell_84 rfl (rfl) (Nat.le_of_ble_eq_true rfl) (Nat.le_of_ble_eq_true rfl) ⟨_, rfl, ?_⟩
  refine ⟨⟨_, rfl, ?_, fun i hi => ?_, fun q hq => ?_⟩, rfl⟩
  · rw [up_s, up_s, ht]
  · rw [up_n hi, up_n hi]
  · rw [up_o hq, up_o hq]

set_option maxHeartbeats 4000000 in
set_option maxRecDepth 100000 in
theorem fin_tell2 {d : Nat} {x : hX} {I : Nat → Nat → Int32} {j s : Nat} {tr : Int32} (hj : j < 6) (hk : I 81 j = nI 2) (hs : I 82 j = nI s) (ht : I 80 33 = tr) : sm_wp (sm_c (d + 1)) 0 0 MX7_tell (qi (fun r h' => (∃ I', h' = hp x I' ∧ I' 80 33 = bt_ 1 (bt_ 1 (bt_ 2 (bt_ 3 tr))) ∧ (∀ i, i ≠ 33 → I' 80 i = I 80 i) ∧ (∀ q, q ≠ 80 → I' q = I q)) ∧ r = nI (2 * s + 100))) 10 [.ref 80, .int (nI j), .null, .null] [] (hp x I) 0 0 := by
  refine r_s (pc' := 11) dX7_tell_10 rfl rfl ?_
  refine r_gr (pc' := 14) dX7_tell_11 rfl fX7_7 (hl_ rfl) rfl rfl ?_
  refine r_s (pc' := 15) dX7_tell_14 rfl rfl ?_
  refine h_ald (pc' := 16) dX7_tell_15 rfl (hl_ rfl) rfl (vp_in_nI (by omega) (by decide)) (nI_clamp (by omega)) ?_
  refine r_top (hk) ?_
  refine r_st_2_4 (pc' := 17) dX7_tell_16 rfl rfl rfl ?_
  refine r_s (pc' := 18) dX7_tell_17 rfl rfl ?_
  refine r_c (pc' := 19) dX7_tell_18 rfl kc_iconst_2 ?_
  refine r_cne_f (pc' := 22) (tgt := 27) dX7_tell_19 rfl (by decide) (by decide) ?_
  refine r_s (pc' := 23) dX7_tell_22 rfl rfl ?_
  refine r_c (pc' := 24) dX7_tell_23 rfl kc_iconst_3 ?_
  refine r_Vv1 (pc' := 27) dX7_tell_24 rfl lX7_241 (hl_ rfl) rfl rfl rfl rfl (Nat.le_of_ble_eq_true rfl) (Nat.le_of_ble_eq_true rfl) (ct_X7_traced (n := 3)) (fun h24 e24 => ?_)
  obtain rfl := e24
  refine r_s (pc' := 28) dX7_tell_27 rfl rfl ?_
  refine r_ifle_f (pc' := 31) (tgt := 36) dX7_tell_28 rfl (by decide) (by decide) ?_
  refine r_s (pc' := 32) dX7_tell_31 rfl rfl ?_
  refine r_c (pc' := 33) dX7_tell_32 rfl kc_iconst_2 ?_
  refine r_Vv1 (pc' := 36) dX7_tell_33 rfl lX7_241 (hl_ rfl) rfl rfl rfl rfl (Nat.le_of_ble_eq_true rfl) (Nat.le_of_ble_eq_true rfl) (ct_X7_traced (n := 2)) (fun h33 e33 => ?_)
  obtain rfl := e33
  refine r_s (pc' := 37) dX7_tell_36 rfl rfl ?_
  refine r_c (pc' := 38) dX7_tell_37 rfl kc_iconst_1 ?_
  refine r_Vv1 (pc' := 41) dX7_tell_38 rfl lX7_241 (hl_ rfl) rfl rfl rfl rfl (Nat.le_of_ble_eq_true rfl) (Nat.le_of_ble_eq_true rfl) (ct_X7_traced (n := 1)) (fun h38 e38 => ?_)
  obtain rfl := e38
  refine r_s (pc' := 42) dX7_tell_41 rfl rfl ?_
  refine r_c (pc' := 43) dX7_tell_42 rfl kc_iconst_2 ?_
  refine r_cne_f (pc' := 46) (tgt := 51) dX7_tell_43 rfl (by decide) (by decide) ?_
  refine r_s (pc' := 47) dX7_tell_46 rfl rfl ?_
  refine r_c (pc' := 48) dX7_tell_47 rfl kc_iconst_1 ?_
  refine r_Vv1 (pc' := 51) dX7_tell_48 rfl lX7_241 (hl_ rfl) rfl rfl rfl rfl (Nat.le_of_ble_eq_true rfl) (Nat.le_of_ble_eq_true rfl) (ct_X7_traced (n := 1)) (fun h48 e48 => ?_)
  obtain rfl := e48
  refine r_s (pc' := 52) dX7_tell_51 rfl rfl ?_
  refine r_gr (pc' := 55) dX7_tell_52 rfl fX7_13 (hl_ rfl) rfl rfl ?_
  refine r_s (pc' := 56) dX7_tell_55 rfl rfl ?_
  refine h_ald (pc' := 57) dX7_tell_56 rfl (hl_ rfl) rfl (vp_in_nI (by omega) (by decide)) (nI_clamp (by omega)) ?_
  refine r_top ((show _ = nI s by rw [up_o (by decide), up_o (by decide), up_o (by decide), up_o (by decide)]; exact hs)) ?_
  refine r_st_3_4 (pc' := 58) dX7_tell_57 rfl rfl rfl ?_
  refine r_s (pc' := 59) dX7_tell_58 rfl rfl ?_
  refine r_ifne_t (tgt := 66) dX7_tell_59 (by decide) (by decide) ?_
  refine r_s (pc' := 67) dX7_tell_66 rfl rfl ?_
  refine r_c (pc' := 68) dX7_tell_67 rfl kc_iconst_1 ?_
  refine r_cne_t (tgt := 78) dX7_tell_68 (by decide) (by decide) ?_
  refine r_c (pc' := 79) dX7_tell_78 rfl kc_iconst_2 ?_
  refine r_s (pc' := 80) dX7_tell_79 rfl rfl ?_
  refine r_s (pc' := 81) dX7_tell_80 rfl rfl ?_
  refine r_top (pk_mul 2 _) ?_
  refine r_c (pc' := 83) dX7_tell_81 rfl kc_bipush_100 ?_
  refine r_s (pc' := 84) dX7_tell_83 rfl rfl ?_
  refine r_top (nI_add _ 100) ?_
  refine r_reti dX7_tell_84 rfl (rfl) (Nat.le_of_ble_eq_true rfl) (Nat.le_of_ble_eq_true rfl) ⟨_, rfl, ?_⟩
  refine ⟨⟨_, rfl, ?_, fun i hi => ?_, fun q hq => ?_⟩, rfl⟩
  · rw [up_s, up_s, up_s, up_s, ht]
  · rw [up_n hi, up_n hi, up_n hi, up_n hi]
  · rw [up_o hq, up_o hq, up_o hq, up_o hq]

theorem MI.tr {I I' : Nat → Nat → Int32} {ρ : zR} {δ : zD} {η : zH} {f t v : Int32} (h : MI I (ρ, δ, η, f, t)) (h7 : I' 80 33 = v) (h0 : ∀ i, i ≠ 33 → I' 80 i = I 80 i) (hs : ∀ q, q ≠ 80 → I' q = I q) : MI I' (ρ, δ, η, f, v) := by
  have e : I' = sm_up I 80 33 v := by
    funext q i
    by_cases hq : q = 80
    · subst hq
      by_cases hi : i = 33
      · subst hi; rw [up_s, h7]
      · rw [up_n hi, h0 i hi]
    · rw [up_o hq, hs q hq]
  rw [e]
  exact h.upt v

set_option maxHeartbeats 4000000 in
set_option maxRecDepth 100000 in
theorem pm_tell {d : Nat} {x : hX} {I : Nat → Nat → Int32} {ρ : zR} {δ : zD} {η : zH} {ft tr : Int32} {k : Int32} (hM : MI I (ρ, δ, η, ft, tr)) (hW : WF (ρ, δ, η, ft, tr)) : ci (d + 3) MX7_tell [.ref 80, .int k] (hp x I) (fun r h' => ∃ I', h' = hp x I' ∧ (∀ q, q < 80 → I' q = I q) ∧ MI I' (ρ, δ, η, ft, (sp_tell ρ tr k).1) ∧ r = (sp_tell ρ tr k).2) := by
  have hR : isMd I ρ := hM.R
  have hw : wfR ρ := hW.1
  have b6 : zi ρ ≤ 6 := hw.1
  have b8 : zn ρ ≤ 8 := hw.2.1
  have bg : zg ρ ≤ 8 := hw.2.2.1
  have d8 : δ.1 ≤ 8 := hW.2.1.1
  refine c_in (L := [.ref 80, .int k, .null, .null]) rfl rfl ?_
  refine r_s (pc' := 1) dX7_tell_0 rfl rfl ?_
  refine r_s (pc' := 2) dX7_tell_1 rfl rfl ?_
  refine r_Vi1 (pc' := 5) dX7_tell_2 rfl lX7_159 (hl_ rfl) rfl rfl rfl rfl (Nat.le_of_ble_eq_true rfl) (Nat.le_of_ble_eq_true rfl) (ct_X7_noInn hR.1 hw.bi) (fun r2 h2 e2 => ?_)
  rcases e2 with ⟨rfl, rfl, j2, hj2, rfl⟩ | ⟨rfl, rfl, hn2⟩
  · refine r_ifeq_t (tgt := 10) dX7_tell_5 (by decide) (by decide) ?_
    rcases hw.kd hj2 with kd | kd | kd
    · have e2 : sp_tell ρ tr (nI j2) = (bt_ 1 tr, nI (zs ρ j2)) := by rw [sp_tell, if_pos (ok_in hj2 hw.bi), ix_nI (by omega), if_pos kd]
      rw [e2]
      refine sm_wp_mono ?_ (fin_tell0 (s := zs ρ j2) (tr := tr) (by omega) (by rw [hR.k _ hj2, kd]) (hR.s _ hj2) hM.t)
      rintro r h ⟨v, e, ⟨I1, rfl, a1, a2, a3⟩, rfl⟩
      exact ⟨_, e, I1, rfl, fun q hq => a3 q (by omega), hM.tr a1 a2 a3, rfl⟩
    · have e2 : sp_tell ρ tr (nI j2) = (bt_ 1 (bt_ 2 tr), nI (zs ρ j2 + 100)) := by rw [sp_tell, if_pos (ok_in hj2 hw.bi), ix_nI (by omega), if_neg (by rw [kd]; decide), if_pos kd]
      rw [e2]
      refine sm_wp_mono ?_ (fin_tell1 (s := zs ρ j2) (tr := tr) (by omega) (by rw [hR.k _ hj2, kd]) (hR.s _ hj2) hM.t)
      rintro r h ⟨v, e, ⟨I1, rfl, a1, a2, a3⟩, rfl⟩
      exact ⟨_, e, I1, rfl, fun q hq => a3 q (by omega), hM.tr a1 a2 a3, rfl⟩
    · have e2 : sp_tell ρ tr (nI j2) = (bt_ 1 (bt_ 1 (bt_ 2 (bt_ 3 tr))), nI (2 * zs ρ j2 + 100)) := by rw [sp_tell, if_pos (ok_in hj2 hw.bi), ix_nI (by omega), if_neg (by rw [kd]; decide), if_neg (by rw [kd]; decide)]
      rw [e2]
      refine sm_wp_mono ?_ (fin_tell2 (s := zs ρ j2) (tr := tr) (by omega) (by rw [hR.k _ hj2, kd]) (hR.s _ hj2) hM.t)
      rintro r h ⟨v, e, ⟨I1, rfl, a1, a2, a3⟩, rfl⟩
      exact ⟨_, e, I1, rfl, fun q hq => a3 q (by omega), hM.tr a1 a2 a3, rfl⟩
  · refine r_ifeq_f (pc' := 8) (tgt := 10) dX7_tell_5 rfl (by decide) (by decide) ?_
    refine r_c (pc' := 9) dX7_tell_8 rfl kc_iconst_m1 ?_
    refine r_reti dX7_tell_9 rfl (rfl) (Nat.le_of_ble_eq_true rfl) (Nat.le_of_ble_eq_true rfl) ⟨_, rfl, ?_⟩
    exact ⟨I, rfl, fun _ _ => rfl, by rw [show sp_tell ρ tr k = (tr, -1) by rw [sp_tell, ok_no hw.bi hn2]; rfl]; exact hM, by rw [show sp_tell ρ tr k = (tr, -1) by rw [sp_tell, ok_no hw.bi hn2]; rfl]⟩

set_option maxHeartbeats 4000000 in
set_option maxRecDepth 100000 in
theorem pm_reading {d : Nat} {x : hX} {I : Nat → Nat → Int32} {ρ : zR} {δ : zD} {η : zH} {ft tr : Int32} {g k n : Int32} (hM : MI I (ρ, δ, η, ft, tr)) (hW : WF (ρ, δ, η, ft, tr)) : ci (d + 3) MX7_reading [.ref 80, .int g, .int k, .int n] (hp x I) (fun r h' => ∃ I', h' = hp x I' ∧ (∀ q, q < 80 → I' q = I q) ∧ MI I' (ρ, (sp_reading ρ δ g k n).1, η, ft, tr) ∧ r = (sp_reading ρ δ g k n).2) := by
  have hR : isMd I ρ := hM.R
  have hw : wfR ρ := hW.1
  have b6 : zi ρ ≤ 6 := hw.1
  have b8 : zn ρ ≤ 8 := hw.2.1
  have bg : zg ρ ≤ 8 := hw.2.2.1
  have d8 : δ.1 ≤ 8 := hW.2.1.1
  have hD : isDM I δ := hM.D
  refine c_in (L := [.ref 80, .int g, .int k, .int n]) rfl rfl ?_
  refine r_s (pc' := 1) dX7_reading_0 rfl rfl ?_
  refine r_s (pc' := 2) dX7_reading_1 rfl rfl ?_
  refine r_Vi1 (pc' := 5) dX7_reading_2 rfl lX7_165 (hl_ rfl) rfl rfl rfl rfl (Nat.le_of_ble_eq_true rfl) (Nat.le_of_ble_eq_true rfl) (ct_X7_noGuest hR.2.2.1 hw.bg) (fun r2 h2 e2 => ?_)
  rcases e2 with ⟨rfl, rfl, j2, hj2, rfl⟩ | ⟨rfl, rfl, hn2⟩
  · refine r_ifne_f (pc' := 8) (tgt := 22) dX7_reading_5 rfl (by decide) (by decide) ?_
    refine r_s (pc' := 9) dX7_reading_8 rfl rfl ?_
    refine r_s (pc' := 10) dX7_reading_9 rfl rfl ?_
    refine r_c (pc' := 11) dX7_reading_10 rfl kc_lconst_0 ?_
    refine r_s (pc' := 12) dX7_reading_11 rfl rfl ?_
    refine h_gi (pc' := 15) dX7_reading_12 rfl fX7_86 (hl_ rfl) rfl ?_
    refine r_top (hR.1) ?_
    refine r_s (pc' := 16) dX7_reading_15 rfl rfl ?_
    refine r_topl (nI_l (by omega)) ?_
    refine r_Si3 (pc' := 19) dX7_reading_16 rfl lX7_89 rfl (Nat.le_of_ble_eq_true rfl) (Nat.le_of_ble_eq_true rfl) (ct_in_m (by omega)) (fun r16 h16 e16 => ?_)
    rcases e16 with ⟨rfl, rfl, j16, hj16, rfl⟩ | ⟨rfl, rfl, hn16⟩
    · refine r_ifne_t (tgt := 24) dX7_reading_19 (by decide) (by decide) ?_
      refine r_s (pc' := 25) dX7_reading_24 rfl rfl ?_
      refine r_s (pc' := 26) dX7_reading_25 rfl rfl ?_
      refine r_Vi1 (pc' := 29) dX7_reading_26 rfl lX7_168 (hl_ rfl) rfl rfl rfl rfl (Nat.le_of_ble_eq_true rfl) (Nat.le_of_ble_eq_true rfl) (ct_X7_noNight hR.2.1 hw.bn) (fun r26 h26 e26 => ?_)
      rcases e26 with ⟨rfl, rfl, j26, hj26, rfl⟩ | ⟨rfl, rfl, hn26⟩
      · refine r_ifeq_t (tgt := 35) dX7_reading_29 (by decide) (by decide) ?_
        refine r_s (pc' := 36) dX7_reading_35 rfl rfl ?_
        refine h_gi (pc' := 39) dX7_reading_36 rfl fX7_156 (hl_ rfl) rfl ?_
        refine r_top (hD.1) ?_
        refine r_c (pc' := 41) dX7_reading_39 rfl kc_bipush_8 ?_
        refine r_cne (pc' := 44) (tgt := 47) dX7_reading_41 rfl (by decide) (fun c41 => ?_) (fun c41 => ?_)
        · have h8 : δ.1 < 8 := by have : δ.1 ≠ 8 := fun e => c41 (by rw [e]; rfl); omega
          refine r_s (pc' := 48) dX7_reading_47 rfl rfl ?_
          refine r_gr (pc' := 51) dX7_reading_48 rfl fX7_52 (hl_ rfl) rfl rfl ?_
          refine r_s (pc' := 52) dX7_reading_51 rfl rfl ?_
          refine h_gi (pc' := 55) dX7_reading_52 rfl fX7_156 (hl_ rfl) rfl ?_
          refine r_top (hD.1) ?_
          refine r_s (pc' := 56) dX7_reading_55 rfl rfl ?_
          refine h_ast (pc' := 57) dX7_reading_56 rfl (hl_ rfl) rfl (vp_in_nI (by omega) (by decide)) (nI_clamp (by omega)) ?_
          refine r_s (pc' := 58) dX7_reading_57 rfl rfl ?_
          refine r_gr (pc' := 61) dX7_reading_58 rfl fX7_55 (hl_ rfl) rfl rfl ?_
          refine r_s (pc' := 62) dX7_reading_61 rfl rfl ?_
          refine h_gi (pc' := 65) dX7_reading_62 rfl fX7_156 (hl_ rfl) rfl ?_
          refine r_top ((show _ = nI δ.1 by rw [up_o (by decide)]; exact hD.1)) ?_
          refine r_s (pc' := 66) dX7_reading_65 rfl rfl ?_
          refine h_ast (pc' := 67) dX7_reading_66 rfl (hl_ rfl) rfl (vp_in_nI (by omega) (by decide)) (nI_clamp (by omega)) ?_
          refine r_s (pc' := 68) dX7_reading_67 rfl rfl ?_
          refine r_gr (pc' := 71) dX7_reading_68 rfl fX7_58 (hl_ rfl) rfl rfl ?_
          refine r_s (pc' := 72) dX7_reading_71 rfl rfl ?_
          refine h_gi (pc' := 75) dX7_reading_72 rfl fX7_156 (hl_ rfl) rfl ?_
          refine r_top ((show _ = nI δ.1 by rw [up_o (by decide), up_o (by decide)]; exact hD.1)) ?_
          refine r_s (pc' := 76) dX7_reading_75 rfl rfl ?_
          refine h_ast (pc' := 77) dX7_reading_76 rfl (hl_ rfl) rfl (vp_in_nI (by omega) (by decide)) (nI_clamp (by omega)) ?_
          refine r_s (pc' := 78) dX7_reading_77 rfl rfl ?_
          refine r_s (pc' := 79) dX7_reading_78 rfl rfl ?_
          refine h_gi (pc' := 82) dX7_reading_79 rfl fX7_156 (hl_ rfl) rfl ?_
          refine r_top ((show _ = nI δ.1 by rw [up_o (by decide), up_o (by decide), up_o (by decide)]; exact hD.1)) ?_
          refine r_c (pc' := 83) dX7_reading_82 rfl kc_iconst_1 ?_
          refine r_s (pc' := 84) dX7_reading_83 rfl rfl ?_
          refine r_top (nI_1 _) ?_
          refine h_pi (pc' := 87) dX7_reading_84 rfl fX7_156 rfl (hl_ rfl) rfl ?_
          refine r_s (pc' := 88) dX7_reading_87 rfl rfl ?_
          refine h_gi (pc' := 91) dX7_reading_88 rfl fX7_156 (hl_ rfl) rfl ?_
          refine r_top ((up_s : sm_up _ 80 25 (nI (δ.1 + 1)) 80 25 = nI (δ.1 + 1))) ?_
          refine r_c (pc' := 92) dX7_reading_91 rfl kc_iconst_1 ?_
          refine r_s (pc' := 93) dX7_reading_92 rfl rfl ?_
          refine r_top (nI_pred _) ?_
          refine r_reti dX7_reading_93 rfl (rfl) (Nat.le_of_ble_eq_true rfl) (Nat.le_of_ble_eq_true rfl) ⟨_, rfl, ?_⟩
          have e2 : sp_reading ρ δ (nI j2) (nI j16) (nI j26) = ((δ.1 + 1, fun r => if r = δ.1 then (j2, j16, j26) else δ.2 r), nI δ.1) := by rw [sp_reading, if_pos ⟨ok_in hj2 hw.bg, ok_in hj16 (by omega)⟩, if_pos (ok_in hj26 hw.bn), if_pos h8, ix_nI (by omega), ix_nI (by omega), ix_nI (by omega)]
          rw [e2]
          refine ⟨_, rfl, fun q hq => by rw [up_o (by omega), up_o (by omega), up_o (by omega), up_o (by omega)], hM.putD ⟨up_s, fun r hr => ?_⟩ (fun j hj => by rw [up_n hj, up_o (by decide), up_o (by decide), up_o (by decide)]) (fun r h1 h2 h3 h4 => by rw [up_o h1, up_o h4, up_o h3, up_o h2]), rfl⟩
          have hr : r < δ.1 + 1 := hr
          by_cases er : r = δ.1
          · subst er; simp [sm_up]
          · have h := hD.2 r (by omega)
            simp [sm_up, er]; exact h
        · refine r_c (pc' := 46) dX7_reading_44 rfl kc_bipush_m4 ?_
          refine r_reti dX7_reading_46 rfl (rfl) (Nat.le_of_ble_eq_true rfl) (Nat.le_of_ble_eq_true rfl) ⟨_, rfl, ?_⟩
          exact ⟨I, rfl, fun _ _ => rfl, by rw [show sp_reading ρ δ (nI j2) (nI j16) (nI j26) = (δ, -4) by rw [sp_reading, if_pos ⟨ok_in hj2 hw.bg, ok_in hj16 (by omega)⟩, if_pos (ok_in hj26 hw.bn), if_neg (by have := (nI_eq (a := δ.1) (b := 8) (by omega) (by decide)).mp c41; omega)]]; exact hM, by rw [show sp_reading ρ δ (nI j2) (nI j16) (nI j26) = (δ, -4) by rw [sp_reading, if_pos ⟨ok_in hj2 hw.bg, ok_in hj16 (by omega)⟩, if_pos (ok_in hj26 hw.bn), if_neg (by have := (nI_eq (a := δ.1) (b := 8) (by omega) (by decide)).mp c41; omega)]]⟩
      · refine r_ifeq_f (pc' := 32) (tgt := 35) dX7_reading_29 rfl (by decide) (by decide) ?_
        refine r_c (pc' := 34) dX7_reading_32 rfl kc_bipush_m2 ?_
        refine r_reti dX7_reading_34 rfl (rfl) (Nat.le_of_ble_eq_true rfl) (Nat.le_of_ble_eq_true rfl) ⟨_, rfl, ?_⟩
        exact ⟨I, rfl, fun _ _ => rfl, by rw [show sp_reading ρ δ (nI j2) (nI j16) n = (δ, -2) by rw [sp_reading, if_pos ⟨ok_in hj2 hw.bg, ok_in hj16 (by omega)⟩, ok_no hw.bn hn26]; rfl]; exact hM, by rw [show sp_reading ρ δ (nI j2) (nI j16) n = (δ, -2) by rw [sp_reading, if_pos ⟨ok_in hj2 hw.bg, ok_in hj16 (by omega)⟩, ok_no hw.bn hn26]; rfl]⟩
    · refine r_ifne_f (pc' := 22) (tgt := 24) dX7_reading_19 rfl (by decide) (by decide) ?_
      refine r_c (pc' := 23) dX7_reading_22 rfl kc_iconst_m1 ?_
      refine r_reti dX7_reading_23 rfl (rfl) (Nat.le_of_ble_eq_true rfl) (Nat.le_of_ble_eq_true rfl) ⟨_, rfl, ?_⟩
      have e2 : sp_reading ρ δ (nI j2) k n = (δ, -1) := by
        rw [sp_reading, if_neg]
        intro ⟨a, b⟩
        rw [ok_no (by omega) hn16] at b; cases b
      exact ⟨I, rfl, fun _ _ => rfl, by rw [e2]; exact hM, by rw [e2]⟩
  · refine r_ifne_t (tgt := 22) dX7_reading_5 (by decide) (by decide) ?_
    refine r_c (pc' := 23) dX7_reading_22 rfl kc_iconst_m1 ?_
    refine r_reti dX7_reading_23 rfl (rfl) (Nat.le_of_ble_eq_true rfl) (Nat.le_of_ble_eq_true rfl) ⟨_, rfl, ?_⟩
    have e2 : sp_reading ρ δ g k n = (δ, -1) := by
      rw [sp_reading, if_neg]
      intro ⟨a, b⟩
      rw [ok_no hw.bg hn2] at a; cases a
    exact ⟨I, rfl, fun _ _ => rfl, by rw [e2]; exact hM, by rw [e2]⟩

theorem MI.putH {I I' : Nat → Nat → Int32} {ρ : zR} {δ : zD} {η : zH} {f t : Int32} (h : MI I (ρ, δ, η, f, t)) (k : Nat) {o : Option (Nat × Nat × (Nat → Int32))} (hk : k < 4) (ho : shM I' k o) (hs : ∀ r, r ≠ 98 → r ≠ 99 → r ≠ 100 → r ≠ 101 → I' r = I r) (h98 : ∀ i, i ≠ k → I' 98 i = I 98 i ∧ I' 99 i = I 99 i) (h100 : ∀ z, (z < 60 * k ∨ 60 * k + 60 ≤ z) → I' 100 z = I 100 z) (hb : ∀ i, i < 4 → ∀ a n f, η i = some (a, n, f) → n ≤ 60) : MI I' (ρ, δ, hup η k o, f, t) := by
  have e80 := hs 80 (by decide) (by decide) (by decide) (by decide)
  refine ⟨h.R.same (fun j _ => by rw [e80]) (fun r h1 h2 => hs r (by omega) (by omega) (by omega) (by omega)), by rw [e80]; exact h.ck, h.D.same (by rw [e80]) (fun r h1 h2 => hs r (by omega) (by omega) (by omega) (by omega)), fun i hi => ?_, by rw [e80]; exact h.f, by rw [e80]; exact h.t⟩
  show shM I' i (if i = k then o else η i)
  by_cases e : i = k
  · subst e; rw [if_pos rfl]; exact ho
  · rw [if_neg e]
    have hS : shM I i (η i) := h.S i hi
    have hb' := hb i hi
    match hη : η i, hS with
    | none, hS => exact (h98 i e).1.trans hS
    | some (a, n, f), hS =>
      have hn := hb' a n f hη
      exact ⟨(h98 i e).1.trans hS.1, (h98 i e).2.trans hS.2.1, fun z hz => (h100 _ (by omega)).trans (hS.2.2 z hz)⟩
theorem shM_neg {I : Nat → Nat → Int32} {k : Nat} {o : Option (Nat × Nat × (Nat → Int32))} (h : shM I k o) (hb : okO o) (c : I 98 k < 0) : o = none := by
  match o, h with
  | none, _ => rfl
  | some (a, n, f), h => exact absurd (h.1 ▸ c) (nI_pos (by have := (hb a n f rfl).2; omega))
theorem shM_pos {I : Nat → Nat → Int32} {k : Nat} {o : Option (Nat × Nat × (Nat → Int32))} (h : shM I k o) (c : ¬ I 98 k < 0) : ∃ a n f, o = some (a, n, f) := by
  match o, h with
  | none, h => exact absurd ((h : I 98 k = -1) ▸ (by decide : (-1 : Int32) < 0)) c
  | some (a, n, f), _ => exact ⟨a, n, f, rfl⟩
theorem nI_60 {k i : Nat} : nI 60 * nI k + nI i = nI (60 * k + i) := by rw [pk_mul, nI_add]

set_option maxHeartbeats 4000000 in
set_option maxRecDepth 100000 in
theorem pm_lose {d : Nat} {x : hX} {I : Nat → Nat → Int32} {ρ : zR} {δ : zD} {η : zH} {ft tr : Int32} {k : Int32} (hM : MI I (ρ, δ, η, ft, tr)) (hW : WF (ρ, δ, η, ft, tr)) : ci (d + 3) MX7_lose [.ref 80, .int k] (hp x I) (fun r h' => ∃ I', h' = hp x I' ∧ (∀ q, q < 80 → I' q = I q) ∧ MI I' (ρ, δ, (sp_lose η k).1, ft, tr) ∧ r = (sp_lose η k).2) := by
  have hR : isMd I ρ := hM.R
  have hw : wfR ρ := hW.1
  have b6 : zi ρ ≤ 6 := hw.1
  have b8 : zn ρ ≤ 8 := hw.2.1
  have bg : zg ρ ≤ 8 := hw.2.2.1
  have d8 : δ.1 ≤ 8 := hW.2.1.1
  have hSh : ∀ k, k < 4 → shM I k (η k) := hM.S
  have hWh : ∀ k, k < 4 → okO (η k) := fun k hk a n f e => hW.2.2 k hk a n f e
  refine c_in (L := [.ref 80, .int k, .null]) rfl rfl ?_
  refine r_s (pc' := 1) dX7_lose_0 rfl rfl ?_
  refine r_Si1 (pc' := 4) dX7_lose_1 rfl lX7_137 rfl (Nat.le_of_ble_eq_true rfl) (Nat.le_of_ble_eq_true rfl) (ct_X7_noSheet) (fun r1 h1 e1 => ?_)
  rcases e1 with ⟨rfl, rfl, j1, hj1, rfl⟩ | ⟨rfl, rfl, hn1⟩
  · refine r_ifeq_t (tgt := 9) dX7_lose_4 (by decide) (by decide) ?_
    refine r_s (pc' := 10) dX7_lose_9 rfl rfl ?_
    refine r_gr (pc' := 13) dX7_lose_10 rfl fX7_61 (hl_ rfl) rfl rfl ?_
    refine r_s (pc' := 14) dX7_lose_13 rfl rfl ?_
    refine h_ald (pc' := 15) dX7_lose_14 rfl (hl_ rfl) rfl (vp_in_nI (by omega) (by decide)) (nI_clamp (by omega)) ?_
    refine r_ifge (pc' := 18) (tgt := 22) dX7_lose_15 rfl (by decide) (fun c15 => ?_) (fun c15 => ?_)
    · refine r_c (pc' := 23) dX7_lose_22 rfl kc_iconst_1 ?_
      refine r_st_2_3 (pc' := 24) dX7_lose_23 rfl rfl rfl ?_
      refine r_s (pc' := 25) dX7_lose_24 rfl rfl ?_
      refine r_gr (pc' := 28) dX7_lose_25 rfl fX7_61 (hl_ rfl) rfl rfl ?_
      refine r_s (pc' := 29) dX7_lose_28 rfl rfl ?_
      refine r_c (pc' := 30) dX7_lose_29 rfl kc_iconst_m1 ?_
      refine h_ast (pc' := 31) dX7_lose_30 rfl (hl_ rfl) rfl (vp_in_nI (by omega) (by decide)) (nI_clamp (by omega)) ?_
      refine r_s (pc' := 32) dX7_lose_31 rfl rfl ?_
      refine r_reti dX7_lose_32 rfl (rfl) (Nat.le_of_ble_eq_true rfl) (Nat.le_of_ble_eq_true rfl) ⟨_, rfl, ?_⟩
      obtain ⟨a, n, f, ho⟩ := shM_pos (hSh _ hj1) (Int32.not_lt.mpr c15)
      have e2 : sp_lose η (nI j1) = (hup η j1 none, 1) := by rw [sp_lose, if_pos (ok_in hj1 (by decide)), ix_nI (by omega), if_pos (by rw [ho]; rfl)]
      rw [e2]
      exact ⟨_, rfl, fun q hq => up_o (by omega), hM.putH j1 hj1 up_s (fun r h1 h2 h3 h4 => up_o h1) (fun i hi => ⟨up_n hi, by rw [up_o (by decide)]⟩) (fun z _ => by rw [up_o (by decide)]) (fun i hi a n f e => (hWh i hi a n f e).2), rfl⟩
    · refine r_c (pc' := 19) dX7_lose_18 rfl kc_iconst_0 ?_
      refine r_goto (tgt := 23) dX7_lose_19 (by decide) ?_
      refine r_st_2_3 (pc' := 24) dX7_lose_23 rfl rfl rfl ?_
      refine r_s (pc' := 25) dX7_lose_24 rfl rfl ?_
      refine r_gr (pc' := 28) dX7_lose_25 rfl fX7_61 (hl_ rfl) rfl rfl ?_
      refine r_s (pc' := 29) dX7_lose_28 rfl rfl ?_
      refine r_c (pc' := 30) dX7_lose_29 rfl kc_iconst_m1 ?_
      refine h_ast (pc' := 31) dX7_lose_30 rfl (hl_ rfl) rfl (vp_in_nI (by omega) (by decide)) (nI_clamp (by omega)) ?_
      refine r_s (pc' := 32) dX7_lose_31 rfl rfl ?_
      refine r_reti dX7_lose_32 rfl (rfl) (Nat.le_of_ble_eq_true rfl) (Nat.le_of_ble_eq_true rfl) ⟨_, rfl, ?_⟩
      have ho := shM_neg (hSh _ hj1) (hWh _ hj1) (x_nle c15)
      have e2 : sp_lose η (nI j1) = (hup η j1 none, 0) := by rw [sp_lose, if_pos (ok_in hj1 (by decide)), ix_nI (by omega), if_neg (by rw [ho]; decide)]
      rw [e2]
      exact ⟨_, rfl, fun q hq => up_o (by omega), hM.putH j1 hj1 up_s (fun r h1 h2 h3 h4 => up_o h1) (fun i hi => ⟨up_n hi, by rw [up_o (by decide)]⟩) (fun z _ => by rw [up_o (by decide)]) (fun i hi a n f e => (hWh i hi a n f e).2), rfl⟩
  · refine r_ifeq_f (pc' := 7) (tgt := 9) dX7_lose_4 rfl (by decide) (by decide) ?_
    refine r_c (pc' := 8) dX7_lose_7 rfl kc_iconst_m1 ?_
    refine r_reti dX7_lose_8 rfl (rfl) (Nat.le_of_ble_eq_true rfl) (Nat.le_of_ble_eq_true rfl) ⟨_, rfl, ?_⟩
    exact ⟨I, rfl, fun _ _ => rfl, by rw [show sp_lose η k = (η, -1) by rw [sp_lose, ok_no (by decide) hn1]; rfl]; exact hM, by rw [show sp_lose η k = (η, -1) by rw [sp_lose, ok_no (by decide) hn1]; rfl]⟩

set_option maxHeartbeats 4000000 in
set_option maxRecDepth 100000 in
theorem ct_X7_noCell {d : Nat} {x : hX} {I : Nat → Nat → Int32} {k : Nat} {i : Int32} {o : Option (Nat × Nat × (Nat → Int32))} (hk : k < 4) (hs : shM I k o) (hb : okO o) : ci (d + 2) MX7_noCell [.ref 80, .int (nI k), .int i] (hp x I) (fun r h' => (h' = hp x I ∧ r = 1 ∧ o = none) ∨ (h' = hp x I ∧ r = 3 ∧ ∃ a n f, o = some (a, n, f) ∧ ∀ j, j < n → i ≠ nI j) ∨ (h' = hp x I ∧ r = 0 ∧ ∃ a n f j, o = some (a, n, f) ∧ j < n ∧ i = nI j)) := by
  refine c_in (L := [.ref 80, .int (nI k), .int i]) rfl rfl ?_
  refine r_s (pc' := 1) dX7_noCell_0 rfl rfl ?_
  refine r_gr (pc' := 4) dX7_noCell_1 rfl fX7_61 (hl_ rfl) rfl rfl ?_
  refine r_s (pc' := 5) dX7_noCell_4 rfl rfl ?_
  refine h_ald (pc' := 6) dX7_noCell_5 rfl (hl_ rfl) rfl (vp_in_nI (by omega) (by decide)) (nI_clamp (by omega)) ?_
  refine r_ifge (pc' := 9) (tgt := 13) dX7_noCell_6 rfl (by decide) (fun c6 => ?_) (fun c6 => ?_)
  · obtain ⟨a, n, f, rfl⟩ := shM_pos hs (Int32.not_lt.mpr c6)
    have hbd := hb a n f rfl
    refine r_s (pc' := 14) dX7_noCell_13 rfl rfl ?_
    refine r_s (pc' := 15) dX7_noCell_14 rfl rfl ?_
    refine r_c (pc' := 16) dX7_noCell_15 rfl kc_lconst_0 ?_
    refine r_s (pc' := 17) dX7_noCell_16 rfl rfl ?_
    refine r_gr (pc' := 20) dX7_noCell_17 rfl fX7_61 (hl_ rfl) rfl rfl ?_
    refine r_s (pc' := 21) dX7_noCell_20 rfl rfl ?_
    refine h_ald (pc' := 22) dX7_noCell_21 rfl (hl_ rfl) rfl (vp_in_nI (by omega) (by decide)) (nI_clamp (by omega)) ?_
    refine r_top (hs.1) ?_
    refine r_s (pc' := 23) dX7_noCell_22 rfl rfl ?_
    refine r_c (pc' := 24) dX7_noCell_23 rfl kc_lconst_1 ?_
    refine r_s (pc' := 25) dX7_noCell_24 rfl rfl ?_
    refine r_topl ((show (nI n).toInt64 - 1 = lN n - lN 1 by rw [nI_l (by omega)]; rfl)) ?_
    refine r_Si3 (pc' := 28) dX7_noCell_25 rfl lX7_89 rfl (Nat.le_of_ble_eq_true rfl) (Nat.le_of_ble_eq_true rfl) (ct_in_n (by omega)) (fun r25 h25 e25 => ?_)
    rcases e25 with ⟨rfl, rfl, j25, hj25, rfl⟩ | ⟨rfl, rfl, hn25⟩
    · refine r_ifeq_f (pc' := 31) (tgt := 35) dX7_noCell_28 rfl (by decide) (by decide) ?_
      refine r_c (pc' := 32) dX7_noCell_31 rfl kc_iconst_0 ?_
      refine r_goto (tgt := 36) dX7_noCell_32 (by decide) ?_
      refine r_reti dX7_noCell_36 rfl (rfl) (Nat.le_of_ble_eq_true rfl) (Nat.le_of_ble_eq_true rfl) ⟨_, rfl, ?_⟩
      exact Or.inr (Or.inr ⟨rfl, rfl, a, n, f, j25, rfl, hj25, rfl⟩)
    · refine r_ifeq_t (tgt := 35) dX7_noCell_28 (by decide) (by decide) ?_
      refine r_c (pc' := 36) dX7_noCell_35 rfl kc_iconst_3 ?_
      refine r_reti dX7_noCell_36 rfl (rfl) (Nat.le_of_ble_eq_true rfl) (Nat.le_of_ble_eq_true rfl) ⟨_, rfl, ?_⟩
      exact Or.inr (Or.inl ⟨rfl, rfl, a, n, f, rfl, hn25⟩)
  · refine r_c (pc' := 10) dX7_noCell_9 rfl kc_iconst_1 ?_
    refine r_goto (tgt := 36) dX7_noCell_10 (by decide) ?_
    refine r_reti dX7_noCell_36 rfl (rfl) (Nat.le_of_ble_eq_true rfl) (Nat.le_of_ble_eq_true rfl) ⟨_, rfl, ?_⟩
    exact Or.inl ⟨rfl, rfl, shM_neg hs hb (x_nle c6)⟩

set_option maxHeartbeats 4000000 in
set_option maxRecDepth 100000 in
theorem pm_put {d : Nat} {x : hX} {I : Nat → Nat → Int32} {ρ : zR} {δ : zD} {η : zH} {ft tr : Int32} {k i v : Int32} (hM : MI I (ρ, δ, η, ft, tr)) (hW : WF (ρ, δ, η, ft, tr)) : ci (d + 3) MX7_put [.ref 80, .int k, .int i, .int v] (hp x I) (fun r h' => ∃ I', h' = hp x I' ∧ (∀ q, q < 80 → I' q = I q) ∧ MI I' (ρ, δ, (sp_put η k i v).1, (sp_put η k i v).2.1, tr) ∧ r = (sp_put η k i v).2.2) := by
  have hR : isMd I ρ := hM.R
  have hw : wfR ρ := hW.1
  have b6 : zi ρ ≤ 6 := hw.1
  have b8 : zn ρ ≤ 8 := hw.2.1
  have bg : zg ρ ≤ 8 := hw.2.2.1
  have d8 : δ.1 ≤ 8 := hW.2.1.1
  have hSh : ∀ k, k < 4 → shM I k (η k) := hM.S
  have hWh : ∀ k, k < 4 → okO (η k) := fun k hk a n f e => hW.2.2 k hk a n f e
  refine c_in (L := [.ref 80, .int k, .int i, .int v]) rfl rfl ?_
  refine r_s (pc' := 1) dX7_put_0 rfl rfl ?_
  refine r_Si1 (pc' := 4) dX7_put_1 rfl lX7_137 rfl (Nat.le_of_ble_eq_true rfl) (Nat.le_of_ble_eq_true rfl) (ct_X7_noSheet) (fun r1 h1 e1 => ?_)
  rcases e1 with ⟨rfl, rfl, j1, hj1, rfl⟩ | ⟨rfl, rfl, hn1⟩
  · refine r_ifeq_t (tgt := 13) dX7_put_4 (by decide) (by decide) ?_
    refine r_s (pc' := 14) dX7_put_13 rfl rfl ?_
    refine r_s (pc' := 15) dX7_put_14 rfl rfl ?_
    refine r_s (pc' := 16) dX7_put_15 rfl rfl ?_
    refine r_Vi2 (pc' := 19) dX7_put_16 rfl lX7_231 (hl_ rfl) rfl rfl rfl rfl (Nat.le_of_ble_eq_true rfl) (Nat.le_of_ble_eq_true rfl) (ct_X7_noCell (by omega) (hSh _ hj1) (hWh _ hj1)) (fun r16 h16 e16 => ?_)
    rcases e16 with ⟨rfl, rfl, ho⟩ | ⟨rfl, rfl, a, n, f, ho, hni⟩ | ⟨rfl, rfl, a, n, f, z, ho, hz, rfl⟩
    · refine r_ifle_f (pc' := 22) (tgt := 33) dX7_put_19 rfl (by decide) (by decide) ?_
      refine r_s (pc' := 23) dX7_put_22 rfl rfl ?_
      refine r_s (pc' := 24) dX7_put_23 rfl rfl ?_
      refine r_s (pc' := 25) dX7_put_24 rfl rfl ?_
      refine r_s (pc' := 26) dX7_put_25 rfl rfl ?_
      refine r_Vi2 (pc' := 29) dX7_put_26 rfl lX7_231 (hl_ rfl) rfl rfl rfl rfl (Nat.le_of_ble_eq_true rfl) (Nat.le_of_ble_eq_true rfl) (ct_X7_noCell (by omega) (hSh _ hj1) (hWh _ hj1)) (fun r26 h26 e26 => ?_)
      rcases e26 with ⟨rfl, rfl, ho'⟩ | ⟨rfl, rfl, a', n', f', ho', hni'⟩ | ⟨rfl, rfl, a', n', f', z', ho', hz', hzz'⟩
      · refine r_Vi1 (pc' := 32) dX7_put_29 rfl lX7_129 (hl_ rfl) rfl rfl rfl rfl (Nat.le_of_ble_eq_true rfl) (Nat.le_of_ble_eq_true rfl) (ct_X7_failed (f := 1)) (fun r29 h29 e29 => ?_)
        obtain ⟨rfl, rfl⟩ := e29
        refine r_reti dX7_put_32 rfl (rfl) (Nat.le_of_ble_eq_true rfl) (Nat.le_of_ble_eq_true rfl) ⟨_, rfl, ?_⟩
        have e2 : sp_put η (nI j1) i v = (η, 1, -11) := by rw [sp_put, if_pos (ok_in hj1 (by decide)), ix_nI (by omega), ho]
        rw [e2]
        exact ⟨_, rfl, fun q hq => up_o (by omega), hM.upf 1, rfl⟩
      · refine r_Vi1 (pc' := 32) dX7_put_29 rfl lX7_129 (hl_ rfl) rfl rfl rfl rfl (Nat.le_of_ble_eq_true rfl) (Nat.le_of_ble_eq_true rfl) (ct_X7_failed (f := 3)) (fun r29 h29 e29 => ?_)
        obtain ⟨rfl, rfl⟩ := e29
        refine r_reti dX7_put_32 rfl (rfl) (Nat.le_of_ble_eq_true rfl) (Nat.le_of_ble_eq_true rfl) ⟨_, rfl, ?_⟩
        exact absurd (ho.symm.trans ho') (by simp)
      · refine r_Vi1 (pc' := 32) dX7_put_29 rfl lX7_129 (hl_ rfl) rfl rfl rfl rfl (Nat.le_of_ble_eq_true rfl) (Nat.le_of_ble_eq_true rfl) (ct_X7_failed (f := 0)) (fun r29 h29 e29 => ?_)
        obtain ⟨rfl, rfl⟩ := e29
        refine r_reti dX7_put_32 rfl (rfl) (Nat.le_of_ble_eq_true rfl) (Nat.le_of_ble_eq_true rfl) ⟨_, rfl, ?_⟩
        exact absurd (ho.symm.trans ho') (by simp)
    · refine r_ifle_f (pc' := 22) (tgt := 33) dX7_put_19 rfl (by decide) (by decide) ?_
      refine r_s (pc' := 23) dX7_put_22 rfl rfl ?_
      refine r_s (pc' := 24) dX7_put_23 rfl rfl ?_
      refine r_s (pc' := 25) dX7_put_24 rfl rfl ?_
      refine r_s (pc' := 26) dX7_put_25 rfl rfl ?_
      refine r_Vi2 (pc' := 29) dX7_put_26 rfl lX7_231 (hl_ rfl) rfl rfl rfl rfl (Nat.le_of_ble_eq_true rfl) (Nat.le_of_ble_eq_true rfl) (ct_X7_noCell (by omega) (hSh _ hj1) (hWh _ hj1)) (fun r26 h26 e26 => ?_)
      rcases e26 with ⟨rfl, rfl, ho'⟩ | ⟨rfl, rfl, a', n', f', ho', hni'⟩ | ⟨rfl, rfl, a', n', f', z', ho', hz', hzz'⟩
      · refine r_Vi1 (pc' := 32) dX7_put_29 rfl lX7_129 (hl_ rfl) rfl rfl rfl rfl (Nat.le_of_ble_eq_true rfl) (Nat.le_of_ble_eq_true rfl) (ct_X7_failed (f := 1)) (fun r29 h29 e29 => ?_)
        obtain ⟨rfl, rfl⟩ := e29
        refine r_reti dX7_put_32 rfl (rfl) (Nat.le_of_ble_eq_true rfl) (Nat.le_of_ble_eq_true rfl) ⟨_, rfl, ?_⟩
        exact absurd (ho.symm.trans ho') (by simp)
      · refine r_Vi1 (pc' := 32) dX7_put_29 rfl lX7_129 (hl_ rfl) rfl rfl rfl rfl (Nat.le_of_ble_eq_true rfl) (Nat.le_of_ble_eq_true rfl) (ct_X7_failed (f := 3)) (fun r29 h29 e29 => ?_)
        obtain ⟨rfl, rfl⟩ := e29
        refine r_reti dX7_put_32 rfl (rfl) (Nat.le_of_ble_eq_true rfl) (Nat.le_of_ble_eq_true rfl) ⟨_, rfl, ?_⟩
        have hbd := hWh _ hj1 a n f ho
        have e2 : sp_put η (nI j1) i v = (η, 3, -13) := by rw [sp_put, if_pos (ok_in hj1 (by decide)), ix_nI (by omega), ho]; show (if ok i n = true then _ else _) = _; rw [ok_no (by omega) hni]; rfl
        rw [e2]
        exact ⟨_, rfl, fun q hq => up_o (by omega), hM.upf 3, rfl⟩
      · refine r_Vi1 (pc' := 32) dX7_put_29 rfl lX7_129 (hl_ rfl) rfl rfl rfl rfl (Nat.le_of_ble_eq_true rfl) (Nat.le_of_ble_eq_true rfl) (ct_X7_failed (f := 0)) (fun r29 h29 e29 => ?_)
        obtain ⟨rfl, rfl⟩ := e29
        refine r_reti dX7_put_32 rfl (rfl) (Nat.le_of_ble_eq_true rfl) (Nat.le_of_ble_eq_true rfl) ⟨_, rfl, ?_⟩
        have e9 := ho.symm.trans ho'
        simp only [Option.some.injEq, Prod.mk.injEq] at e9
        obtain ⟨rfl, rfl, rfl⟩ := e9
        exact absurd hzz' (hni z' hz')
    · refine r_ifle_t (tgt := 33) dX7_put_19 (by decide) (by decide) ?_
      have hs := hSh _ hj1
      rw [ho] at hs
      have hbd := hWh _ hj1 a n f ho
      refine r_s (pc' := 34) dX7_put_33 rfl rfl ?_
      refine r_gr (pc' := 37) dX7_put_34 rfl fX7_67 (hl_ rfl) rfl rfl ?_
      refine r_c (pc' := 39) dX7_put_37 rfl kc_bipush_60 ?_
      refine r_s (pc' := 40) dX7_put_39 rfl rfl ?_
      refine r_s (pc' := 41) dX7_put_40 rfl rfl ?_
      refine r_top ((pk_mul 60 j1 : nI 60 * nI j1 = nI (60 * j1))) ?_
      refine r_s (pc' := 42) dX7_put_41 rfl rfl ?_
      refine r_s (pc' := 43) dX7_put_42 rfl rfl ?_
      refine r_top (nI_add _ _) ?_
      refine r_s (pc' := 44) dX7_put_43 rfl rfl ?_
      refine r_gr (pc' := 47) dX7_put_44 rfl fX7_64 (hl_ rfl) rfl rfl ?_
      refine r_s (pc' := 48) dX7_put_47 rfl rfl ?_
      refine h_ald (pc' := 49) dX7_put_48 rfl (hl_ rfl) rfl (vp_in_nI (by omega) (by decide)) (nI_clamp (by omega)) ?_
      refine r_top (hs.2.1) ?_
      refine r_ifne (pc' := 52) (tgt := 57) dX7_put_49 rfl (by decide) (fun c49 => ?_) (fun c49 => ?_)
      · refine r_s (pc' := 58) dX7_put_57 rfl rfl ?_
        refine r_gr (pc' := 61) dX7_put_58 rfl fX7_64 (hl_ rfl) rfl rfl ?_
        refine r_s (pc' := 62) dX7_put_61 rfl rfl ?_
        refine h_ald (pc' := 63) dX7_put_62 rfl (hl_ rfl) rfl (vp_in_nI (by omega) (by decide)) (nI_clamp (by omega)) ?_
        refine r_top (hs.2.1) ?_
        refine r_c (pc' := 64) dX7_put_63 rfl kc_iconst_1 ?_
        refine r_cne (pc' := 67) (tgt := 72) dX7_put_64 rfl (by decide) (fun c64 => ?_) (fun c64 => ?_)
        · refine r_s (pc' := 73) dX7_put_72 rfl rfl ?_
          refine r_top (show _ = cut a v by rw [cut, if_neg (fun e => c49 (by rw [e]; rfl)), if_neg (fun e => c64 (by rw [e]; rfl))]) ?_
          refine h_ast (pc' := 74) dX7_put_73 rfl (hl_ rfl) rfl (vp_in_nI (by omega) (by decide)) (nI_clamp (by omega)) ?_
          refine r_s (pc' := 75) dX7_put_74 rfl rfl ?_
          refine r_c (pc' := 76) dX7_put_75 rfl kc_iconst_1 ?_
          refine r_Vi1 (pc' := 79) dX7_put_76 rfl lX7_141 (hl_ rfl) rfl rfl rfl rfl (Nat.le_of_ble_eq_true rfl) (Nat.le_of_ble_eq_true rfl) (ct_X7_refused (v := 1)) (fun r76 h76 e76 => ?_)
          obtain ⟨rfl, rfl⟩ := e76
          refine r_reti dX7_put_79 rfl (rfl) (Nat.le_of_ble_eq_true rfl) (Nat.le_of_ble_eq_true rfl) ⟨_, rfl, ?_⟩
          have e2 : sp_put η (nI j1) (nI z) v = (hup η j1 (some (a, n, upd f z (cut a v))), 0, 1) := by rw [sp_put, if_pos (ok_in hj1 (by decide)), ix_nI (by omega), ho]; show (if ok (nI z) n = true then _ else _) = _; rw [if_pos (ok_in hz (by omega)), ix_nI (by omega)]
          rw [e2]
          have key : MI (sm_up I 100 (60 * j1 + z) (cut a v)) (ρ, δ, hup η j1 (some (a, n, upd f z (cut a v))), ft, tr) := by
            refine hM.putH j1 hj1 (o := some (a, n, upd f z (cut a v))) ⟨by rw [up_o (by decide)]; exact hs.1, by rw [up_o (by decide)]; exact hs.2.1, fun y hy => ?_⟩ (fun r h1 h2 h3 h4 => up_o h3) (fun y hy => ⟨by rw [up_o (by decide)], by rw [up_o (by decide)]⟩) (fun y hy => up_n (by omega)) (fun i hi a n f e => (hWh i hi a n f e).2)
            by_cases e : y = z
            · subst e; rw [up_s]; show _ = (if y = y then _ else _); rw [if_pos rfl]
            · rw [up_n (by omega)]; show _ = (if y = z then _ else f y); rw [if_neg e]; exact hs.2.2 y hy
          exact ⟨_, rfl, fun q hq => by rw [up_o (by omega), up_o (by omega)], key.upf 0, rfl⟩
        · refine r_s (pc' := 68) dX7_put_67 rfl rfl ?_
          refine r_s (pc' := 69) dX7_put_68 rfl rfl ?_
          refine r_goto (tgt := 73) dX7_put_69 (by decide) ?_
          refine r_top (show _ = cut a v by rw [cut, if_neg (fun e => c49 (by rw [e]; rfl)), if_pos ((nI_eq (by omega) (by decide)).mp c64)]) ?_
          refine h_ast (pc' := 74) dX7_put_73 rfl (hl_ rfl) rfl (vp_in_nI (by omega) (by decide)) (nI_clamp (by omega)) ?_
          refine r_s (pc' := 75) dX7_put_74 rfl rfl ?_
          refine r_c (pc' := 76) dX7_put_75 rfl kc_iconst_1 ?_
          refine r_Vi1 (pc' := 79) dX7_put_76 rfl lX7_141 (hl_ rfl) rfl rfl rfl rfl (Nat.le_of_ble_eq_true rfl) (Nat.le_of_ble_eq_true rfl) (ct_X7_refused (v := 1)) (fun r76 h76 e76 => ?_)
          obtain ⟨rfl, rfl⟩ := e76
          refine r_reti dX7_put_79 rfl (rfl) (Nat.le_of_ble_eq_true rfl) (Nat.le_of_ble_eq_true rfl) ⟨_, rfl, ?_⟩
          have e2 : sp_put η (nI j1) (nI z) v = (hup η j1 (some (a, n, upd f z (cut a v))), 0, 1) := by rw [sp_put, if_pos (ok_in hj1 (by decide)), ix_nI (by omega), ho]; show (if ok (nI z) n = true then _ else _) = _; rw [if_pos (ok_in hz (by omega)), ix_nI (by omega)]
          rw [e2]
          have key : MI (sm_up I 100 (60 * j1 + z) (cut a v)) (ρ, δ, hup η j1 (some (a, n, upd f z (cut a v))), ft, tr) := by
            refine hM.putH j1 hj1 (o := some (a, n, upd f z (cut a v))) ⟨by rw [up_o (by decide)]; exact hs.1, by rw [up_o (by decide)]; exact hs.2.1, fun y hy => ?_⟩ (fun r h1 h2 h3 h4 => up_o h3) (fun y hy => ⟨by rw [up_o (by decide)], by rw [up_o (by decide)]⟩) (fun y hy => up_n (by omega)) (fun i hi a n f e => (hWh i hi a n f e).2)
            by_cases e : y = z
            · subst e; rw [up_s]; show _ = (if y = y then _ else _); rw [if_pos rfl]
            · rw [up_n (by omega)]; show _ = (if y = z then _ else f y); rw [if_neg e]; exact hs.2.2 y hy
          exact ⟨_, rfl, fun q hq => by rw [up_o (by omega), up_o (by omega)], key.upf 0, rfl⟩
      · refine r_s (pc' := 53) dX7_put_52 rfl rfl ?_
        refine r_s (pc' := 54) dX7_put_53 rfl rfl ?_
        refine r_goto (tgt := 73) dX7_put_54 (by decide) ?_
        refine r_top (show _ = cut a v by rw [cut, if_pos ((nI_eq (by omega) (by decide)).mp c49)]) ?_
        refine h_ast (pc' := 74) dX7_put_73 rfl (hl_ rfl) rfl (vp_in_nI (by omega) (by decide)) (nI_clamp (by omega)) ?_
        refine r_s (pc' := 75) dX7_put_74 rfl rfl ?_
        refine r_c (pc' := 76) dX7_put_75 rfl kc_iconst_1 ?_
        refine r_Vi1 (pc' := 79) dX7_put_76 rfl lX7_141 (hl_ rfl) rfl rfl rfl rfl (Nat.le_of_ble_eq_true rfl) (Nat.le_of_ble_eq_true rfl) (ct_X7_refused (v := 1)) (fun r76 h76 e76 => ?_)
        obtain ⟨rfl, rfl⟩ := e76
        refine r_reti dX7_put_79 rfl (rfl) (Nat.le_of_ble_eq_true rfl) (Nat.le_of_ble_eq_true rfl) ⟨_, rfl, ?_⟩
        have e2 : sp_put η (nI j1) (nI z) v = (hup η j1 (some (a, n, upd f z (cut a v))), 0, 1) := by rw [sp_put, if_pos (ok_in hj1 (by decide)), ix_nI (by omega), ho]; show (if ok (nI z) n = true then _ else _) = _; rw [if_pos (ok_in hz (by omega)), ix_nI (by omega)]
        rw [e2]
        have key : MI (sm_up I 100 (60 * j1 + z) (cut a v)) (ρ, δ, hup η j1 (some (a, n, upd f z (cut a v))), ft, tr) := by
          refine hM.putH j1 hj1 (o := some (a, n, upd f z (cut a v))) ⟨by rw [up_o (by decide)]; exact hs.1, by rw [up_o (by decide)]; exact hs.2.1, fun y hy => ?_⟩ (fun r h1 h2 h3 h4 => up_o h3) (fun y hy => ⟨by rw [up_o (by decide)], by rw [up_o (by decide)]⟩) (fun y hy => up_n (by omega)) (fun i hi a n f e => (hWh i hi a n f e).2)
          by_cases e : y = z
          · subst e; rw [up_s]; show _ = (if y = y then _ else _); rw [if_pos rfl]
          · rw [up_n (by omega)]; show _ = (if y = z then _ else f y); rw [if_neg e]; exact hs.2.2 y hy
        exact ⟨_, rfl, fun q hq => by rw [up_o (by omega), up_o (by omega)], key.upf 0, rfl⟩
  · refine r_ifeq_f (pc' := 7) (tgt := 13) dX7_put_4 rfl (by decide) (by decide) ?_
    refine r_s (pc' := 8) dX7_put_7 rfl rfl ?_
    refine r_c (pc' := 9) dX7_put_8 rfl kc_iconst_m1 ?_
    refine r_Vi1 (pc' := 12) dX7_put_9 rfl lX7_141 (hl_ rfl) rfl rfl rfl rfl (Nat.le_of_ble_eq_true rfl) (Nat.le_of_ble_eq_true rfl) (ct_X7_refused (v := -1)) (fun r9 h9 e9 => ?_)
    obtain ⟨rfl, rfl⟩ := e9
    refine r_reti dX7_put_12 rfl (rfl) (Nat.le_of_ble_eq_true rfl) (Nat.le_of_ble_eq_true rfl) ⟨_, rfl, ?_⟩
    have e2 : sp_put η k i v = (η, 0, -1) := by rw [sp_put, ok_no (by decide) hn1]; rfl
    rw [e2]
    exact ⟨_, rfl, fun q hq => up_o (by omega), hM.upf 0, rfl⟩

set_option maxHeartbeats 4000000 in
set_option maxRecDepth 100000 in
theorem pm_cell {d : Nat} {x : hX} {I : Nat → Nat → Int32} {ρ : zR} {δ : zD} {η : zH} {ft tr : Int32} {k i ln : Int32} (hM : MI I (ρ, δ, η, ft, tr)) (hW : WF (ρ, δ, η, ft, tr)) : cl (d + 3) MX7_cell [.ref 80, .int k, .int i, .int ln] (hp x I) (fun r h' => ∃ I', h' = hp x I' ∧ (∀ q, q < 80 → I' q = I q) ∧ MI I' (ρ, δ, η, (sp_cell η k i ln).1, tr) ∧ r = (sp_cell η k i ln).2) := by
  have hR : isMd I ρ := hM.R
  have hw : wfR ρ := hW.1
  have b6 : zi ρ ≤ 6 := hw.1
  have b8 : zn ρ ≤ 8 := hw.2.1
  have bg : zg ρ ≤ 8 := hw.2.2.1
  have d8 : δ.1 ≤ 8 := hW.2.1.1
  have hSh : ∀ k, k < 4 → shM I k (η k) := hM.S
  have hWh : ∀ k, k < 4 → okO (η k) := fun k hk a n f e => hW.2.2 k hk a n f e
  have hM1 : MI (sm_up I 80 0 0) (ρ, δ, η, 0, tr) := hM.upf 0
  have hSh1 : ∀ k, k < 4 → shM (sm_up I 80 0 0) k (η k) := hM1.S
  refine c_in (L := [.ref 80, .int k, .int i, .int ln]) rfl rfl ?_
  refine r_s (pc' := 1) dX7_cell_0 rfl rfl ?_
  refine r_c (pc' := 2) dX7_cell_1 rfl kc_iconst_0 ?_
  refine h_pi (pc' := 5) dX7_cell_2 rfl fX7_79 rfl (hl_ rfl) rfl ?_
  refine r_s (pc' := 6) dX7_cell_5 rfl rfl ?_
  refine r_Si1 (pc' := 9) dX7_cell_6 rfl lX7_137 rfl (Nat.le_of_ble_eq_true rfl) (Nat.le_of_ble_eq_true rfl) (ct_X7_noSheet) (fun r6 h6 e6 => ?_)
  rcases e6 with ⟨rfl, rfl, j6, hj6, rfl⟩ | ⟨rfl, rfl, hn6⟩
  · refine r_ifne_f (pc' := 12) (tgt := 24) dX7_cell_9 rfl (by decide) (by decide) ?_
    refine r_s (pc' := 13) dX7_cell_12 rfl rfl ?_
    refine r_s (pc' := 14) dX7_cell_13 rfl rfl ?_
    refine r_c (pc' := 15) dX7_cell_14 rfl kc_lconst_0 ?_
    refine r_ldc2 (pc' := 18) dX7_cell_15 rfl kX7_144 ?_
    refine r_topl (show (2 : Int64) = lN 2 from rfl) ?_
    refine r_Si3 (pc' := 21) dX7_cell_18 rfl lX7_89 rfl (Nat.le_of_ble_eq_true rfl) (Nat.le_of_ble_eq_true rfl) (ct_in_m (n := 2) (by decide)) (fun r18 h18 e18 => ?_)
    rcases e18 with ⟨rfl, rfl, j18, hj18, rfl⟩ | ⟨rfl, rfl, hn18⟩
    · refine r_ifne_t (tgt := 28) dX7_cell_21 (by decide) (by decide) ?_
      refine r_s (pc' := 29) dX7_cell_28 rfl rfl ?_
      refine r_gr (pc' := 32) dX7_cell_29 rfl fX7_61 (hl_ rfl) rfl rfl ?_
      refine r_s (pc' := 33) dX7_cell_32 rfl rfl ?_
      refine h_ald (pc' := 34) dX7_cell_33 rfl (hl_ rfl) rfl (vp_in_nI (by omega) (by decide)) (nI_clamp (by omega)) ?_
      refine r_iflt (pc' := 37) (tgt := 53) dX7_cell_34 rfl (by decide) (fun c34 => ?_) (fun c34 => ?_)
      · have hln : ∀ a n f, η j6 = some (a, n, f) → nI a = nI j18 := fun a n f e => absurd (shM_neg (hSh1 _ hj6) (hWh _ hj6) c34) (by rw [e]; simp)
        refine r_s (pc' := 54) dX7_cell_53 rfl rfl ?_
        refine r_s (pc' := 55) dX7_cell_54 rfl rfl ?_
        refine r_s (pc' := 56) dX7_cell_55 rfl rfl ?_
        refine r_Vi2 (pc' := 59) dX7_cell_56 rfl lX7_231 (hl_ rfl) rfl rfl rfl rfl (Nat.le_of_ble_eq_true rfl) (Nat.le_of_ble_eq_true rfl) (ct_X7_noCell (by omega) (hSh1 _ hj6) (hWh _ hj6)) (fun r56 h56 e56 => ?_)
        rcases e56 with ⟨rfl, rfl, ho⟩ | ⟨rfl, rfl, a1, n1, f1, ho, hni⟩ | ⟨rfl, rfl, a1, n1, f1, z, ho, hz, rfl⟩
        · refine r_ifle_f (pc' := 62) (tgt := 75) dX7_cell_59 rfl (by decide) (by decide) ?_
          refine r_s (pc' := 63) dX7_cell_62 rfl rfl ?_
          refine r_s (pc' := 64) dX7_cell_63 rfl rfl ?_
          refine r_s (pc' := 65) dX7_cell_64 rfl rfl ?_
          refine r_s (pc' := 66) dX7_cell_65 rfl rfl ?_
          refine r_Vi2 (pc' := 69) dX7_cell_66 rfl lX7_231 (hl_ rfl) rfl rfl rfl rfl (Nat.le_of_ble_eq_true rfl) (Nat.le_of_ble_eq_true rfl) (ct_X7_noCell (by omega) (hSh1 _ hj6) (hWh _ hj6)) (fun r66 h66 e66 => ?_)
          rcases e66 with ⟨rfl, rfl, ho'⟩ | ⟨rfl, rfl, a', n', f', ho', hni'⟩ | ⟨rfl, rfl, a', n', f', z', ho', hz', hzz'⟩
          · refine r_Vl1 (pc' := 72) dX7_cell_69 rfl lX7_234 (hl_ rfl) rfl rfl rfl rfl (Nat.le_of_ble_eq_true rfl) (Nat.le_of_ble_eq_true rfl) (ct_X7_failedLong (f := 1)) (fun r69 h69 e69 => ?_)
            obtain ⟨rfl, rfl⟩ := e69
            refine r_goto (tgt := 87) dX7_cell_72 (by decide) ?_
            refine r_retl dX7_cell_87 rfl (Nat.le_of_ble_eq_true rfl) (Nat.le_of_ble_eq_true rfl) ⟨_, rfl, ?_⟩
            have e2 : sp_cell η (nI j6) i (nI j18) = (1, LOSTv) := by rw [sp_cell, if_pos ⟨ok_in hj6 (by decide), ok_in hj18 (by decide)⟩, ix_nI (by omega), ho]
            rw [e2]
            exact ⟨_, rfl, fun q hq => by rw [up_o (by omega), up_o (by omega)], (hM.upf 0).upf 1, rfl⟩
          · refine r_Vl1 (pc' := 72) dX7_cell_69 rfl lX7_234 (hl_ rfl) rfl rfl rfl rfl (Nat.le_of_ble_eq_true rfl) (Nat.le_of_ble_eq_true rfl) (ct_X7_failedLong (f := 3)) (fun r69 h69 e69 => ?_)
            obtain ⟨rfl, rfl⟩ := e69
            refine r_goto (tgt := 87) dX7_cell_72 (by decide) ?_
            refine r_retl dX7_cell_87 rfl (Nat.le_of_ble_eq_true rfl) (Nat.le_of_ble_eq_true rfl) ⟨_, rfl, ?_⟩
            exact absurd (ho.symm.trans ho') (by simp)
          · refine r_Vl1 (pc' := 72) dX7_cell_69 rfl lX7_234 (hl_ rfl) rfl rfl rfl rfl (Nat.le_of_ble_eq_true rfl) (Nat.le_of_ble_eq_true rfl) (ct_X7_failedLong (f := 0)) (fun r69 h69 e69 => ?_)
            obtain ⟨rfl, rfl⟩ := e69
            refine r_goto (tgt := 87) dX7_cell_72 (by decide) ?_
            refine r_retl dX7_cell_87 rfl (Nat.le_of_ble_eq_true rfl) (Nat.le_of_ble_eq_true rfl) ⟨_, rfl, ?_⟩
            exact absurd (ho.symm.trans ho') (by simp)
        · refine r_ifle_f (pc' := 62) (tgt := 75) dX7_cell_59 rfl (by decide) (by decide) ?_
          refine r_s (pc' := 63) dX7_cell_62 rfl rfl ?_
          refine r_s (pc' := 64) dX7_cell_63 rfl rfl ?_
          refine r_s (pc' := 65) dX7_cell_64 rfl rfl ?_
          refine r_s (pc' := 66) dX7_cell_65 rfl rfl ?_
          refine r_Vi2 (pc' := 69) dX7_cell_66 rfl lX7_231 (hl_ rfl) rfl rfl rfl rfl (Nat.le_of_ble_eq_true rfl) (Nat.le_of_ble_eq_true rfl) (ct_X7_noCell (by omega) (hSh1 _ hj6) (hWh _ hj6)) (fun r66 h66 e66 => ?_)
          rcases e66 with ⟨rfl, rfl, ho'⟩ | ⟨rfl, rfl, a', n', f', ho', hni'⟩ | ⟨rfl, rfl, a', n', f', z', ho', hz', hzz'⟩
          · refine r_Vl1 (pc' := 72) dX7_cell_69 rfl lX7_234 (hl_ rfl) rfl rfl rfl rfl (Nat.le_of_ble_eq_true rfl) (Nat.le_of_ble_eq_true rfl) (ct_X7_failedLong (f := 1)) (fun r69 h69 e69 => ?_)
            obtain ⟨rfl, rfl⟩ := e69
            refine r_goto (tgt := 87) dX7_cell_72 (by decide) ?_
            refine r_retl dX7_cell_87 rfl (Nat.le_of_ble_eq_true rfl) (Nat.le_of_ble_eq_true rfl) ⟨_, rfl, ?_⟩
            exact absurd (ho.symm.trans ho') (by simp)
          · refine r_Vl1 (pc' := 72) dX7_cell_69 rfl lX7_234 (hl_ rfl) rfl rfl rfl rfl (Nat.le_of_ble_eq_true rfl) (Nat.le_of_ble_eq_true rfl) (ct_X7_failedLong (f := 3)) (fun r69 h69 e69 => ?_)
            obtain ⟨rfl, rfl⟩ := e69
            refine r_goto (tgt := 87) dX7_cell_72 (by decide) ?_
            refine r_retl dX7_cell_87 rfl (Nat.le_of_ble_eq_true rfl) (Nat.le_of_ble_eq_true rfl) ⟨_, rfl, ?_⟩
            have hbd := hWh _ hj6 a1 n1 f1 ho
            have e2 : sp_cell η (nI j6) i (nI j18) = (3, LOSTv) := by rw [sp_cell, if_pos ⟨ok_in hj6 (by decide), ok_in hj18 (by decide)⟩, ix_nI (by omega), ho]; show (if nI a1 = nI j18 then (if ok i n1 = true then _ else _) else _) = _; rw [if_pos (hln a1 n1 f1 ho), ok_no (by omega) hni]; rfl
            rw [e2]
            exact ⟨_, rfl, fun q hq => by rw [up_o (by omega), up_o (by omega)], (hM.upf 0).upf 3, rfl⟩
          · refine r_Vl1 (pc' := 72) dX7_cell_69 rfl lX7_234 (hl_ rfl) rfl rfl rfl rfl (Nat.le_of_ble_eq_true rfl) (Nat.le_of_ble_eq_true rfl) (ct_X7_failedLong (f := 0)) (fun r69 h69 e69 => ?_)
            obtain ⟨rfl, rfl⟩ := e69
            refine r_goto (tgt := 87) dX7_cell_72 (by decide) ?_
            refine r_retl dX7_cell_87 rfl (Nat.le_of_ble_eq_true rfl) (Nat.le_of_ble_eq_true rfl) ⟨_, rfl, ?_⟩
            have e9 := ho.symm.trans ho'
            simp only [Option.some.injEq, Prod.mk.injEq] at e9
            obtain ⟨rfl, rfl, rfl⟩ := e9
            exact absurd hzz' (hni z' hz')
        · refine r_ifle_t (tgt := 75) dX7_cell_59 (by decide) (by decide) ?_
          have hs := hSh1 _ hj6
          rw [ho] at hs
          have hbd := hWh _ hj6 a1 n1 f1 ho
          refine r_s (pc' := 76) dX7_cell_75 rfl rfl ?_
          refine r_gr (pc' := 79) dX7_cell_76 rfl fX7_67 (hl_ rfl) rfl rfl ?_
          refine r_c (pc' := 81) dX7_cell_79 rfl kc_bipush_60 ?_
          refine r_s (pc' := 82) dX7_cell_81 rfl rfl ?_
          refine r_s (pc' := 83) dX7_cell_82 rfl rfl ?_
          refine r_top ((pk_mul 60 j6 : nI 60 * nI j6 = nI (60 * j6))) ?_
          refine r_s (pc' := 84) dX7_cell_83 rfl rfl ?_
          refine r_s (pc' := 85) dX7_cell_84 rfl rfl ?_
          refine r_top (nI_add _ _) ?_
          refine h_ald (pc' := 86) dX7_cell_85 rfl (hl_ rfl) rfl (vp_in_nI (by omega) (by decide)) (nI_clamp (by omega)) ?_
          refine r_top (hs.2.2 z hz) ?_
          refine r_s (pc' := 87) dX7_cell_86 rfl rfl ?_
          refine r_retl dX7_cell_87 rfl (Nat.le_of_ble_eq_true rfl) (Nat.le_of_ble_eq_true rfl) ⟨_, rfl, ?_⟩
          have e2 : sp_cell η (nI j6) (nI z) (nI j18) = (0, (f1 z).toInt64) := by rw [sp_cell, if_pos ⟨ok_in hj6 (by decide), ok_in hj18 (by decide)⟩, ix_nI (by omega), ho]; show (if nI a1 = nI j18 then (if ok (nI z) n1 = true then _ else _) else _) = _; rw [if_pos (hln a1 n1 f1 ho), if_pos (ok_in hz (by omega)), ix_nI (by omega)]
          rw [e2]
          exact ⟨_, rfl, fun q hq => up_o (by omega), hM.upf 0, rfl⟩
      · obtain ⟨a, n, f, ho⟩ := shM_pos (hSh1 _ hj6) c34
        have hs := hSh1 _ hj6
        rw [ho] at hs
        refine r_s (pc' := 38) dX7_cell_37 rfl rfl ?_
        refine r_gr (pc' := 41) dX7_cell_38 rfl fX7_64 (hl_ rfl) rfl rfl ?_
        refine r_s (pc' := 42) dX7_cell_41 rfl rfl ?_
        refine h_ald (pc' := 43) dX7_cell_42 rfl (hl_ rfl) rfl (vp_in_nI (by omega) (by decide)) (nI_clamp (by omega)) ?_
        refine r_top (hs.2.1) ?_
        refine r_s (pc' := 44) dX7_cell_43 rfl rfl ?_
        refine r_ceq (pc' := 47) (tgt := 53) dX7_cell_44 rfl (by decide) (fun c44 => ?_) (fun c44 => ?_)
        · have hln : ∀ a n f, η j6 = some (a, n, f) → nI a = nI j18 := fun a' n' f' e => by
            have e9 := ho.symm.trans e
            simp only [Option.some.injEq, Prod.mk.injEq] at e9
            rw [← e9.1]; exact c44
          clear ho hs
          refine r_s (pc' := 54) dX7_cell_53 rfl rfl ?_
          refine r_s (pc' := 55) dX7_cell_54 rfl rfl ?_
          refine r_s (pc' := 56) dX7_cell_55 rfl rfl ?_
          refine r_Vi2 (pc' := 59) dX7_cell_56 rfl lX7_231 (hl_ rfl) rfl rfl rfl rfl (Nat.le_of_ble_eq_true rfl) (Nat.le_of_ble_eq_true rfl) (ct_X7_noCell (by omega) (hSh1 _ hj6) (hWh _ hj6)) (fun r56 h56 e56 => ?_)
          rcases e56 with ⟨rfl, rfl, ho⟩ | ⟨rfl, rfl, a1, n1, f1, ho, hni⟩ | ⟨rfl, rfl, a1, n1, f1, z, ho, hz, rfl⟩
          · refine r_ifle_f (pc' := 62) (tgt := 75) dX7_cell_59 rfl (by decide) (by decide) ?_
            refine r_s (pc' := 63) dX7_cell_62 rfl rfl ?_
            refine r_s (pc' := 64) dX7_cell_63 rfl rfl ?_
            refine r_s (pc' := 65) dX7_cell_64 rfl rfl ?_
            refine r_s (pc' := 66) dX7_cell_65 rfl rfl ?_
            refine r_Vi2 (pc' := 69) dX7_cell_66 rfl lX7_231 (hl_ rfl) rfl rfl rfl rfl (Nat.le_of_ble_eq_true rfl) (Nat.le_of_ble_eq_true rfl) (ct_X7_noCell (by omega) (hSh1 _ hj6) (hWh _ hj6)) (fun r66 h66 e66 => ?_)
            rcases e66 with ⟨rfl, rfl, ho'⟩ | ⟨rfl, rfl, a', n', f', ho', hni'⟩ | ⟨rfl, rfl, a', n', f', z', ho', hz', hzz'⟩
            · refine r_Vl1 (pc' := 72) dX7_cell_69 rfl lX7_234 (hl_ rfl) rfl rfl rfl rfl (Nat.le_of_ble_eq_true rfl) (Nat.le_of_ble_eq_true rfl) (ct_X7_failedLong (f := 1)) (fun r69 h69 e69 => ?_)
              obtain ⟨rfl, rfl⟩ := e69
              refine r_goto (tgt := 87) dX7_cell_72 (by decide) ?_
              refine r_retl dX7_cell_87 rfl (Nat.le_of_ble_eq_true rfl) (Nat.le_of_ble_eq_true rfl) ⟨_, rfl, ?_⟩
              have e2 : sp_cell η (nI j6) i (nI j18) = (1, LOSTv) := by rw [sp_cell, if_pos ⟨ok_in hj6 (by decide), ok_in hj18 (by decide)⟩, ix_nI (by omega), ho]
              rw [e2]
              exact ⟨_, rfl, fun q hq => by rw [up_o (by omega), up_o (by omega)], (hM.upf 0).upf 1, rfl⟩
            · refine r_Vl1 (pc' := 72) dX7_cell_69 rfl lX7_234 (hl_ rfl) rfl rfl rfl rfl (Nat.le_of_ble_eq_true rfl) (Nat.le_of_ble_eq_true rfl) (ct_X7_failedLong (f := 3)) (fun r69 h69 e69 => ?_)
              obtain ⟨rfl, rfl⟩ := e69
              refine r_goto (tgt := 87) dX7_cell_72 (by decide) ?_
              refine r_retl dX7_cell_87 rfl (Nat.le_of_ble_eq_true rfl) (Nat.le_of_ble_eq_true rfl) ⟨_, rfl, ?_⟩
              exact absurd (ho.symm.trans ho') (by simp)
            · refine r_Vl1 (pc' := 72) dX7_cell_69 rfl lX7_234 (hl_ rfl) rfl rfl rfl rfl (Nat.le_of_ble_eq_true rfl) (Nat.le_of_ble_eq_true rfl) (ct_X7_failedLong (f := 0)) (fun r69 h69 e69 => ?_)
              obtain ⟨rfl, rfl⟩ := e69
              refine r_goto (tgt := 87) dX7_cell_72 (by decide) ?_
              refine r_retl dX7_cell_87 rfl (Nat.le_of_ble_eq_true rfl) (Nat.le_of_ble_eq_true rfl) ⟨_, rfl, ?_⟩
              exact absurd (ho.symm.trans ho') (by simp)
          · refine r_ifle_f (pc' := 62) (tgt := 75) dX7_cell_59 rfl (by decide) (by decide) ?_
            refine r_s (pc' := 63) dX7_cell_62 rfl rfl ?_
            refine r_s (pc' := 64) dX7_cell_63 rfl rfl ?_
            refine r_s (pc' := 65) dX7_cell_64 rfl rfl ?_
            refine r_s (pc' := 66) dX7_cell_65 rfl rfl ?_
            refine r_Vi2 (pc' := 69) dX7_cell_66 rfl lX7_231 (hl_ rfl) rfl rfl rfl rfl (Nat.le_of_ble_eq_true rfl) (Nat.le_of_ble_eq_true rfl) (ct_X7_noCell (by omega) (hSh1 _ hj6) (hWh _ hj6)) (fun r66 h66 e66 => ?_)
            rcases e66 with ⟨rfl, rfl, ho'⟩ | ⟨rfl, rfl, a', n', f', ho', hni'⟩ | ⟨rfl, rfl, a', n', f', z', ho', hz', hzz'⟩
            · refine r_Vl1 (pc' := 72) dX7_cell_69 rfl lX7_234 (hl_ rfl) rfl rfl rfl rfl (Nat.le_of_ble_eq_true rfl) (Nat.le_of_ble_eq_true rfl) (ct_X7_failedLong (f := 1)) (fun r69 h69 e69 => ?_)
              obtain ⟨rfl, rfl⟩ := e69
              refine r_goto (tgt := 87) dX7_cell_72 (by decide) ?_
              refine r_retl dX7_cell_87 rfl (Nat.le_of_ble_eq_true rfl) (Nat.le_of_ble_eq_true rfl) ⟨_, rfl, ?_⟩
              exact absurd (ho.symm.trans ho') (by simp)
            · refine r_Vl1 (pc' := 72) dX7_cell_69 rfl lX7_234 (hl_ rfl) rfl rfl rfl rfl (Nat.le_of_ble_eq_true rfl) (Nat.le_of_ble_eq_true rfl) (ct_X7_failedLong (f := 3)) (fun r69 h69 e69 => ?_)
              obtain ⟨rfl, rfl⟩ := e69
              refine r_goto (tgt := 87) dX7_cell_72 (by decide) ?_
              refine r_retl dX7_cell_87 rfl (Nat.le_of_ble_eq_true rfl) (Nat.le_of_ble_eq_true rfl) ⟨_, rfl, ?_⟩
              have hbd := hWh _ hj6 a1 n1 f1 ho
              have e2 : sp_cell η (nI j6) i (nI j18) = (3, LOSTv) := by rw [sp_cell, if_pos ⟨ok_in hj6 (by decide), ok_in hj18 (by decide)⟩, ix_nI (by omega), ho]; show (if nI a1 = nI j18 then (if ok i n1 = true then _ else _) else _) = _; rw [if_pos (hln a1 n1 f1 ho), ok_no (by omega) hni]; rfl
              rw [e2]
              exact ⟨_, rfl, fun q hq => by rw [up_o (by omega), up_o (by omega)], (hM.upf 0).upf 3, rfl⟩
            · refine r_Vl1 (pc' := 72) dX7_cell_69 rfl lX7_234 (hl_ rfl) rfl rfl rfl rfl (Nat.le_of_ble_eq_true rfl) (Nat.le_of_ble_eq_true rfl) (ct_X7_failedLong (f := 0)) (fun r69 h69 e69 => ?_)
              obtain ⟨rfl, rfl⟩ := e69
              refine r_goto (tgt := 87) dX7_cell_72 (by decide) ?_
              refine r_retl dX7_cell_87 rfl (Nat.le_of_ble_eq_true rfl) (Nat.le_of_ble_eq_true rfl) ⟨_, rfl, ?_⟩
              have e9 := ho.symm.trans ho'
              simp only [Option.some.injEq, Prod.mk.injEq] at e9
              obtain ⟨rfl, rfl, rfl⟩ := e9
              exact absurd hzz' (hni z' hz')
          · refine r_ifle_t (tgt := 75) dX7_cell_59 (by decide) (by decide) ?_
            have hs := hSh1 _ hj6
            rw [ho] at hs
            have hbd := hWh _ hj6 a1 n1 f1 ho
            refine r_s (pc' := 76) dX7_cell_75 rfl rfl ?_
            refine r_gr (pc' := 79) dX7_cell_76 rfl fX7_67 (hl_ rfl) rfl rfl ?_
            refine r_c (pc' := 81) dX7_cell_79 rfl kc_bipush_60 ?_
            refine r_s (pc' := 82) dX7_cell_81 rfl rfl ?_
            refine r_s (pc' := 83) dX7_cell_82 rfl rfl ?_
            refine r_top ((pk_mul 60 j6 : nI 60 * nI j6 = nI (60 * j6))) ?_
            refine r_s (pc' := 84) dX7_cell_83 rfl rfl ?_
            refine r_s (pc' := 85) dX7_cell_84 rfl rfl ?_
            refine r_top (nI_add _ _) ?_
            refine h_ald (pc' := 86) dX7_cell_85 rfl (hl_ rfl) rfl (vp_in_nI (by omega) (by decide)) (nI_clamp (by omega)) ?_
            refine r_top (hs.2.2 z hz) ?_
            refine r_s (pc' := 87) dX7_cell_86 rfl rfl ?_
            refine r_retl dX7_cell_87 rfl (Nat.le_of_ble_eq_true rfl) (Nat.le_of_ble_eq_true rfl) ⟨_, rfl, ?_⟩
            have e2 : sp_cell η (nI j6) (nI z) (nI j18) = (0, (f1 z).toInt64) := by rw [sp_cell, if_pos ⟨ok_in hj6 (by decide), ok_in hj18 (by decide)⟩, ix_nI (by omega), ho]; show (if nI a1 = nI j18 then (if ok (nI z) n1 = true then _ else _) else _) = _; rw [if_pos (hln a1 n1 f1 ho), if_pos (ok_in hz (by omega)), ix_nI (by omega)]
            rw [e2]
            exact ⟨_, rfl, fun q hq => up_o (by omega), hM.upf 0, rfl⟩
        · refine r_s (pc' := 48) dX7_cell_47 rfl rfl ?_
          refine r_c (pc' := 49) dX7_cell_48 rfl kc_iconst_2 ?_
          refine r_Vl1 (pc' := 52) dX7_cell_49 rfl lX7_234 (hl_ rfl) rfl rfl rfl rfl (Nat.le_of_ble_eq_true rfl) (Nat.le_of_ble_eq_true rfl) (ct_X7_failedLong (f := 2)) (fun r49 h49 e49 => ?_)
          obtain ⟨rfl, rfl⟩ := e49
          refine r_retl dX7_cell_52 rfl (Nat.le_of_ble_eq_true rfl) (Nat.le_of_ble_eq_true rfl) ⟨_, rfl, ?_⟩
          have e2 : sp_cell η (nI j6) i (nI j18) = (2, LOSTv) := by rw [sp_cell, if_pos ⟨ok_in hj6 (by decide), ok_in hj18 (by decide)⟩, ix_nI (by omega), ho]; show (if nI a = nI j18 then _ else _) = _; rw [if_neg c44]
          rw [e2]
          exact ⟨_, rfl, fun q hq => by rw [up_o (by omega), up_o (by omega)], (hM.upf 0).upf 2, rfl⟩
    · refine r_ifne_f (pc' := 24) (tgt := 28) dX7_cell_21 rfl (by decide) (by decide) ?_
      refine r_Sl0 (pc' := 27) dX7_cell_24 rfl lX7_82 rfl (Nat.le_of_ble_eq_true rfl) (Nat.le_of_ble_eq_true rfl) (ct_X7_lost) (fun r24 h24 e24 => ?_)
      obtain ⟨rfl, rfl⟩ := e24
      refine r_retl dX7_cell_27 rfl (Nat.le_of_ble_eq_true rfl) (Nat.le_of_ble_eq_true rfl) ⟨_, rfl, ?_⟩
      have e2 : sp_cell η (nI j6) i ln = (0, LOSTv) := by
        rw [sp_cell, if_neg]
        intro ⟨a, b⟩
        rw [ok_no (by decide) hn18] at b; cases b
      rw [e2]
      exact ⟨_, rfl, fun q hq => up_o (by omega), hM.upf 0, rfl⟩
  · refine r_ifne_t (tgt := 24) dX7_cell_9 (by decide) (by decide) ?_
    refine r_Sl0 (pc' := 27) dX7_cell_24 rfl lX7_82 rfl (Nat.le_of_ble_eq_true rfl) (Nat.le_of_ble_eq_true rfl) (ct_X7_lost) (fun r24 h24 e24 => ?_)
    obtain ⟨rfl, rfl⟩ := e24
    refine r_retl dX7_cell_27 rfl (Nat.le_of_ble_eq_true rfl) (Nat.le_of_ble_eq_true rfl) ⟨_, rfl, ?_⟩
    have e2 : sp_cell η k i ln = (0, LOSTv) := by
      rw [sp_cell, if_neg]
      intro ⟨a, b⟩
      rw [ok_no (by decide) hn6] at a; cases a
    rw [e2]
    exact ⟨_, rfl, fun q hq => up_o (by omega), hM.upf 0, rfl⟩
