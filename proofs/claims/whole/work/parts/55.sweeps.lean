def serB (ρ : zR) (fr to v n : Nat) : Bool := decide (to < zi ρ) && byB ρ 6 fr to v n

set_option maxHeartbeats 4000000 in
set_option maxRecDepth 100000 in
theorem ct_X5_ser_n {d : Nat} {x : hX} {I : Nat → Nat → Int32} {ρ : zR} (hR : isRd I 2 ρ) (hw : wfR ρ) (hz : 0 < zi ρ) (hck : I 2 10 = rmI 6) {fr to v n : Nat} (hn : n ≤ zn ρ) (hf : fr < zi ρ) (hne : fr ≠ to) (hv : v ≤ 9) (ht : to < 2 ^ 31) : ci (d + 5) MX5_sweepEmptiesRoad [.ref 42, .int (nI fr), .int (nI to), .int (nI v), .int (nI n)] (hp x I) (fun r h' => (∃ I', h' = hp x I' ∧ frT I I' ∧ r = 1 ∧ serB ρ fr to v n = true) ∨ (∃ I', h' = hp x I' ∧ frT I I' ∧ r = 0 ∧ serB ρ fr to v n = false)) := by
  have b6 : zi ρ ≤ 6 := hw.1
  have b8 : zn ρ ≤ 8 := hw.2.1
  have bg : zg ρ ≤ 8 := hw.2.2.1
  have bl : zl ρ ≤ 1 := hw.2.2.2.1
  have hN : isN 50 43 := Or.inr ⟨rfl, rfl⟩
  have s1 := hw.s9 hf
  refine c_in (L := [.ref 42, .int (nI fr), .int (nI to), .int (nI v), .int (nI n)]) rfl rfl ?_
  refine r_s (pc' := 1) dX5_sweepEmptiesRoad_0 rfl rfl ?_
  refine r_gr (pc' := 4) dX5_sweepEmptiesRoad_1 rfl fX5_27 (hl_ rfl) rfl rfl ?_
  refine r_s (pc' := 5) dX5_sweepEmptiesRoad_4 rfl rfl ?_
  refine r_Vi1 (pc' := 8) dX5_sweepEmptiesRoad_5 rfl lX5_49 (hl_ rfl) rfl rfl rfl rfl (Nat.le_of_ble_eq_true rfl) (Nat.le_of_ble_eq_true rfl) (ct_X2_hasInn (Or.inl rfl) hR.1 hw.bi) (fun r5 h5 e5 => ?_)
  rcases e5 with ⟨rfl, rfl, j5, hj5, ej5⟩ | ⟨rfl, rfl, hn5⟩
  · refine r_ifeq_f (pc' := 11) (tgt := 24) dX5_sweepEmptiesRoad_8 rfl (by decide) (by decide) ?_
    refine r_s (pc' := 12) dX5_sweepEmptiesRoad_11 rfl rfl ?_
    refine r_s (pc' := 13) dX5_sweepEmptiesRoad_12 rfl rfl ?_
    refine r_gr (pc' := 16) dX5_sweepEmptiesRoad_13 rfl fX5_27 (hl_ rfl) rfl rfl ?_
    refine r_gr (pc' := 19) dX5_sweepEmptiesRoad_16 rfl fX5_52 (hl_ rfl) rfl rfl ?_
    refine r_s (pc' := 20) dX5_sweepEmptiesRoad_19 rfl rfl ?_
    refine h_ald (pc' := 21) dX5_sweepEmptiesRoad_20 rfl (hl_ rfl) rfl (vp_in_nI (by omega) (by decide)) (nI_clamp (by omega)) ?_
    refine r_top (hR.s fr hf) ?_
    refine r_cle (pc' := 24) (tgt := 26) dX5_sweepEmptiesRoad_21 rfl (by decide) (fun c21 => ?_) (fun c21 => ?_)
    · have hto : to < zi ρ := by rw [(nI_eq ht (by omega)).mp ej5]; exact hj5
      have s2 := hw.s9 hto
      refine r_s (pc' := 27) dX5_sweepEmptiesRoad_26 rfl rfl ?_
      refine r_gr (pc' := 30) dX5_sweepEmptiesRoad_27 rfl fX5_12 (hl_ rfl) rfl rfl ?_
      refine r_s (pc' := 31) dX5_sweepEmptiesRoad_30 rfl rfl ?_
      refine r_gr (pc' := 34) dX5_sweepEmptiesRoad_31 rfl fX5_27 (hl_ rfl) rfl rfl ?_
      refine r_Vv1 (pc' := 37) dX5_sweepEmptiesRoad_34 rfl lX5_34 (hl_ rfl) rfl rfl rfl rfl (Nat.le_of_ble_eq_true rfl) (Nat.le_of_ble_eq_true rfl) (ct_X2_become_43 hR hw) (fun h34 e34 => ?_)
      obtain ⟨I1, rfl, b1, b2, b3⟩ := e34
      refine r_s (pc' := 38) dX5_sweepEmptiesRoad_37 rfl rfl ?_
      refine r_gr (pc' := 41) dX5_sweepEmptiesRoad_38 rfl fX5_12 (hl_ rfl) rfl rfl ?_
      refine r_s (pc' := 42) dX5_sweepEmptiesRoad_41 rfl rfl ?_
      refine r_s (pc' := 43) dX5_sweepEmptiesRoad_42 rfl rfl ?_
      refine r_s (pc' := 44) dX5_sweepEmptiesRoad_43 rfl rfl ?_
      refine r_Vi3 (pc' := 47) dX5_sweepEmptiesRoad_44 rfl lX5_56 (hl_ rfl) rfl rfl rfl rfl (Nat.le_of_ble_eq_true rfl) (Nat.le_of_ble_eq_true rfl) (ct_X2_sweepOver (Or.inr (Or.inr rfl)) (by omega) (by omega) hne (b2.s fr hf) (b2.s to hto) s1 s2 hv) (fun r44 h44 e44 => ?_)
      obtain ⟨rfl, rfl⟩ := e44
      refine r_s (pc' := 48) dX5_sweepEmptiesRoad_47 rfl rfl ?_
      refine r_s (pc' := 49) dX5_sweepEmptiesRoad_48 rfl rfl ?_
      refine r_gr (pc' := 52) dX5_sweepEmptiesRoad_49 rfl fX5_23 (hl_ rfl) rfl rfl ?_
      refine r_s (pc' := 54) dX5_sweepEmptiesRoad_52 rfl rfl ?_
      refine r_Vi1 (pc' := 57) dX5_sweepEmptiesRoad_54 rfl lX5_37 (hl_ rfl) rfl rfl rfl rfl (Nat.le_of_ble_eq_true rfl) (Nat.le_of_ble_eq_true rfl) (ct_X0_leaveRoadEmpty (rm := 6) (ρ := wsn ρ (swp (zs ρ) fr to v)) hN (b2.swp fr to v hne) (hw.us (swp_9 (fun j hj => hw.s9 hj) hf hto)) hz (by rw [up_o (by decide), up_o (by decide), b3]; exact hck) hn) (fun r54 h54 e54 => ?_)
      rcases e54 with ⟨I2, rfl, a2, rfl, hb⟩ | ⟨I2, rfl, a2, rfl, hb⟩
      · refine r_reti dX5_sweepEmptiesRoad_57 rfl (rfl) (Nat.le_of_ble_eq_true rfl) (Nat.le_of_ble_eq_true rfl) ⟨_, rfl, ?_⟩
        exact Or.inl ⟨I2, rfl, fun t ht => by rw [a2 t (by omega), up_o (by omega), up_o (by omega), b1 t (by omega)], rfl, by unfold serB byB; rw [decide_eq_true hto, decide_eq_true ((nI_leI (by omega) (by omega)).mp c21), Bool.true_and, Bool.true_and]; exact hb⟩
      · refine r_reti dX5_sweepEmptiesRoad_57 rfl (rfl) (Nat.le_of_ble_eq_true rfl) (Nat.le_of_ble_eq_true rfl) ⟨_, rfl, ?_⟩
        exact Or.inr ⟨I2, rfl, fun t ht => by rw [a2 t (by omega), up_o (by omega), up_o (by omega), b1 t (by omega)], rfl, by unfold serB byB; rw [decide_eq_true hto, decide_eq_true ((nI_leI (by omega) (by omega)).mp c21), Bool.true_and, Bool.true_and]; exact hb⟩
    · refine r_c (pc' := 25) dX5_sweepEmptiesRoad_24 rfl kc_iconst_0 ?_
      refine r_reti dX5_sweepEmptiesRoad_25 rfl (rfl) (Nat.le_of_ble_eq_true rfl) (Nat.le_of_ble_eq_true rfl) ⟨_, rfl, ?_⟩
      exact Or.inr ⟨I, rfl, fun _ _ => rfl, rfl, by unfold serB byB; rw [decide_eq_false (fun h => c21 (nI_le h (by omega)))]; exact Bool.and_false _⟩
  · refine r_ifeq_t (tgt := 24) dX5_sweepEmptiesRoad_8 (by decide) (by decide) ?_
    refine r_c (pc' := 25) dX5_sweepEmptiesRoad_24 rfl kc_iconst_0 ?_
    refine r_reti dX5_sweepEmptiesRoad_25 rfl (rfl) (Nat.le_of_ble_eq_true rfl) (Nat.le_of_ble_eq_true rfl) ⟨_, rfl, ?_⟩
    exact Or.inr ⟨I, rfl, fun _ _ => rfl, rfl, by unfold serB; rw [decide_eq_false (fun h => hn5 to h rfl)]; rfl⟩

set_option maxHeartbeats 4000000 in
set_option maxRecDepth 100000 in
theorem ct_X5_ser_m {d : Nat} {x : hX} {I : Nat → Nat → Int32} {ρ : zR} (hR : isRd I 2 ρ) (hw : wfR ρ) (hz : 0 < zi ρ) (hck : I 2 10 = rmI 6) {fr v n : Nat} : ci (d + 5) MX5_sweepEmptiesRoad [.ref 42, .int (nI fr), .int (-1), .int (nI v), .int (nI n)] (hp x I) (fun r h' => h' = hp x I ∧ r = 0) := by
  refine c_in (L := [.ref 42, .int (nI fr), .int (-1), .int (nI v), .int (nI n)]) rfl rfl ?_
  refine r_s (pc' := 1) dX5_sweepEmptiesRoad_0 rfl rfl ?_
  refine r_gr (pc' := 4) dX5_sweepEmptiesRoad_1 rfl fX5_27 (hl_ rfl) rfl rfl ?_
  refine r_s (pc' := 5) dX5_sweepEmptiesRoad_4 rfl rfl ?_
  refine r_Vi1 (pc' := 8) dX5_sweepEmptiesRoad_5 rfl lX5_49 (hl_ rfl) rfl rfl rfl rfl (Nat.le_of_ble_eq_true rfl) (Nat.le_of_ble_eq_true rfl) (ct_X2_hasInn (Or.inl rfl) hR.1 hw.bi) (fun r5 h5 e5 => ?_)
  rcases e5 with ⟨rfl, rfl, j5, hj5, ej5⟩ | ⟨rfl, rfl, hn5⟩
  · exact absurd (show (-1 : Int32) < 0 by decide) (by rw [ej5]; exact nI_pos (by have := hw.1; omega))
  refine r_ifeq_t (tgt := 24) dX5_sweepEmptiesRoad_8 (by decide) (by decide) ?_
  refine r_c (pc' := 25) dX5_sweepEmptiesRoad_24 rfl kc_iconst_0 ?_
  refine r_reti dX5_sweepEmptiesRoad_25 rfl (rfl) (Nat.le_of_ble_eq_true rfl) (Nat.le_of_ble_eq_true rfl) ⟨_, rfl, ?_⟩
  exact ⟨rfl, rfl⟩

set_option maxRecDepth 100000 in
theorem ls_a : ∀ k, k < 6 → nI k - 1 + Int32.ofInt 2 = nI (k + 1) ∧ ¬ nI (k + 1) < nI k - 1 ∧ nI (k + 1) < nI (k + 1) + Int32.ofInt 2 := by decide +kernel
theorem ls_y {z fr b u : Nat} (hf : fr < z) (hb : b < 2) : (u * (2 * z) + (2 * fr + b)) / (2 * z) = u ∧ (u * (2 * z) + (2 * fr + b)) % (2 * z) = 2 * fr + b := by
  have h1 : 2 * fr + b < 2 * z := by omega
  have h2 : 0 < 2 * z := by omega
  constructor
  · rw [Nat.mul_comm u, Nat.mul_add_div h2, Nat.div_eq_of_lt h1, Nat.add_zero]
  · rw [Nat.mul_comm u, Nat.mul_add_mod, Nat.mod_eq_of_lt h1]
theorem ls_v {z fr b u : Nat} (hf : fr < z) (hb : b < 2) : lsV z (u * (2 * z) + (2 * fr + b)) = u + 1 := by unfold lsV; rw [(ls_y hf hb).1]; omega
theorem ls_k {z fr b u : Nat} (hf : fr < z) (hb : b < 2) : lsK z (u * (2 * z) + (2 * fr + b)) = fr := by unfold lsK; rw [(ls_y hf hb).2]; omega
theorem ls_2 {z fr b u : Nat} (hb : b < 2) : (u * (2 * z) + (2 * fr + b)) % 2 = b := by
  have : u * (2 * z) = 2 * (u * z) := by rw [Nat.mul_left_comm]
  omega
theorem ls_P0 {ρ : zR} {n fr u : Nat} (hf : fr < zi ρ) : lsP ρ n (u * (2 * zi ρ) + (2 * fr + 0)) = (decide (0 < fr) && byB ρ 6 fr (fr - 1) (u + 1) n) := by
  unfold lsP lsT
  rw [ls_2 (by decide), if_pos rfl, if_pos rfl, ls_k hf (by decide), ls_v hf (by decide)]
theorem ls_P1 {ρ : zR} {n fr u : Nat} (hf : fr < zi ρ) : lsP ρ n (u * (2 * zi ρ) + (2 * fr + 1)) = serB ρ fr (fr + 1) (u + 1) n := by
  unfold lsP lsT serB
  rw [ls_2 (by decide), if_neg (by decide), if_neg (by decide), ls_k hf (by decide), ls_v hf (by decide)]
theorem ls_R0 {z fr u : Nat} {w : Int32} (hf : fr < z) : lsR z w (u * (2 * z) + (2 * fr + 0)) = if w = 0 then nI (u + 1) else if w = 1 then nI fr else nI (fr - 1) := by
  unfold lsR lsT
  rw [ls_2 (by decide), if_pos rfl, ls_k hf (by decide), ls_v hf (by decide)]
theorem ls_R1 {z fr u : Nat} {w : Int32} (hf : fr < z) : lsR z w (u * (2 * z) + (2 * fr + 1)) = if w = 0 then nI (u + 1) else if w = 1 then nI fr else nI (fr + 1) := by
  unfold lsR lsT
  rw [ls_2 (by decide), if_neg (show ¬ (1 : Nat) = 0 by decide), ls_k hf (by decide), ls_v hf (by decide)]
theorem ls_lt {z fr b u : Nat} (hu : u < 9) (hf : fr < z) (hb : b < 2) : u * (2 * z) + (2 * fr + b) < 18 * z := by
  have : u * (2 * z) ≤ 8 * (2 * z) := Nat.mul_le_mul_right _ (by omega)
  omega

set_option maxHeartbeats 4000000 in
set_option maxRecDepth 100000 in
theorem lp1_X5_ls {d : Nat} {Q : sm_Q} {x : hX} {ρ : zR} {I0 : Nat → Nat → Int32} {n : Nat} {wh : Int32} (hR : isRd I0 2 ρ) (hw : wfR ρ) (hz : 0 < zi ρ) (hck : I0 2 10 = rmI 6) (hn : n ≤ zn ρ) (hQ : ∀ I, frT I0 I → Q (some (.int (lst ρ n wh))) (hp x I)) {u fr : Nat} {I : Nat → Nat → Int32} {v5 : Value} (hu : u < 9) (hf6 : fr < zi ρ) (hv : ∀ j, j < u * (2 * zi ρ) + (2 * fr + 0) → lsP ρ n j = false) (h2 : frT I0 I) (hnext : ∀ (I2 : Nat → Nat → Int32) (v5 : Value), frT I0 I2 → (∀ j, j < u * (2 * zi ρ) + (2 * (fr + 1) + 0) → lsP ρ n j = false) → sm_wp (sm_c (d + 5)) 0 0 MX5_leastSweep Q 111 [.ref 42, .int (nI n), .int wh, .int (nI (u + 1)), .int (nI fr), v5] [] (hp x I2) 0 0) : sm_wp (sm_c (d + 5)) 0 0 MX5_leastSweep Q 56 [.ref 42, .int (nI n), .int wh, .int (nI (u + 1)), .int (nI fr), v5] [] (hp x I) 0 0 := by
  have b6 : zi ρ ≤ 6 := hw.1
  have b8 : zn ρ ≤ 8 := hw.2.1
  have bg : zg ρ ≤ 8 := hw.2.2.1
  have bl : zl ρ ≤ 1 := hw.2.2.2.1
  by_cases hk0 : 0 < fr
  · refine r_s (pc' := 58) dX5_leastSweep_56 rfl rfl ?_
    refine r_c (pc' := 59) dX5_leastSweep_58 rfl kc_iconst_1 ?_
    refine r_s (pc' := 60) dX5_leastSweep_59 rfl rfl ?_
    refine r_top ((pk_sub (by omega) : nI fr - nI 1 = nI (fr - 1))) ?_
    refine r_st_5_6 (pc' := 62) dX5_leastSweep_60 rfl rfl rfl ?_
    refine r_s (pc' := 64) dX5_leastSweep_62 rfl rfl ?_
    refine r_s (pc' := 66) dX5_leastSweep_64 rfl rfl ?_
    refine r_c (pc' := 67) dX5_leastSweep_66 rfl kc_iconst_1 ?_
    refine r_s (pc' := 68) dX5_leastSweep_67 rfl rfl ?_
    refine r_top (nI_1 _) ?_
    refine r_cgt_f (pc' := 71) (tgt := 111) dX5_leastSweep_68 rfl (by decide) (nI_nlt (by omega) (by omega)) ?_
    refine r_s (pc' := 72) dX5_leastSweep_71 rfl rfl ?_
    refine r_s (pc' := 74) dX5_leastSweep_72 rfl rfl ?_
    refine r_s (pc' := 76) dX5_leastSweep_74 rfl rfl ?_
    refine r_s (pc' := 77) dX5_leastSweep_76 rfl rfl ?_
    refine r_s (pc' := 78) dX5_leastSweep_77 rfl rfl ?_
    refine r_Vi4 (pc' := 81) dX5_leastSweep_78 rfl lX5_45 (hl_ rfl) rfl rfl rfl rfl (Nat.le_of_ble_eq_true rfl) (Nat.le_of_ble_eq_true rfl) (ct_X5_ser_n (hR.frT h2) hw hz (by rw [h2 2 (by decide)]; exact hck) hn hf6 (by omega) (by omega) (by omega)) (fun r78 h78 e78 => ?_)
    rcases e78 with ⟨I1, rfl, a2, rfl, hb0⟩ | ⟨I1, rfl, a2, rfl, hb0⟩
    · refine r_ifeq_f (pc' := 84) (tgt := 105) dX5_leastSweep_81 rfl (by decide) (by decide) ?_
      refine r_s (pc' := 85) dX5_leastSweep_84 rfl rfl ?_
      refine r_ifne (pc' := 88) (tgt := 92) dX5_leastSweep_85 rfl (by decide) (fun c85 => ?_) (fun c85 => ?_)
      · refine r_s (pc' := 93) dX5_leastSweep_92 rfl rfl ?_
        refine r_c (pc' := 94) dX5_leastSweep_93 rfl kc_iconst_1 ?_
        refine r_cne (pc' := 97) (tgt := 102) dX5_leastSweep_94 rfl (by decide) (fun c94 => ?_) (fun c94 => ?_)
        · refine r_s (pc' := 104) dX5_leastSweep_102 rfl rfl ?_
          refine r_reti dX5_leastSweep_104 rfl (rfl) (Nat.le_of_ble_eq_true rfl) (Nat.le_of_ble_eq_true rfl) ?_
          have eL := lst_at (w := wh) (ls_lt (b := 0) hu hf6 (by decide)) (by rw [ls_P0 hf6, decide_eq_true hk0]; unfold serB at hb0; rw [Bool.and_eq_true] at hb0; rw [hb0.2]; rfl) hv
          rw [ls_R0 hf6, if_neg c85, if_neg c94] at eL
          have hq := hQ I1 (h2.tr a2)
          rw [eL] at hq
          exact hq
        · refine r_s (pc' := 99) dX5_leastSweep_97 rfl rfl ?_
          refine r_goto (tgt := 104) dX5_leastSweep_99 (by decide) ?_
          refine r_reti dX5_leastSweep_104 rfl (rfl) (Nat.le_of_ble_eq_true rfl) (Nat.le_of_ble_eq_true rfl) ?_
          have eL := lst_at (w := wh) (ls_lt (b := 0) hu hf6 (by decide)) (by rw [ls_P0 hf6, decide_eq_true hk0]; unfold serB at hb0; rw [Bool.and_eq_true] at hb0; rw [hb0.2]; rfl) hv
          rw [ls_R0 hf6, if_neg c85, if_pos c94] at eL
          have hq := hQ I1 (h2.tr a2)
          rw [eL] at hq
          exact hq
      · refine r_s (pc' := 89) dX5_leastSweep_88 rfl rfl ?_
        refine r_goto (tgt := 104) dX5_leastSweep_89 (by decide) ?_
        refine r_reti dX5_leastSweep_104 rfl (rfl) (Nat.le_of_ble_eq_true rfl) (Nat.le_of_ble_eq_true rfl) ?_
        have eL := lst_at (w := wh) (ls_lt (b := 0) hu hf6 (by decide)) (by rw [ls_P0 hf6, decide_eq_true hk0]; unfold serB at hb0; rw [Bool.and_eq_true] at hb0; rw [hb0.2]; rfl) hv
        rw [ls_R0 hf6, if_pos c85] at eL
        have hq := hQ I1 (h2.tr a2)
        rw [eL] at hq
        exact hq
    · refine r_ifeq_t (tgt := 105) dX5_leastSweep_81 (by decide) (by decide) ?_
      refine r_in_5_6 (pc' := 108) dX5_leastSweep_105 rfl rfl ((show nI (fr - 1) + Int32.ofInt 2 = nI (fr + 1) by rw [i2]; exact congrArg nI (by omega))) ?_
      refine r_goto (tgt := 62) dX5_leastSweep_108 (by decide) ?_
      have hfr1 := h2.tr a2
      have hv1 : ∀ j, j < u * (2 * zi ρ) + (2 * fr + 1) → lsP ρ n j = false := fun j hj => by
        by_cases e : j = u * (2 * zi ρ) + (2 * fr + 0)
        · rw [e, ls_P0 hf6]; unfold serB at hb0; rw [decide_eq_true (show fr - 1 < zi ρ by omega), Bool.true_and] at hb0; rw [hb0, Bool.and_false]
        · exact hv j (by omega)
      refine r_s (pc' := 64) dX5_leastSweep_62 rfl rfl ?_
      refine r_s (pc' := 66) dX5_leastSweep_64 rfl rfl ?_
      refine r_c (pc' := 67) dX5_leastSweep_66 rfl kc_iconst_1 ?_
      refine r_s (pc' := 68) dX5_leastSweep_67 rfl rfl ?_
      refine r_top (nI_1 _) ?_
      refine r_cgt_f (pc' := 71) (tgt := 111) dX5_leastSweep_68 rfl (by decide) (nI_nlt (Nat.le_refl _) (by omega)) ?_
      refine r_s (pc' := 72) dX5_leastSweep_71 rfl rfl ?_
      refine r_s (pc' := 74) dX5_leastSweep_72 rfl rfl ?_
      refine r_s (pc' := 76) dX5_leastSweep_74 rfl rfl ?_
      refine r_s (pc' := 77) dX5_leastSweep_76 rfl rfl ?_
      refine r_s (pc' := 78) dX5_leastSweep_77 rfl rfl ?_
      refine r_Vi4 (pc' := 81) dX5_leastSweep_78 rfl lX5_45 (hl_ rfl) rfl rfl rfl rfl (Nat.le_of_ble_eq_true rfl) (Nat.le_of_ble_eq_true rfl) (ct_X5_ser_n (hR.frT hfr1) hw hz (by rw [hfr1 2 (by decide)]; exact hck) hn hf6 (by omega) (by omega) (by omega)) (fun r78 h78 e78 => ?_)
      rcases e78 with ⟨I2, rfl, a3, rfl, hb1⟩ | ⟨I2, rfl, a3, rfl, hb1⟩
      · have hfr2 := hfr1.tr a3
        refine r_ifeq_f (pc' := 84) (tgt := 105) dX5_leastSweep_81 rfl (by decide) (by decide) ?_
        refine r_s (pc' := 85) dX5_leastSweep_84 rfl rfl ?_
        refine r_ifne (pc' := 88) (tgt := 92) dX5_leastSweep_85 rfl (by decide) (fun c85 => ?_) (fun c85 => ?_)
        · refine r_s (pc' := 93) dX5_leastSweep_92 rfl rfl ?_
          refine r_c (pc' := 94) dX5_leastSweep_93 rfl kc_iconst_1 ?_
          refine r_cne (pc' := 97) (tgt := 102) dX5_leastSweep_94 rfl (by decide) (fun c94 => ?_) (fun c94 => ?_)
          · refine r_s (pc' := 104) dX5_leastSweep_102 rfl rfl ?_
            refine r_reti dX5_leastSweep_104 rfl (rfl) (Nat.le_of_ble_eq_true rfl) (Nat.le_of_ble_eq_true rfl) ?_
            have eL := lst_at (w := wh) (ls_lt (b := 1) hu hf6 (by decide)) (by rw [ls_P1 hf6]; exact hb1) hv1
            rw [ls_R1 hf6, if_neg c85, if_neg c94] at eL
            have hq := hQ I2 hfr2
            rw [eL] at hq
            exact hq
          · refine r_s (pc' := 99) dX5_leastSweep_97 rfl rfl ?_
            refine r_goto (tgt := 104) dX5_leastSweep_99 (by decide) ?_
            refine r_reti dX5_leastSweep_104 rfl (rfl) (Nat.le_of_ble_eq_true rfl) (Nat.le_of_ble_eq_true rfl) ?_
            have eL := lst_at (w := wh) (ls_lt (b := 1) hu hf6 (by decide)) (by rw [ls_P1 hf6]; exact hb1) hv1
            rw [ls_R1 hf6, if_neg c85, if_pos c94] at eL
            have hq := hQ I2 hfr2
            rw [eL] at hq
            exact hq
        · refine r_s (pc' := 89) dX5_leastSweep_88 rfl rfl ?_
          refine r_goto (tgt := 104) dX5_leastSweep_89 (by decide) ?_
          refine r_reti dX5_leastSweep_104 rfl (rfl) (Nat.le_of_ble_eq_true rfl) (Nat.le_of_ble_eq_true rfl) ?_
          have eL := lst_at (w := wh) (ls_lt (b := 1) hu hf6 (by decide)) (by rw [ls_P1 hf6]; exact hb1) hv1
          rw [ls_R1 hf6, if_pos c85] at eL
          have hq := hQ I2 hfr2
          rw [eL] at hq
          exact hq
      · have hfr2 := hfr1.tr a3
        refine r_ifeq_t (tgt := 105) dX5_leastSweep_81 (by decide) (by decide) ?_
        refine r_in_5_6 (pc' := 108) dX5_leastSweep_105 rfl rfl (rfl) ?_
        refine r_goto (tgt := 62) dX5_leastSweep_108 (by decide) ?_
        refine r_s (pc' := 64) dX5_leastSweep_62 rfl rfl ?_
        refine r_s (pc' := 66) dX5_leastSweep_64 rfl rfl ?_
        refine r_c (pc' := 67) dX5_leastSweep_66 rfl kc_iconst_1 ?_
        refine r_s (pc' := 68) dX5_leastSweep_67 rfl rfl ?_
        refine r_top (nI_1 _) ?_
        refine r_cgt_t (tgt := 111) dX5_leastSweep_68 (by decide) ((ls_a fr (by omega)).2.2) ?_
        exact hnext I2 _ hfr2 (by
          intro j hj
          by_cases e : j = u * (2 * zi ρ) + (2 * fr + 1)
          · rw [e, ls_P1 hf6]; exact hb1
          · exact hv1 j (by omega))
  · refine r_s (pc' := 58) dX5_leastSweep_56 rfl rfl ?_
    refine r_c (pc' := 59) dX5_leastSweep_58 rfl kc_iconst_1 ?_
    refine r_s (pc' := 60) dX5_leastSweep_59 rfl rfl ?_
    refine r_top ((show _ = (-1 : Int32) by rw [show fr = 0 by omega]; rfl)) ?_
    refine r_st_5_6 (pc' := 62) dX5_leastSweep_60 rfl rfl rfl ?_
    refine r_s (pc' := 64) dX5_leastSweep_62 rfl rfl ?_
    refine r_s (pc' := 66) dX5_leastSweep_64 rfl rfl ?_
    refine r_c (pc' := 67) dX5_leastSweep_66 rfl kc_iconst_1 ?_
    refine r_s (pc' := 68) dX5_leastSweep_67 rfl rfl ?_
    refine r_top (nI_1 _) ?_
    refine r_cgt_f (pc' := 71) (tgt := 111) dX5_leastSweep_68 rfl (by decide) (by rw [show fr = 0 by omega]; decide) ?_
    refine r_s (pc' := 72) dX5_leastSweep_71 rfl rfl ?_
    refine r_s (pc' := 74) dX5_leastSweep_72 rfl rfl ?_
    refine r_s (pc' := 76) dX5_leastSweep_74 rfl rfl ?_
    refine r_s (pc' := 77) dX5_leastSweep_76 rfl rfl ?_
    refine r_s (pc' := 78) dX5_leastSweep_77 rfl rfl ?_
    refine r_Vi4 (pc' := 81) dX5_leastSweep_78 rfl lX5_45 (hl_ rfl) rfl rfl rfl rfl (Nat.le_of_ble_eq_true rfl) (Nat.le_of_ble_eq_true rfl) (ct_X5_ser_m (hR.frT h2) hw hz (by rw [h2 2 (by decide)]; exact hck)) (fun r78 h78 e78 => ?_)
    obtain ⟨rfl, rfl⟩ := e78
    refine r_ifeq_t (tgt := 105) dX5_leastSweep_81 (by decide) (by decide) ?_
    refine r_in_5_6 (pc' := 108) dX5_leastSweep_105 rfl rfl ((show (-1 : Int32) + Int32.ofInt 2 = nI (fr + 1) by rw [show fr = 0 by omega]; rfl)) ?_
    refine r_goto (tgt := 62) dX5_leastSweep_108 (by decide) ?_
    have hv1 : ∀ j, j < u * (2 * zi ρ) + (2 * fr + 1) → lsP ρ n j = false := fun j hj => by
      by_cases e : j = u * (2 * zi ρ) + (2 * fr + 0)
      · rw [e, ls_P0 hf6]; rw [decide_eq_false hk0, Bool.false_and]
      · exact hv j (by omega)
    refine r_s (pc' := 64) dX5_leastSweep_62 rfl rfl ?_
    refine r_s (pc' := 66) dX5_leastSweep_64 rfl rfl ?_
    refine r_c (pc' := 67) dX5_leastSweep_66 rfl kc_iconst_1 ?_
    refine r_s (pc' := 68) dX5_leastSweep_67 rfl rfl ?_
    refine r_top (nI_1 _) ?_
    refine r_cgt_f (pc' := 71) (tgt := 111) dX5_leastSweep_68 rfl (by decide) (nI_nlt (Nat.le_refl _) (by omega)) ?_
    refine r_s (pc' := 72) dX5_leastSweep_71 rfl rfl ?_
    refine r_s (pc' := 74) dX5_leastSweep_72 rfl rfl ?_
    refine r_s (pc' := 76) dX5_leastSweep_74 rfl rfl ?_
    refine r_s (pc' := 77) dX5_leastSweep_76 rfl rfl ?_
    refine r_s (pc' := 78) dX5_leastSweep_77 rfl rfl ?_
    refine r_Vi4 (pc' := 81) dX5_leastSweep_78 rfl lX5_45 (hl_ rfl) rfl rfl rfl rfl (Nat.le_of_ble_eq_true rfl) (Nat.le_of_ble_eq_true rfl) (ct_X5_ser_n (hR.frT h2) hw hz (by rw [h2 2 (by decide)]; exact hck) hn hf6 (by omega) (by omega) (by omega)) (fun r78 h78 e78 => ?_)
    rcases e78 with ⟨I2, rfl, a3, rfl, hb1⟩ | ⟨I2, rfl, a3, rfl, hb1⟩
    · have hfr2 := h2.tr a3
      refine r_ifeq_f (pc' := 84) (tgt := 105) dX5_leastSweep_81 rfl (by decide) (by decide) ?_
      refine r_s (pc' := 85) dX5_leastSweep_84 rfl rfl ?_
      refine r_ifne (pc' := 88) (tgt := 92) dX5_leastSweep_85 rfl (by decide) (fun c85 => ?_) (fun c85 => ?_)
      · refine r_s (pc' := 93) dX5_leastSweep_92 rfl rfl ?_
        refine r_c (pc' := 94) dX5_leastSweep_93 rfl kc_iconst_1 ?_
        refine r_cne (pc' := 97) (tgt := 102) dX5_leastSweep_94 rfl (by decide) (fun c94 => ?_) (fun c94 => ?_)
        · refine r_s (pc' := 104) dX5_leastSweep_102 rfl rfl ?_
          refine r_reti dX5_leastSweep_104 rfl (rfl) (Nat.le_of_ble_eq_true rfl) (Nat.le_of_ble_eq_true rfl) ?_
          have eL := lst_at (w := wh) (ls_lt (b := 1) hu hf6 (by decide)) (by rw [ls_P1 hf6]; exact hb1) hv1
          rw [ls_R1 hf6, if_neg c85, if_neg c94] at eL
          have hq := hQ I2 hfr2
          rw [eL] at hq
          exact hq
        · refine r_s (pc' := 99) dX5_leastSweep_97 rfl rfl ?_
          refine r_goto (tgt := 104) dX5_leastSweep_99 (by decide) ?_
          refine r_reti dX5_leastSweep_104 rfl (rfl) (Nat.le_of_ble_eq_true rfl) (Nat.le_of_ble_eq_true rfl) ?_
          have eL := lst_at (w := wh) (ls_lt (b := 1) hu hf6 (by decide)) (by rw [ls_P1 hf6]; exact hb1) hv1
          rw [ls_R1 hf6, if_neg c85, if_pos c94] at eL
          have hq := hQ I2 hfr2
          rw [eL] at hq
          exact hq
      · refine r_s (pc' := 89) dX5_leastSweep_88 rfl rfl ?_
        refine r_goto (tgt := 104) dX5_leastSweep_89 (by decide) ?_
        refine r_reti dX5_leastSweep_104 rfl (rfl) (Nat.le_of_ble_eq_true rfl) (Nat.le_of_ble_eq_true rfl) ?_
        have eL := lst_at (w := wh) (ls_lt (b := 1) hu hf6 (by decide)) (by rw [ls_P1 hf6]; exact hb1) hv1
        rw [ls_R1 hf6, if_pos c85] at eL
        have hq := hQ I2 hfr2
        rw [eL] at hq
        exact hq
    · have hfr2 := h2.tr a3
      refine r_ifeq_t (tgt := 105) dX5_leastSweep_81 (by decide) (by decide) ?_
      refine r_in_5_6 (pc' := 108) dX5_leastSweep_105 rfl rfl (rfl) ?_
      refine r_goto (tgt := 62) dX5_leastSweep_108 (by decide) ?_
      refine r_s (pc' := 64) dX5_leastSweep_62 rfl rfl ?_
      refine r_s (pc' := 66) dX5_leastSweep_64 rfl rfl ?_
      refine r_c (pc' := 67) dX5_leastSweep_66 rfl kc_iconst_1 ?_
      refine r_s (pc' := 68) dX5_leastSweep_67 rfl rfl ?_
      refine r_top (nI_1 _) ?_
      refine r_cgt_t (tgt := 111) dX5_leastSweep_68 (by decide) ((ls_a fr (by omega)).2.2) ?_
      exact hnext I2 _ hfr2 (by
        intro j hj
        by_cases e : j = u * (2 * zi ρ) + (2 * fr + 1)
        · rw [e, ls_P1 hf6]; exact hb1
        · exact hv1 j (by omega))

set_option maxHeartbeats 4000000 in
set_option maxRecDepth 100000 in
theorem lp2_X5_ls {d : Nat} {Q : sm_Q} {x : hX} {ρ : zR} {I0 : Nat → Nat → Int32} {n : Nat} {wh : Int32} (hR : isRd I0 2 ρ) (hw : wfR ρ) (hz : 0 < zi ρ) (hck : I0 2 10 = rmI 6) (hn : n ≤ zn ρ) (hQ : ∀ I, frT I0 I → Q (some (.int (lst ρ n wh))) (hp x I)) {u : Nat} (hu : u < 9) (hnext : ∀ (I2 : Nat → Nat → Int32) (v5 : Value), frT I0 I2 → (∀ j, j < (u + 1) * (2 * zi ρ) → lsP ρ n j = false) → sm_wp (sm_c (d + 5)) 0 0 MX5_leastSweep Q 117 [.ref 42, .int (nI n), .int wh, .int (nI (u + 1)), .int (nI (zi ρ)), v5] [] (hp x I2) 0 0) : ∀ (m i : Nat) (v5 : Value) (I : Nat → Nat → Int32), i + m = zi ρ → (∀ j, j < u * (2 * zi ρ) + (2 * i + 0) → lsP ρ n j = false) → frT I0 I → sm_wp (sm_c (d + 5)) 0 0 MX5_leastSweep Q 44 [.ref 42, .int (nI n), .int wh, .int (nI (u + 1)), .int (nI i), v5] [] (hp x I) 0 0 := by
  have b6 : zi ρ ≤ 6 := hw.1
  have b8 : zn ρ ≤ 8 := hw.2.1
  have bg : zg ρ ≤ 8 := hw.2.2.1
  have bl : zl ρ ≤ 1 := hw.2.2.2.1
  intro m
  induction m with
  | zero =>
    intro i v5 I hi hv h2
    have hi : i = zi ρ := by omega
    refine r_s (pc' := 46) dX5_leastSweep_44 rfl rfl ?_
    refine r_s (pc' := 47) dX5_leastSweep_46 rfl rfl ?_
    refine r_gr (pc' := 50) dX5_leastSweep_47 rfl fX5_27 (hl_ rfl) rfl rfl ?_
    refine h_gi (pc' := 53) dX5_leastSweep_50 rfl fX5_41 (hl_ rfl) rfl ?_
    refine r_top ((hR.frT h2).1) ?_
    refine r_cge_t (tgt := 117) dX5_leastSweep_53 (by decide) (by rw [hi]; exact Int32.le_refl _) ?_
    rw [hi] at hv ⊢; exact hnext I v5 h2 (fun j hj => hv j (by rw [Nat.succ_mul] at hj; omega))
  | succ m ih =>
    intro i v5 I hi hv h2
    refine r_s (pc' := 46) dX5_leastSweep_44 rfl rfl ?_
    refine r_s (pc' := 47) dX5_leastSweep_46 rfl rfl ?_
    refine r_gr (pc' := 50) dX5_leastSweep_47 rfl fX5_27 (hl_ rfl) rfl rfl ?_
    refine h_gi (pc' := 53) dX5_leastSweep_50 rfl fX5_41 (hl_ rfl) rfl ?_
    refine r_top ((hR.frT h2).1) ?_
    refine r_cge_f (pc' := 56) (tgt := 117) dX5_leastSweep_53 rfl (by decide) (nI_ge (by omega) (by omega)) ?_
    refine lp1_X5_ls (I0 := I0) hR hw hz hck hn hQ hu (by omega) hv h2 (fun I2 w5 g2 gv => ?_)
    refine r_in_4_6 (pc' := 114) dX5_leastSweep_111 rfl rfl (i1 _) ?_
    refine r_goto (tgt := 44) dX5_leastSweep_114 (by decide) ?_
    exact ih (i + 1) w5 I2 (by omega) gv g2

set_option maxHeartbeats 4000000 in
set_option maxRecDepth 100000 in
theorem lp3_X5_ls {d : Nat} {Q : sm_Q} {x : hX} {ρ : zR} {I0 : Nat → Nat → Int32} {n : Nat} {wh : Int32} (hR : isRd I0 2 ρ) (hw : wfR ρ) (hz : 0 < zi ρ) (hck : I0 2 10 = rmI 6) (hn : n ≤ zn ρ) (hQ : ∀ I, frT I0 I → Q (some (.int (lst ρ n wh))) (hp x I)) : ∀ (m i : Nat) (v4 v5 : Value) (I : Nat → Nat → Int32), i + m = 9 → (∀ j, j < i * (2 * zi ρ) → lsP ρ n j = false) → frT I0 I → sm_wp (sm_c (d + 5)) 0 0 MX5_leastSweep Q 35 [.ref 42, .int (nI n), .int wh, .int (nI (i + 1)), v4, v5] [] (hp x I) 0 0 := by
  have b6 : zi ρ ≤ 6 := hw.1
  have b8 : zn ρ ≤ 8 := hw.2.1
  have bg : zg ρ ≤ 8 := hw.2.2.1
  have bl : zl ρ ≤ 1 := hw.2.2.2.1
  intro m
  induction m with
  | zero =>
    intro i v4 v5 I hi hv h2
    have hi : i = 9 := by omega
    refine r_s (pc' := 36) dX5_leastSweep_35 rfl rfl ?_
    refine r_c (pc' := 38) dX5_leastSweep_36 rfl kc_bipush_9 ?_
    refine r_cgt_t (tgt := 123) dX5_leastSweep_38 (by decide) (by rw [hi]; exact (by decide : nI 9 < nI (9 + 1))) ?_
    refine r_c (pc' := 125) dX5_leastSweep_123 rfl kc_bipush_m9 ?_
    refine r_reti dX5_leastSweep_125 rfl (rfl) (Nat.le_of_ble_eq_true rfl) (Nat.le_of_ble_eq_true rfl) ?_
    rw [hi] at hv; rw [← lst_no (w := wh) (fun j hj => hv j (by omega))]; exact hQ I h2
  | succ m ih =>
    intro i v4 v5 I hi hv h2
    refine r_s (pc' := 36) dX5_leastSweep_35 rfl rfl ?_
    refine r_c (pc' := 38) dX5_leastSweep_36 rfl kc_bipush_9 ?_
    refine r_cgt_f (pc' := 41) (tgt := 123) dX5_leastSweep_38 rfl (by decide) (nI_nlt (a := 9) (b := i + 1) (by omega) (by decide)) ?_
    refine r_c (pc' := 42) dX5_leastSweep_41 rfl kc_iconst_0 ?_
    refine r_st_4_6 (pc' := 44) dX5_leastSweep_42 rfl rfl rfl ?_
    refine lp2_X5_ls (I0 := I0) (u := i) hR hw hz hck hn hQ (by omega) (fun I2 w5 g2 gv => ?_) (zi ρ) 0 _ I (by omega) (fun j hj => hv j (by omega)) h2
    refine r_in_3_6 (pc' := 120) dX5_leastSweep_117 rfl rfl (i1 _) ?_
    refine r_goto (tgt := 35) dX5_leastSweep_120 (by decide) ?_
    exact ih (i + 1) _ w5 I2 (by omega) gv g2

set_option maxHeartbeats 4000000 in
set_option maxRecDepth 100000 in
theorem ct_X5_leastSweep {d : Nat} {x : hX} {I : Nat → Nat → Int32} {ρ : zR} (hR : isRd I 2 ρ) (hw : wfR ρ) (hz : 0 < zi ρ) (hck : I 2 10 = rmI 6) {n : Nat} {wh : Int32} (hn : n ≤ zn ρ) : ci (d + 6) MX5_leastSweep [.ref 42, .int (nI n), .int wh] (hp x I) (fun r h' => ∃ I', h' = hp x I' ∧ frT I I' ∧ r = (if allB (rds ρ 6 (zw ρ)) n = true then (if wh = 0 then 0 else -9) else lst ρ n wh)) := by
  have b6 : zi ρ ≤ 6 := hw.1
  have b8 : zn ρ ≤ 8 := hw.2.1
  have bg : zg ρ ≤ 8 := hw.2.2.1
  have bl : zl ρ ≤ 1 := hw.2.2.2.1
  have hN : isN 50 43 := Or.inr ⟨rfl, rfl⟩
  refine c_in (L := [.ref 42, .int (nI n), .int wh, .null, .null, .null]) rfl rfl ?_
  refine r_s (pc' := 1) dX5_leastSweep_0 rfl rfl ?_
  refine r_gr (pc' := 4) dX5_leastSweep_1 rfl fX5_12 (hl_ rfl) rfl rfl ?_
  refine r_s (pc' := 5) dX5_leastSweep_4 rfl rfl ?_
  refine r_gr (pc' := 8) dX5_leastSweep_5 rfl fX5_27 (hl_ rfl) rfl rfl ?_
  refine r_Vv1 (pc' := 11) dX5_leastSweep_8 rfl lX5_34 (hl_ rfl) rfl rfl rfl rfl (Nat.le_of_ble_eq_true rfl) (Nat.le_of_ble_eq_true rfl) (ct_X2_become_43 hR hw) (fun h8 e8 => ?_)
  obtain ⟨I1, rfl, b1, b2, b3⟩ := e8
  refine r_s (pc' := 12) dX5_leastSweep_11 rfl rfl ?_
  refine r_gr (pc' := 15) dX5_leastSweep_12 rfl fX5_23 (hl_ rfl) rfl rfl ?_
  refine r_s (pc' := 16) dX5_leastSweep_15 rfl rfl ?_
  refine r_Vi1 (pc' := 19) dX5_leastSweep_16 rfl lX5_37 (hl_ rfl) rfl rfl rfl rfl (Nat.le_of_ble_eq_true rfl) (Nat.le_of_ble_eq_true rfl) (ct_X0_leaveRoadEmpty (rm := 6) hN b2 hw hz (by rw [b3]; exact hck) hn) (fun r16 h16 e16 => ?_)
  rcases e16 with ⟨I2, rfl, a2, rfl, hb⟩ | ⟨I2, rfl, a2, rfl, hb⟩
  · refine r_ifeq_f (pc' := 22) (tgt := 33) dX5_leastSweep_19 rfl (by decide) (by decide) ?_
    refine r_s (pc' := 23) dX5_leastSweep_22 rfl rfl ?_
    refine r_ifne (pc' := 26) (tgt := 30) dX5_leastSweep_23 rfl (by decide) (fun c23 => ?_) (fun c23 => ?_)
    · refine r_c (pc' := 32) dX5_leastSweep_30 rfl kc_bipush_m9 ?_
      refine r_reti dX5_leastSweep_32 rfl (rfl) (Nat.le_of_ble_eq_true rfl) (Nat.le_of_ble_eq_true rfl) ⟨_, rfl, ?_⟩
      exact ⟨I2, rfl, frN_T b1 a2, by rw [if_pos hb, if_neg c23]⟩
    · refine r_c (pc' := 27) dX5_leastSweep_26 rfl kc_iconst_0 ?_
      refine r_goto (tgt := 32) dX5_leastSweep_27 (by decide) ?_
      refine r_reti dX5_leastSweep_32 rfl (rfl) (Nat.le_of_ble_eq_true rfl) (Nat.le_of_ble_eq_true rfl) ⟨_, rfl, ?_⟩
      exact ⟨I2, rfl, frN_T b1 a2, by rw [if_pos hb, if_pos c23]⟩
  · refine r_ifeq_t (tgt := 33) dX5_leastSweep_19 (by decide) (by decide) ?_
    refine r_c (pc' := 34) dX5_leastSweep_33 rfl kc_iconst_1 ?_
    refine r_st_3_6 (pc' := 35) dX5_leastSweep_34 rfl rfl rfl ?_
    exact lp3_X5_ls (I0 := I) hR hw hz hck hn (fun I3 g3 => ⟨_, rfl, I3, rfl, g3, by rw [if_neg (fun e => by rw [hb] at e; cases e)]⟩) 9 0 _ _ I2 (by omega) (fun j hj => absurd hj (by omega)) (frN_T b1 a2)
