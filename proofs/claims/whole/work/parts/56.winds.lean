def sm2 (f : Nat → Nat) : Nat → Nat
  | 0 => 0
  | i + 1 => sm2 f i + f i
/-- of all winds of m nights more, how many bring the family M together -/
def mwn (ρ : zR) (M : Nat) : Nat → Nat → zN → Nat
  | 0, _, _ => 0
  | m + 1, night, S => sm2 (fun w => if togB (nig ρ 6 w night S).1 (zg ρ) (zi ρ) M = true then 2 ^ m else mwn ρ M m (night + 1) (nig ρ 6 w night S)) 2
def mtr (ρ : zR) (M : Nat) : Nat → Nat → zN → Nat → Bool
  | 0, _, _, _ => false
  | m + 1, night, S, row => togB (nig ρ 6 (row % 2) night S).1 (zg ρ) (zi ρ) M || mtr ρ M m (night + 1) (nig ρ 6 (row % 2) night S) (row / 2)
theorem cnt_2 (p : Nat → Bool) : ∀ n, fa_cnt p (2 * n) = fa_cnt (fun r => p (2 * r)) n + fa_cnt (fun r => p (2 * r + 1)) n
  | 0 => rfl
  | n + 1 => by
    show fa_cnt p (2 * n) + (if p (2 * n) = true then 1 else 0) + (if p (2 * n + 1) = true then 1 else 0) = (fa_cnt (fun r => p (2 * r)) n + (if p (2 * n) = true then 1 else 0)) + (fa_cnt (fun r => p (2 * r + 1)) n + (if p (2 * n + 1) = true then 1 else 0))
    rw [cnt_2 p n]
    omega
theorem cnt_all {p : Nat → Bool} (h : ∀ r, p r = true) : ∀ n, fa_cnt p n = n
  | 0 => rfl
  | n + 1 => by rw [fa_cnt_yes (h n), cnt_all h n]
theorem mwn_cnt {ρ : zR} {M : Nat} : ∀ (m night : Nat) (S : zN), mwn ρ M m night S = fa_cnt (mtr ρ M m night S) (2 ^ m)
  | 0, _, _ => rfl
  | m + 1, night, S => by
    have hb : ∀ b, b < 2 → fa_cnt (fun r => mtr ρ M (m + 1) night S (2 * r + b)) (2 ^ m) = (if togB (nig ρ 6 b night S).1 (zg ρ) (zi ρ) M = true then 2 ^ m else mwn ρ M m (night + 1) (nig ρ 6 b night S)) := by
      intro b hb
      have e : ∀ r, mtr ρ M (m + 1) night S (2 * r + b) = (togB (nig ρ 6 b night S).1 (zg ρ) (zi ρ) M || mtr ρ M m (night + 1) (nig ρ 6 b night S) r) := by
        intro r
        show (togB (nig ρ 6 ((2 * r + b) % 2) night S).1 (zg ρ) (zi ρ) M || mtr ρ M m (night + 1) (nig ρ 6 ((2 * r + b) % 2) night S) ((2 * r + b) / 2)) = _
        rw [show (2 * r + b) % 2 = b by omega, show (2 * r + b) / 2 = r by omega]
      by_cases h : togB (nig ρ 6 b night S).1 (zg ρ) (zi ρ) M = true
      · rw [if_pos h]
        exact cnt_all (fun r => by rw [e r, h]; rfl) _
      · rw [if_neg h, mwn_cnt m (night + 1) _]
        exact fa_cnt_cong (fun r _ => by rw [e r, Bool.eq_false_iff.mpr h]; rfl)
    rw [Nat.pow_succ, Nat.mul_comm, cnt_2]
    have h0 := hb 0 (by decide)
    have h1 := hb 1 (by decide)
    show 0 + _ + _ = _
    rw [Nat.zero_add]
    exact (congr (congrArg HAdd.hAdd h0) h1).symm
theorem sim_ww {ρ : zR} {f w : Nat → Nat} {rm : Nat} : ∀ n, sim (ww ρ f) rm w n = sim ρ rm w n
  | 0 => rfl
  | n + 1 => by
    show nig (ww ρ f) rm (w n) n (sim (ww ρ f) rm w n) = nig ρ rm (w n) n (sim ρ rm w n)
    rw [sim_ww n]
    rfl
theorem mt_eq {ρ : zR} {M : Nat} {w : Nat → Nat} : ∀ (m night row : Nat), (∀ i, i < m → w (night + i) = row / 2 ^ i % 2) → decide (∃ j, j < m ∧ togB (sim ρ 6 w (night + j + 1)).1 (zg ρ) (zi ρ) M = true) = mtr ρ M m night (sim ρ 6 w night) row
  | 0, night, row, _ => decide_eq_false (fun ⟨j, hj, _⟩ => absurd hj (by omega))
  | m + 1, night, row, h => by
    have h0 : w night = row % 2 := by have := h 0 (by omega); rw [Nat.add_zero, Nat.pow_zero, Nat.div_one] at this; exact this
    have e : nig ρ 6 (row % 2) night (sim ρ 6 w night) = sim ρ 6 w (night + 1) := by rw [← h0]; rfl
    show _ = (togB (nig ρ 6 (row % 2) night (sim ρ 6 w night)).1 (zg ρ) (zi ρ) M || mtr ρ M m (night + 1) (nig ρ 6 (row % 2) night (sim ρ 6 w night)) (row / 2))
    rw [e, ← mt_eq m (night + 1) (row / 2) (fun i hi => by
      have := h (i + 1) (by omega)
      rw [show night + 1 + i = night + (i + 1) by omega, this, Nat.pow_succ, Nat.mul_comm, Nat.div_div_eq_div_mul])]
    by_cases ht : togB (sim ρ 6 w (night + 1)).1 (zg ρ) (zi ρ) M = true
    · rw [ht, Bool.true_or]
      exact decide_eq_true ⟨0, by omega, ht⟩
    · rw [Bool.eq_false_iff.mpr ht, Bool.false_or, decide_eq_decide]
      constructor
      · rintro ⟨j, hj, h2⟩
        match j, hj, h2 with
        | 0, _, h2 => exact absurd h2 ht
        | j + 1, hj, h2 => exact ⟨j, by omega, by rw [show night + 1 + j + 1 = night + (j + 1) + 1 by omega]; exact h2⟩
      · rintro ⟨j, hj, h2⟩
        exact ⟨j + 1, by omega, by rw [show night + (j + 1) + 1 = night + 1 + j + 1 by omega]; exact h2⟩
theorem ods_eq {ρ : zR} {M n : Nat} : ods ρ M n = mwn ρ M n 0 (bgn ρ) := by
  rw [mwn_cnt]
  refine fa_cnt_cong (fun row _ => ?_)
  have h := mt_eq (ρ := ρ) (M := M) (w := blw n row (zw ρ)) n 0 row (fun i hi => by
    rw [Nat.zero_add]
    unfold blw
    rw [if_pos hi, Nat.testBit_eq_decide_div_mod_eq]
    by_cases e : row / 2 ^ i % 2 = 1
    · rw [decide_eq_true e, if_pos rfl, e]
    · rw [decide_eq_false e, if_neg (by decide)]; omega)
  rw [← show sim ρ 6 (blw n row (zw ρ)) 0 = bgn ρ from rfl, ← h]
  unfold meB mts
  rw [decide_eq_decide]
  constructor
  · rintro ⟨j, hj, h2⟩
    refine ⟨j, hj, ?_⟩
    rw [sim_ww] at h2
    rw [Nat.zero_add]
    exact h2
  · rintro ⟨j, hj, h2⟩
    refine ⟨j, hj, ?_⟩
    rw [sim_ww]
    rw [Nat.zero_add] at h2
    exact h2
theorem ods_le {ρ : zR} {M n : Nat} : ods ρ M n ≤ 2 ^ n := fa_cnt_le _ _
def hv : Nat → Nat → Nat → Nat × Nat
  | 0, u, l => (u, l)
  | k + 1, u, l => if u % 2 = 0 then hv k (u / 2) (l / 2) else (u, l)
set_option maxRecDepth 100000 in
theorem hv_eq : ∀ n, n < 9 → ∀ u, u < 257 → u ≤ 2 ^ n → hv n u (2 ^ n) = (u / Nat.gcd u (2 ^ n), 2 ^ n / Nat.gcd u (2 ^ n)) := by decide +kernel
/-- the trial's nights up to 'night' stand as they were -/
def frR (night : Nat) (I I' : Nat → Nat → Int32) : Prop := frN 50 I I' ∧ ∀ j, j ≤ night → I' (50 + 2 + j) = I (50 + 2 + j) ∧ I' (50 + 12 + j) = I (50 + 12 + j) ∧ I' (50 + 21) j = I (50 + 21) j
theorem frR.tr {night : Nat} {I J K : Nat → Nat → Int32} (h : frR night I J) (h2 : frR night J K) : frR night I K := ⟨h.1.tr h2.1, fun j hj => ⟨by rw [(h2.2 j hj).1, (h.2 j hj).1], by rw [(h2.2 j hj).2.1, (h.2 j hj).2.1], by rw [(h2.2 j hj).2.2, (h.2 j hj).2.2]⟩⟩
theorem frR.dn {night : Nat} {I J : Nat → Nat → Int32} (h : frR (night + 1) I J) : frR night I J := ⟨h.1, fun j hj => h.2 j (by omega)⟩
theorem NR.frR {night : Nat} {I J : Nat → Nat → Int32} {ρ : zR} {S : zN} (h : NR I 50 ρ night S) (hf : frR night I J) : NR J 50 ρ night S := h.same (hf.2 night (Nat.le_refl _)).1 (hf.2 night (Nat.le_refl _)).2.1 (hf.2 night (Nat.le_refl _)).2.2

set_option maxHeartbeats 4000000 in
set_option maxRecDepth 100000 in
theorem lp_X5_mw {d : Nat} {Q : sm_Q} {x : hX} {ρ : zR} {n M : Nat} (hN : isN 50 43) (hw : wfR ρ) (hz : 0 < zi ρ) (hn : n ≤ zn ρ) (hM : M < 256) {m0 night : Nat} {S : zN} {I0 : Nat → Nat → Int32} (hnm : night + (m0 + 1) = n) (hR : isRd I0 43 ρ) (hrm : I0 43 10 = rmI 6) (hS : NR I0 50 ρ night S) (hok : okN ρ S) (hrec : ∀ (I : Nat → Nat → Int32) (S1 : zN), isRd I 43 ρ → I 43 10 = rmI 6 → NR I 50 ρ (night + 1) S1 → okN ρ S1 → ci (d + m0 + 4) MX5_meetingWinds [.ref 50, .int (nI M), .int (nI (night + 1)), .int (nI n)] (hp x I) (fun r h' => ∃ I', h' = hp x I' ∧ frR (night + 1) I I' ∧ r = nI (mwn ρ M m0 (night + 1) S1))) (hQ : ∀ I, frR night I0 I → Q (some (.int (nI (sm2 (fun w => if togB (nig ρ 6 w night S).1 (zg ρ) (zi ρ) M = true then 2 ^ m0 else mwn ρ M m0 (night + 1) (nig ρ 6 w night S)) 2)))) (hp x I)) : ∀ (m i : Nat) (I : Nat → Nat → Int32), i + m = 2 → frR night I0 I → sm_wp (sm_c (d + m0 + 4)) 0 0 MX5_meetingWinds Q 13 [.ref 50, .int (nI M), .int (nI night), .int (nI n), .int (nI (sm2 (fun w => if togB (nig ρ 6 w night S).1 (zg ρ) (zi ρ) M = true then 2 ^ m0 else mwn ρ M m0 (night + 1) (nig ρ 6 w night S)) i)), .int (nI i)] [] (hp x I) 0 0 := by
  have b6 : zi ρ ≤ 6 := hw.1
  have b8 : zn ρ ≤ 8 := hw.2.1
  have bg : zg ρ ≤ 8 := hw.2.2.1
  have bl : zl ρ ≤ 1 := hw.2.2.2.1
  intro m
  induction m with
  | zero =>
    intro i I hi h2
    have hi : i = 2 := by omega
    refine r_s (pc' := 15) dX5_meetingWinds_13 rfl rfl ?_
    refine r_c (pc' := 16) dX5_meetingWinds_15 rfl kc_iconst_2 ?_
    refine r_cge_t (tgt := 67) dX5_meetingWinds_16 (by decide) (by rw [hi]; exact Int32.le_refl _) ?_
    refine r_s (pc' := 69) dX5_meetingWinds_67 rfl rfl ?_
    refine r_reti dX5_meetingWinds_69 rfl (rfl) (Nat.le_of_ble_eq_true rfl) (Nat.le_of_ble_eq_true rfl) ?_
    rw [hi]; exact hQ I h2
  | succ m ih =>
    intro i I hi h2
    refine r_s (pc' := 15) dX5_meetingWinds_13 rfl rfl ?_
    refine r_c (pc' := 16) dX5_meetingWinds_15 rfl kc_iconst_2 ?_
    refine r_cge_f (pc' := 19) (tgt := 67) dX5_meetingWinds_16 rfl (by decide) (nI_ge (b := 2) (by omega) (by decide)) ?_
    refine r_s (pc' := 20) dX5_meetingWinds_19 rfl rfl ?_
    refine r_s (pc' := 21) dX5_meetingWinds_20 rfl rfl ?_
    refine r_s (pc' := 23) dX5_meetingWinds_21 rfl rfl ?_
    refine r_Vv2 (pc' := 26) dX5_meetingWinds_23 rfl lX5_113 (hl_ rfl) rfl rfl rfl rfl (Nat.le_of_ble_eq_true rfl) (Nat.le_of_ble_eq_true rfl) (ct_X0_pass (rm := 6) (ρ := ρ) (S := S) hN (by omega) (by omega) (hR.frN hN h2.1) hw (by rw [h2.1 43 (by decide)]; exact hrm) (hS.frR h2) hok) (fun h23 e23 => ?_)
    obtain ⟨I1, rfl, a1, a2, a3⟩ := e23
    have hf1 : frR night I I1 := ⟨fun t ht => a2 t (by omega) (by omega) (by omega), fun j hj => ⟨a2 _ (by omega) (by omega) (by omega), a2 _ (by omega) (by omega) (by omega), a3 j (by omega)⟩⟩
    refine r_s (pc' := 28) dX5_meetingWinds_26 rfl rfl ?_
    refine r_s (pc' := 29) dX5_meetingWinds_28 rfl rfl ?_
    refine r_s (pc' := 30) dX5_meetingWinds_29 rfl rfl ?_
    refine r_s (pc' := 31) dX5_meetingWinds_30 rfl rfl ?_
    refine r_c (pc' := 32) dX5_meetingWinds_31 rfl kc_iconst_1 ?_
    refine r_s (pc' := 33) dX5_meetingWinds_32 rfl rfl ?_
    refine r_top (nI_1 _) ?_
    refine r_Vi2 (pc' := 36) dX5_meetingWinds_33 rfl lX5_117 (hl_ rfl) rfl rfl rfl rfl (Nat.le_of_ble_eq_true rfl) (Nat.le_of_ble_eq_true rfl) (ct_X0_isMeeting (S := nig ρ 6 i night S) hN (isRd.frN (hR.frN hN h2.1) hN hf1.1) hw (by omega) a1 hM) (fun r33 h33 e33 => ?_)
    rcases e33 with ⟨rfl, rfl, hb⟩ | ⟨rfl, rfl, hb⟩
    · refine r_ifeq_f (pc' := 39) (tgt := 49) dX5_meetingWinds_36 rfl (by decide) (by decide) ?_
      refine r_c (pc' := 40) dX5_meetingWinds_39 rfl kc_iconst_1 ?_
      refine r_s (pc' := 41) dX5_meetingWinds_40 rfl rfl ?_
      refine r_s (pc' := 42) dX5_meetingWinds_41 rfl rfl ?_
      refine r_s (pc' := 43) dX5_meetingWinds_42 rfl rfl ?_
      refine r_top (pk_sub (by omega)) ?_
      refine r_c (pc' := 44) dX5_meetingWinds_43 rfl kc_iconst_1 ?_
      refine r_s (pc' := 45) dX5_meetingWinds_44 rfl rfl ?_
      refine r_top ((show _ = nI m0 from (pk_sub (by omega) : nI (n - night) - nI 1 = nI (n - night - 1)).trans (congrArg nI (by omega)))) ?_
      refine r_s (pc' := 46) dX5_meetingWinds_45 rfl rfl ?_
      refine r_top (sh1 (by omega)) ?_
      refine r_goto (tgt := 58) dX5_meetingWinds_46 (by decide) ?_
      refine r_s (pc' := 59) dX5_meetingWinds_58 rfl rfl ?_
      refine r_top (show _ = nI (sm2 (fun w => if togB (nig ρ 6 w night S).1 (zg ρ) (zi ρ) M = true then 2 ^ m0 else mwn ρ M m0 (night + 1) (nig ρ 6 w night S)) (i + 1)) from ?_) ?_
      · rw [nI_add]
        refine congrArg nI ?_
        show _ = sm2 (fun w => if togB (nig ρ 6 w night S).1 (zg ρ) (zi ρ) M = true then 2 ^ m0 else mwn ρ M m0 (night + 1) (nig ρ 6 w night S)) i + _
        simp only [hb, if_true]
      refine r_st_4_6 (pc' := 61) dX5_meetingWinds_59 rfl rfl rfl ?_
      refine r_in_5_6 (pc' := 64) dX5_meetingWinds_61 rfl rfl (i1 _) ?_
      refine r_goto (tgt := 13) dX5_meetingWinds_64 (by decide) ?_
      exact ih (i + 1) I1 (by omega) (h2.tr hf1)
    · refine r_ifeq_t (tgt := 49) dX5_meetingWinds_36 (by decide) (by decide) ?_
      refine r_s (pc' := 50) dX5_meetingWinds_49 rfl rfl ?_
      refine r_s (pc' := 51) dX5_meetingWinds_50 rfl rfl ?_
      refine r_s (pc' := 52) dX5_meetingWinds_51 rfl rfl ?_
      refine r_c (pc' := 53) dX5_meetingWinds_52 rfl kc_iconst_1 ?_
      refine r_s (pc' := 54) dX5_meetingWinds_53 rfl rfl ?_
      refine r_top (nI_1 _) ?_
      refine r_s (pc' := 55) dX5_meetingWinds_54 rfl rfl ?_
      refine r_Si4 (pc' := 58) dX5_meetingWinds_55 rfl lX5_109 rfl (Nat.le_of_ble_eq_true rfl) (Nat.le_of_ble_eq_true rfl) (hrec I1 (nig ρ 6 i night S) (isRd.frN (hR.frN hN h2.1) hN hf1.1) (by rw [hf1.1 43 (by decide), h2.1 43 (by decide)]; exact hrm) a1 (nig_ok hok hz)) (fun r55 h55 e55 => ?_)
      obtain ⟨I2, rfl, a4, rfl⟩ := e55
      refine r_s (pc' := 59) dX5_meetingWinds_58 rfl rfl ?_
      refine r_top (show _ = nI (sm2 (fun w => if togB (nig ρ 6 w night S).1 (zg ρ) (zi ρ) M = true then 2 ^ m0 else mwn ρ M m0 (night + 1) (nig ρ 6 w night S)) (i + 1)) from ?_) ?_
      · rw [nI_add]
        refine congrArg nI ?_
        show _ = sm2 (fun w => if togB (nig ρ 6 w night S).1 (zg ρ) (zi ρ) M = true then 2 ^ m0 else mwn ρ M m0 (night + 1) (nig ρ 6 w night S)) i + _
        simp only [hb, Bool.false_eq_true, if_false]
      refine r_st_4_6 (pc' := 61) dX5_meetingWinds_59 rfl rfl rfl ?_
      refine r_in_5_6 (pc' := 64) dX5_meetingWinds_61 rfl rfl (i1 _) ?_
      refine r_goto (tgt := 13) dX5_meetingWinds_64 (by decide) ?_
      exact ih (i + 1) I2 (by omega) ((h2.tr hf1).tr a4.dn)

set_option maxHeartbeats 4000000 in
set_option maxRecDepth 100000 in
theorem ct_X5_meetingWinds {x : hX} {ρ : zR} {n M : Nat} (hN : isN 50 43) (hw : wfR ρ) (hz : 0 < zi ρ) (hn : n ≤ zn ρ) (hM : M < 256) : ∀ (m : Nat) {d night : Nat} {I : Nat → Nat → Int32} {S : zN}, night + m = n → isRd I 43 ρ → I 43 10 = rmI 6 → NR I 50 ρ night S → okN ρ S → ci (d + m + 4) MX5_meetingWinds [.ref 50, .int (nI M), .int (nI night), .int (nI n)] (hp x I) (fun r h' => ∃ I', h' = hp x I' ∧ frR night I I' ∧ r = nI (mwn ρ M m night S)) := by
  have b6 : zi ρ ≤ 6 := hw.1
  have b8 : zn ρ ≤ 8 := hw.2.1
  have bg : zg ρ ≤ 8 := hw.2.2.1
  have bl : zl ρ ≤ 1 := hw.2.2.2.1
  intro m
  induction m with
  | zero =>
    intro d night I S hnm hR hrm hS hok
    refine c_in (L := [.ref 50, .int (nI M), .int (nI night), .int (nI n), .null, .null]) rfl rfl ?_
    refine r_s (pc' := 1) dX5_meetingWinds_0 rfl rfl ?_
    refine r_s (pc' := 2) dX5_meetingWinds_1 rfl rfl ?_
    refine r_clt_f (pc' := 5) (tgt := 7) dX5_meetingWinds_2 rfl (by decide) (fun h => absurd ((nI_ltI (by omega) (by omega)).mp h) (by omega)) ?_
    refine r_c (pc' := 6) dX5_meetingWinds_5 rfl kc_iconst_0 ?_
    refine r_reti dX5_meetingWinds_6 rfl (rfl) (Nat.le_of_ble_eq_true rfl) (Nat.le_of_ble_eq_true rfl) ⟨_, rfl, ?_⟩
    exact ⟨I, rfl, ⟨fun _ _ => rfl, fun _ _ => ⟨rfl, rfl, rfl⟩⟩, rfl⟩
  | succ m ih =>
    intro d night I S hnm hR hrm hS hok
    rw [show d + (m + 1) + 4 = (d + m + 4) + 1 by omega]
    refine c_in (L := [.ref 50, .int (nI M), .int (nI night), .int (nI n), .null, .null]) rfl rfl ?_
    refine r_s (pc' := 1) dX5_meetingWinds_0 rfl rfl ?_
    refine r_s (pc' := 2) dX5_meetingWinds_1 rfl rfl ?_
    refine r_clt_t (tgt := 7) dX5_meetingWinds_2 (by decide) (nI_lt (by omega) (by omega)) ?_
    refine r_c (pc' := 8) dX5_meetingWinds_7 rfl kc_iconst_0 ?_
    refine r_st_4_6 (pc' := 10) dX5_meetingWinds_8 rfl rfl rfl ?_
    refine r_c (pc' := 11) dX5_meetingWinds_10 rfl kc_iconst_0 ?_
    refine r_st_5_6 (pc' := 13) dX5_meetingWinds_11 rfl rfl rfl ?_
    exact lp_X5_mw (I0 := I) hN hw hz hn hM hnm hR hrm hS hok (fun I1 S1 r1 r2 r3 r4 => ih (by omega) r1 r2 r3 r4) (fun I2 g2 => ⟨_, rfl, I2, rfl, g2, rfl⟩) 2 0 I (by omega) ⟨fun _ _ => rfl, fun _ _ => ⟨rfl, rfl, rfl⟩⟩

set_option maxHeartbeats 4000000 in
set_option maxRecDepth 100000 in
theorem ct_X5_windsThatMeet {d : Nat} {x : hX} {I : Nat → Nat → Int32} {ρ : zR} (hR : isRd I 2 ρ) (hw : wfR ρ) (hz : 0 < zi ρ) (hck : I 2 10 = rmI 6) {n M : Nat} (hn : n ≤ zn ρ) (hM : M < 256) : ci (d + 13) MX5_windsThatMeet [.ref 42, .int (nI M), .int (nI n)] (hp x I) (fun r h' => ∃ I', h' = hp x I' ∧ frT I I' ∧ r = nI (ods ρ M n)) := by
  have b6 : zi ρ ≤ 6 := hw.1
  have b8 : zn ρ ≤ 8 := hw.2.1
  have bg : zg ρ ≤ 8 := hw.2.2.1
  have bl : zl ρ ≤ 1 := hw.2.2.2.1
  have hN : isN 50 43 := Or.inr ⟨rfl, rfl⟩
  refine c_in (L := [.ref 42, .int (nI M), .int (nI n)]) rfl rfl ?_
  refine r_s (pc' := 1) dX5_windsThatMeet_0 rfl rfl ?_
  refine r_gr (pc' := 4) dX5_windsThatMeet_1 rfl fX5_12 (hl_ rfl) rfl rfl ?_
  refine r_s (pc' := 5) dX5_windsThatMeet_4 rfl rfl ?_
  refine r_gr (pc' := 8) dX5_windsThatMeet_5 rfl fX5_27 (hl_ rfl) rfl rfl ?_
  refine r_Vv1 (pc' := 11) dX5_windsThatMeet_8 rfl lX5_34 (hl_ rfl) rfl rfl rfl rfl (Nat.le_of_ble_eq_true rfl) (Nat.le_of_ble_eq_true rfl) (ct_X2_become_43 hR hw) (fun h8 e8 => ?_)
  obtain ⟨I1, rfl, b1, b2, b3⟩ := e8
  refine r_s (pc' := 12) dX5_windsThatMeet_11 rfl rfl ?_
  refine r_gr (pc' := 15) dX5_windsThatMeet_12 rfl fX5_23 (hl_ rfl) rfl rfl ?_
  refine r_Vv0 (pc' := 18) dX5_windsThatMeet_15 rfl lX5_106 (hl_ rfl) rfl rfl rfl rfl (Nat.le_of_ble_eq_true rfl) (Nat.le_of_ble_eq_true rfl) (ct_X0_begin hN b2 hw) (fun h15 e15 => ?_)
  obtain ⟨I2, rfl, a1, a2⟩ := e15
  have hmw : ∀ (J : Nat → Nat → Int32), isRd J 43 ρ → J 43 10 = rmI 6 → NR J 50 ρ 0 (bgn ρ) → ci (d + 12) MX5_meetingWinds [.ref 50, .int (nI M), .int 0, .int (nI n)] (hp x J) (fun r h' => ∃ I', h' = hp x I' ∧ frR 0 J I' ∧ r = nI (mwn ρ M n 0 (bgn ρ))) := fun J j1 j2 j3 => by
    rw [show d + 12 = (d + (8 - n)) + n + 4 by omega]
    exact ct_X5_meetingWinds hN hw hz hn hM n (night := 0) (by omega) j1 j2 j3 (bgn_ok hw hz)
  refine r_s (pc' := 19) dX5_windsThatMeet_18 rfl rfl ?_
  refine r_gr (pc' := 22) dX5_windsThatMeet_19 rfl fX5_23 (hl_ rfl) rfl rfl ?_
  refine r_s (pc' := 23) dX5_windsThatMeet_22 rfl rfl ?_
  refine r_c (pc' := 24) dX5_windsThatMeet_23 rfl kc_iconst_0 ?_
  refine r_s (pc' := 25) dX5_windsThatMeet_24 rfl rfl ?_
  refine r_Si4 (pc' := 28) dX5_windsThatMeet_25 rfl lX5_109 rfl (Nat.le_of_ble_eq_true rfl) (Nat.le_of_ble_eq_true rfl) (hmw I2 (b2.frN hN a2) (by rw [a2 43 (by decide), b3]; exact hck) a1) (fun r25 h25 e25 => ?_)
  obtain ⟨I3, rfl, a3, rfl⟩ := e25
  refine r_reti dX5_windsThatMeet_28 rfl (rfl) (Nat.le_of_ble_eq_true rfl) (Nat.le_of_ble_eq_true rfl) ⟨_, rfl, ?_⟩
  exact ⟨I3, rfl, fun t ht => by rw [a3.1 t (by omega), a2 t (by omega), b1 t (by omega)], by rw [ods_eq]⟩

set_option maxHeartbeats 4000000 in
set_option maxRecDepth 100000 in
theorem pc_corks {d : Nat} {x : hX} {I : Nat → Nat → Int32} {ρ : zR} {δ : zD} {η : zH} {ft tr : Int32} {n : Int32} (hC : CI I (ρ, δ, η, ft, tr)) (hW : WF (ρ, δ, η, ft, tr)) : ci (d + 7) MX6_corks [.ref 0, .int n] (hp x I) (fun r h' => ∃ I', h' = hp x I' ∧ (∀ q, 80 ≤ q → I' q = I q) ∧ CI I' (ρ, δ, η, ft, tr) ∧ r = sp_corks ρ n) := by
  have hR : isRd I 2 ρ := hC.R
  have hw : wfR ρ := hW.1
  have b6 : zi ρ ≤ 6 := hw.1
  have b8 : zn ρ ≤ 8 := hw.2.1
  have bg : zg ρ ≤ 8 := hw.2.2.1
  have d8 : δ.1 ≤ 8 := hW.2.1.1
  refine c_in (L := [.ref 0, .int n]) rfl rfl ?_
  refine r_s (pc' := 1) dX6_corks_0 rfl rfl ?_
  refine r_gr (pc' := 4) dX6_corks_1 rfl fX6_20 (hl_ rfl) rfl rfl ?_
  refine r_Vi0 (pc' := 7) dX6_corks_4 rfl lX6_120 (hl_ rfl) rfl rfl rfl rfl (Nat.le_of_ble_eq_true rfl) (Nat.le_of_ble_eq_true rfl) (ct_X2_stands (Or.inl rfl) hR.1 hw.bi) (fun r4 h4 e4 => ?_)
  rcases e4 with ⟨rfl, rfl, hs4⟩ | ⟨rfl, rfl, hs4⟩
  · refine r_ifne_t (tgt := 13) dX6_corks_7 (by decide) (by decide) ?_
    refine r_s (pc' := 14) dX6_corks_13 rfl rfl ?_
    refine r_gr (pc' := 17) dX6_corks_14 rfl fX6_20 (hl_ rfl) rfl rfl ?_
    refine r_s (pc' := 18) dX6_corks_17 rfl rfl ?_
    refine r_Vi1 (pc' := 21) dX6_corks_18 rfl lX6_124 (hl_ rfl) rfl rfl rfl rfl (Nat.le_of_ble_eq_true rfl) (Nat.le_of_ble_eq_true rfl) (ct_X2_hasNight (Or.inl rfl) hR.2.1 hw.bn) (fun r18 h18 e18 => ?_)
    rcases e18 with ⟨rfl, rfl, j18, hj18, rfl⟩ | ⟨rfl, rfl, hn18⟩
    · refine r_ifne_t (tgt := 27) dX6_corks_21 (by decide) (by decide) ?_
      refine r_s (pc' := 28) dX6_corks_27 rfl rfl ?_
      refine r_gr (pc' := 31) dX6_corks_28 rfl fX6_48 (hl_ rfl) rfl rfl ?_
      refine r_s (pc' := 32) dX6_corks_31 rfl rfl ?_
      refine r_Vi1 (pc' := 35) dX6_corks_32 rfl lX6_175 (hl_ rfl) rfl rfl rfl rfl (Nat.le_of_ble_eq_true rfl) (Nat.le_of_ble_eq_true rfl) (ct_X5_innsThatCork hR hw hs4 hC.rm hj18) (fun r32 h32 e32 => ?_)
      obtain ⟨I1, rfl, a2, rfl⟩ := e32
      refine r_reti dX6_corks_35 rfl (rfl) (Nat.le_of_ble_eq_true rfl) (Nat.le_of_ble_eq_true rfl) ⟨_, rfl, ?_⟩
      exact ⟨I1, rfl, a2.m, hC.frT a2, by rw [sp_corks, if_neg (by omega), if_pos (ok_in hj18 hw.bn), ix_nI (by omega)]⟩
    · refine r_ifne_f (pc' := 24) (tgt := 27) dX6_corks_21 rfl (by decide) (by decide) ?_
      refine r_c (pc' := 26) dX6_corks_24 rfl kc_bipush_m2 ?_
      refine r_reti dX6_corks_26 rfl (rfl) (Nat.le_of_ble_eq_true rfl) (Nat.le_of_ble_eq_true rfl) ⟨_, rfl, ?_⟩
      exact ⟨I, rfl, fun _ _ => rfl, hC, by rw [sp_corks, if_neg (by omega), ok_no hw.bn hn18]; rfl⟩
  · refine r_ifne_f (pc' := 10) (tgt := 13) dX6_corks_7 rfl (by decide) (by decide) ?_
    refine r_c (pc' := 12) dX6_corks_10 rfl kc_bipush_m3 ?_
    refine r_reti dX6_corks_12 rfl (rfl) (Nat.le_of_ble_eq_true rfl) (Nat.le_of_ble_eq_true rfl) ⟨_, rfl, ?_⟩
    exact ⟨I, rfl, fun _ _ => rfl, hC, by rw [sp_corks, if_pos hs4]⟩

set_option maxHeartbeats 4000000 in
set_option maxRecDepth 100000 in
theorem pc_rules {d : Nat} {x : hX} {I : Nat → Nat → Int32} {ρ : zR} {δ : zD} {η : zH} {ft tr : Int32} (hC : CI I (ρ, δ, η, ft, tr)) (hW : WF (ρ, δ, η, ft, tr)) : ci (d + 7) MX6_rules [.ref 0] (hp x I) (fun r h' => ∃ I', h' = hp x I' ∧ (∀ q, 80 ≤ q → I' q = I q) ∧ CI I' (ρ, δ, η, ft, tr) ∧ r = sp_rules ρ δ) := by
  have hR : isRd I 2 ρ := hC.R
  have hw : wfR ρ := hW.1
  have b6 : zi ρ ≤ 6 := hw.1
  have b8 : zn ρ ≤ 8 := hw.2.1
  have bg : zg ρ ≤ 8 := hw.2.2.1
  have d8 : δ.1 ≤ 8 := hW.2.1.1
  have hD : isDC I δ := hC.D
  have hWd : wfD ρ δ := hW.2.1
  refine c_in (L := [.ref 0]) rfl rfl ?_
  refine r_s (pc' := 1) dX6_rules_0 rfl rfl ?_
  refine r_gr (pc' := 4) dX6_rules_1 rfl fX6_20 (hl_ rfl) rfl rfl ?_
  refine r_Vi0 (pc' := 7) dX6_rules_4 rfl lX6_120 (hl_ rfl) rfl rfl rfl rfl (Nat.le_of_ble_eq_true rfl) (Nat.le_of_ble_eq_true rfl) (ct_X2_stands (Or.inl rfl) hR.1 hw.bi) (fun r4 h4 e4 => ?_)
  rcases e4 with ⟨rfl, rfl, hs4⟩ | ⟨rfl, rfl, hs4⟩
  · refine r_ifne_t (tgt := 13) dX6_rules_7 (by decide) (by decide) ?_
    refine r_s (pc' := 14) dX6_rules_13 rfl rfl ?_
    refine r_gr (pc' := 17) dX6_rules_14 rfl fX6_48 (hl_ rfl) rfl rfl ?_
    refine r_Vi0 (pc' := 20) dX6_rules_17 rfl lX6_184 (hl_ rfl) rfl rfl rfl rfl (Nat.le_of_ble_eq_true rfl) (Nat.le_of_ble_eq_true rfl) (ct_X5_rulesThatFit hR hD hw hWd hs4 hC.rm) (fun r17 h17 e17 => ?_)
    obtain ⟨I1, rfl, a2, rfl⟩ := e17
    refine r_reti dX6_rules_20 rfl (rfl) (Nat.le_of_ble_eq_true rfl) (Nat.le_of_ble_eq_true rfl) ⟨_, rfl, ?_⟩
    exact ⟨I1, rfl, a2.m, hC.frT a2, by rw [sp_rules, if_neg (by omega)]⟩
  · refine r_ifne_f (pc' := 10) (tgt := 13) dX6_rules_7 rfl (by decide) (by decide) ?_
    refine r_c (pc' := 12) dX6_rules_10 rfl kc_bipush_m3 ?_
    refine r_reti dX6_rules_12 rfl (rfl) (Nat.le_of_ble_eq_true rfl) (Nat.le_of_ble_eq_true rfl) ⟨_, rfl, ?_⟩
    exact ⟨I, rfl, fun _ _ => rfl, hC, by rw [sp_rules, if_pos hs4]⟩

set_option maxHeartbeats 4000000 in
set_option maxRecDepth 100000 in
theorem pc_kinds {d : Nat} {x : hX} {I : Nat → Nat → Int32} {ρ : zR} {δ : zD} {η : zH} {ft tr : Int32} {k : Int32} (hC : CI I (ρ, δ, η, ft, tr)) (hW : WF (ρ, δ, η, ft, tr)) : ci (d + 7) MX6_kinds [.ref 0, .int k] (hp x I) (fun r h' => ∃ I', h' = hp x I' ∧ (∀ q, 80 ≤ q → I' q = I q) ∧ CI I' (ρ, δ, η, ft, tr) ∧ r = sp_kinds ρ δ k) := by
  have hR : isRd I 2 ρ := hC.R
  have hw : wfR ρ := hW.1
  have b6 : zi ρ ≤ 6 := hw.1
  have b8 : zn ρ ≤ 8 := hw.2.1
  have bg : zg ρ ≤ 8 := hw.2.2.1
  have d8 : δ.1 ≤ 8 := hW.2.1.1
  have hD : isDC I δ := hC.D
  have hWd : wfD ρ δ := hW.2.1
  refine c_in (L := [.ref 0, .int k]) rfl rfl ?_
  refine r_s (pc' := 1) dX6_kinds_0 rfl rfl ?_
  refine r_gr (pc' := 4) dX6_kinds_1 rfl fX6_20 (hl_ rfl) rfl rfl ?_
  refine r_s (pc' := 5) dX6_kinds_4 rfl rfl ?_
  refine r_Vi1 (pc' := 8) dX6_kinds_5 rfl lX6_97 (hl_ rfl) rfl rfl rfl rfl (Nat.le_of_ble_eq_true rfl) (Nat.le_of_ble_eq_true rfl) (ct_X2_hasInn (Or.inl rfl) hR.1 hw.bi) (fun r5 h5 e5 => ?_)
  rcases e5 with ⟨rfl, rfl, j5, hj5, rfl⟩ | ⟨rfl, rfl, hn5⟩
  · refine r_ifne_t (tgt := 13) dX6_kinds_8 (by decide) (by decide) ?_
    refine r_s (pc' := 14) dX6_kinds_13 rfl rfl ?_
    refine r_gr (pc' := 17) dX6_kinds_14 rfl fX6_48 (hl_ rfl) rfl rfl ?_
    refine r_s (pc' := 18) dX6_kinds_17 rfl rfl ?_
    refine r_Vi1 (pc' := 21) dX6_kinds_18 rfl lX6_187 (hl_ rfl) rfl rfl rfl rfl (Nat.le_of_ble_eq_true rfl) (Nat.le_of_ble_eq_true rfl) (ct_X5_kindsThatFit hR hD hw hWd (by omega) hC.rm hj5) (fun r18 h18 e18 => ?_)
    obtain ⟨I1, rfl, a2, rfl⟩ := e18
    refine r_reti dX6_kinds_21 rfl (rfl) (Nat.le_of_ble_eq_true rfl) (Nat.le_of_ble_eq_true rfl) ⟨_, rfl, ?_⟩
    exact ⟨I1, rfl, a2.m, hC.frT a2, by rw [sp_kinds, if_pos (ok_in hj5 hw.bi), ix_nI (by omega)]⟩
  · refine r_ifne_f (pc' := 11) (tgt := 13) dX6_kinds_8 rfl (by decide) (by decide) ?_
    refine r_c (pc' := 12) dX6_kinds_11 rfl kc_iconst_m1 ?_
    refine r_reti dX6_kinds_12 rfl (rfl) (Nat.le_of_ble_eq_true rfl) (Nat.le_of_ble_eq_true rfl) ⟨_, rfl, ?_⟩
    exact ⟨I, rfl, fun _ _ => rfl, hC, by rw [sp_kinds, ok_no hw.bi hn5]; rfl⟩

set_option maxHeartbeats 4000000 in
set_option maxRecDepth 100000 in
theorem pc_depths {d : Nat} {x : hX} {I : Nat → Nat → Int32} {ρ : zR} {δ : zD} {η : zH} {ft tr : Int32} {k : Int32} (hC : CI I (ρ, δ, η, ft, tr)) (hW : WF (ρ, δ, η, ft, tr)) : ci (d + 7) MX6_depths [.ref 0, .int k] (hp x I) (fun r h' => ∃ I', h' = hp x I' ∧ (∀ q, 80 ≤ q → I' q = I q) ∧ CI I' (ρ, δ, η, ft, tr) ∧ r = sp_depths ρ δ k) := by
  have hR : isRd I 2 ρ := hC.R
  have hw : wfR ρ := hW.1
  have b6 : zi ρ ≤ 6 := hw.1
  have b8 : zn ρ ≤ 8 := hw.2.1
  have bg : zg ρ ≤ 8 := hw.2.2.1
  have d8 : δ.1 ≤ 8 := hW.2.1.1
  have hD : isDC I δ := hC.D
  have hWd : wfD ρ δ := hW.2.1
  refine c_in (L := [.ref 0, .int k]) rfl rfl ?_
  refine r_s (pc' := 1) dX6_depths_0 rfl rfl ?_
  refine r_gr (pc' := 4) dX6_depths_1 rfl fX6_20 (hl_ rfl) rfl rfl ?_
  refine r_s (pc' := 5) dX6_depths_4 rfl rfl ?_
  refine r_Vi1 (pc' := 8) dX6_depths_5 rfl lX6_97 (hl_ rfl) rfl rfl rfl rfl (Nat.le_of_ble_eq_true rfl) (Nat.le_of_ble_eq_true rfl) (ct_X2_hasInn (Or.inl rfl) hR.1 hw.bi) (fun r5 h5 e5 => ?_)
  rcases e5 with ⟨rfl, rfl, j5, hj5, rfl⟩ | ⟨rfl, rfl, hn5⟩
  · refine r_ifne_t (tgt := 13) dX6_depths_8 (by decide) (by decide) ?_
    refine r_s (pc' := 14) dX6_depths_13 rfl rfl ?_
    refine r_gr (pc' := 17) dX6_depths_14 rfl fX6_48 (hl_ rfl) rfl rfl ?_
    refine r_s (pc' := 18) dX6_depths_17 rfl rfl ?_
    refine r_Vi1 (pc' := 21) dX6_depths_18 rfl lX6_190 (hl_ rfl) rfl rfl rfl rfl (Nat.le_of_ble_eq_true rfl) (Nat.le_of_ble_eq_true rfl) (ct_X5_depthsThatFit hR hD hw hWd (by omega) hC.rm hj5) (fun r18 h18 e18 => ?_)
    obtain ⟨I1, rfl, a2, rfl⟩ := e18
    refine r_reti dX6_depths_21 rfl (rfl) (Nat.le_of_ble_eq_true rfl) (Nat.le_of_ble_eq_true rfl) ⟨_, rfl, ?_⟩
    exact ⟨I1, rfl, a2.m, hC.frT a2, by rw [sp_depths, if_pos (ok_in hj5 hw.bi), ix_nI (by omega)]⟩
  · refine r_ifne_f (pc' := 11) (tgt := 13) dX6_depths_8 rfl (by decide) (by decide) ?_
    refine r_c (pc' := 12) dX6_depths_11 rfl kc_iconst_m1 ?_
    refine r_reti dX6_depths_12 rfl (rfl) (Nat.le_of_ble_eq_true rfl) (Nat.le_of_ble_eq_true rfl) ⟨_, rfl, ?_⟩
    exact ⟨I, rfl, fun _ _ => rfl, hC, by rw [sp_depths, ok_no hw.bi hn5]; rfl⟩

set_option maxHeartbeats 4000000 in
set_option maxRecDepth 100000 in
theorem pc_falls {d : Nat} {x : hX} {I : Nat → Nat → Int32} {ρ : zR} {δ : zD} {η : zH} {ft tr : Int32} {n : Int32} (hC : CI I (ρ, δ, η, ft, tr)) (hW : WF (ρ, δ, η, ft, tr)) : ci (d + 7) MX6_falls [.ref 0, .int n] (hp x I) (fun r h' => ∃ I', h' = hp x I' ∧ (∀ q, 80 ≤ q → I' q = I q) ∧ CI I' (ρ, δ, η, ft, tr) ∧ r = sp_falls ρ δ n) := by
  have hR : isRd I 2 ρ := hC.R
  have hw : wfR ρ := hW.1
  have b6 : zi ρ ≤ 6 := hw.1
  have b8 : zn ρ ≤ 8 := hw.2.1
  have bg : zg ρ ≤ 8 := hw.2.2.1
  have d8 : δ.1 ≤ 8 := hW.2.1.1
  have hD : isDC I δ := hC.D
  have hWd : wfD ρ δ := hW.2.1
  refine c_in (L := [.ref 0, .int n]) rfl rfl ?_
  refine r_s (pc' := 1) dX6_falls_0 rfl rfl ?_
  refine r_gr (pc' := 4) dX6_falls_1 rfl fX6_20 (hl_ rfl) rfl rfl ?_
  refine r_Vi0 (pc' := 7) dX6_falls_4 rfl lX6_120 (hl_ rfl) rfl rfl rfl rfl (Nat.le_of_ble_eq_true rfl) (Nat.le_of_ble_eq_true rfl) (ct_X2_stands (Or.inl rfl) hR.1 hw.bi) (fun r4 h4 e4 => ?_)
  rcases e4 with ⟨rfl, rfl, hs4⟩ | ⟨rfl, rfl, hs4⟩
  · refine r_ifne_t (tgt := 13) dX6_falls_7 (by decide) (by decide) ?_
    refine r_s (pc' := 14) dX6_falls_13 rfl rfl ?_
    refine r_gr (pc' := 17) dX6_falls_14 rfl fX6_20 (hl_ rfl) rfl rfl ?_
    refine r_s (pc' := 18) dX6_falls_17 rfl rfl ?_
    refine r_Vi1 (pc' := 21) dX6_falls_18 rfl lX6_124 (hl_ rfl) rfl rfl rfl rfl (Nat.le_of_ble_eq_true rfl) (Nat.le_of_ble_eq_true rfl) (ct_X2_hasNight (Or.inl rfl) hR.2.1 hw.bn) (fun r18 h18 e18 => ?_)
    rcases e18 with ⟨rfl, rfl, j18, hj18, rfl⟩ | ⟨rfl, rfl, hn18⟩
    · refine r_ifne_t (tgt := 27) dX6_falls_21 (by decide) (by decide) ?_
      refine r_s (pc' := 28) dX6_falls_27 rfl rfl ?_
      refine r_gr (pc' := 31) dX6_falls_28 rfl fX6_48 (hl_ rfl) rfl rfl ?_
      refine r_s (pc' := 32) dX6_falls_31 rfl rfl ?_
      refine r_Vi1 (pc' := 35) dX6_falls_32 rfl lX6_193 (hl_ rfl) rfl rfl rfl rfl (Nat.le_of_ble_eq_true rfl) (Nat.le_of_ble_eq_true rfl) (ct_X5_fallsThatFit hR hD hw hWd hs4 hC.rm hj18) (fun r32 h32 e32 => ?_)
      obtain ⟨I1, rfl, a2, rfl⟩ := e32
      refine r_reti dX6_falls_35 rfl (rfl) (Nat.le_of_ble_eq_true rfl) (Nat.le_of_ble_eq_true rfl) ⟨_, rfl, ?_⟩
      exact ⟨I1, rfl, a2.m, hC.frT a2, by rw [sp_falls, if_neg (by omega), if_pos (ok_in hj18 hw.bn), ix_nI (by omega)]⟩
    · refine r_ifne_f (pc' := 24) (tgt := 27) dX6_falls_21 rfl (by decide) (by decide) ?_
      refine r_c (pc' := 26) dX6_falls_24 rfl kc_bipush_m2 ?_
      refine r_reti dX6_falls_26 rfl (rfl) (Nat.le_of_ble_eq_true rfl) (Nat.le_of_ble_eq_true rfl) ⟨_, rfl, ?_⟩
      exact ⟨I, rfl, fun _ _ => rfl, hC, by rw [sp_falls, if_neg (by omega), ok_no hw.bn hn18]; rfl⟩
  · refine r_ifne_f (pc' := 10) (tgt := 13) dX6_falls_7 rfl (by decide) (by decide) ?_
    refine r_c (pc' := 12) dX6_falls_10 rfl kc_bipush_m3 ?_
    refine r_reti dX6_falls_12 rfl (rfl) (Nat.le_of_ble_eq_true rfl) (Nat.le_of_ble_eq_true rfl) ⟨_, rfl, ?_⟩
    exact ⟨I, rfl, fun _ _ => rfl, hC, by rw [sp_falls, if_pos hs4]⟩

set_option maxHeartbeats 4000000 in
set_option maxRecDepth 100000 in
theorem pc_turn {d : Nat} {x : hX} {I : Nat → Nat → Int32} {ρ : zR} {δ : zD} {η : zH} {ft tr : Int32} {f n : Int32} (hC : CI I (ρ, δ, η, ft, tr)) (hW : WF (ρ, δ, η, ft, tr)) : ci (d + 6) MX6_turn [.ref 0, .int f, .int n] (hp x I) (fun r h' => ∃ I', h' = hp x I' ∧ (∀ q, 80 ≤ q → I' q = I q) ∧ CI I' (ρ, δ, η, ft, tr) ∧ r = sp_turn ρ f n) := by
  have hR : isRd I 2 ρ := hC.R
  have hw : wfR ρ := hW.1
  have b6 : zi ρ ≤ 6 := hw.1
  have b8 : zn ρ ≤ 8 := hw.2.1
  have bg : zg ρ ≤ 8 := hw.2.2.1
  have d8 : δ.1 ≤ 8 := hW.2.1.1
  refine c_in (L := [.ref 0, .int f, .int n, .null]) rfl rfl ?_
  refine r_s (pc' := 1) dX6_turn_0 rfl rfl ?_
  refine r_gr (pc' := 4) dX6_turn_1 rfl fX6_20 (hl_ rfl) rfl rfl ?_
  refine r_s (pc' := 5) dX6_turn_4 rfl rfl ?_
  refine r_Vi1 (pc' := 8) dX6_turn_5 rfl lX6_161 (hl_ rfl) rfl rfl rfl rfl (Nat.le_of_ble_eq_true rfl) (Nat.le_of_ble_eq_true rfl) (ct_X2_membersOf hR.2.2.1 bg) (fun r5 h5 e5 => ?_)
  obtain ⟨rfl, rfl⟩ := e5
  refine r_top (congrArg nI (fM_eq (f := f) hR)) ?_
  refine r_st_3_4 (pc' := 9) dX6_turn_8 rfl rfl rfl ?_
  refine r_s (pc' := 10) dX6_turn_9 rfl rfl ?_
  refine r_ifne (pc' := 13) (tgt := 15) dX6_turn_10 rfl (by decide) (fun c10 => ?_) (fun c10 => ?_)
  · refine r_s (pc' := 16) dX6_turn_15 rfl rfl ?_
    refine r_gr (pc' := 19) dX6_turn_16 rfl fX6_20 (hl_ rfl) rfl rfl ?_
    refine r_s (pc' := 20) dX6_turn_19 rfl rfl ?_
    refine r_Vi1 (pc' := 23) dX6_turn_20 rfl lX6_139 (hl_ rfl) rfl rfl rfl rfl (Nat.le_of_ble_eq_true rfl) (Nat.le_of_ble_eq_true rfl) (ct_X2_countsNights (Or.inl rfl) hR.2.1 hw.bn1) (fun r20 h20 e20 => ?_)
    rcases e20 with ⟨rfl, rfl, j20, hj20, rfl⟩ | ⟨rfl, rfl, hn20⟩
    · refine r_ifne_t (tgt := 29) dX6_turn_23 (by decide) (by decide) ?_
      refine r_s (pc' := 30) dX6_turn_29 rfl rfl ?_
      refine r_gr (pc' := 33) dX6_turn_30 rfl fX6_48 (hl_ rfl) rfl rfl ?_
      refine r_s (pc' := 34) dX6_turn_33 rfl rfl ?_
      refine r_s (pc' := 35) dX6_turn_34 rfl rfl ?_
      refine r_Vi2 (pc' := 38) dX6_turn_35 rfl lX6_172 (hl_ rfl) rfl rfl rfl rfl (Nat.le_of_ble_eq_true rfl) (Nat.le_of_ble_eq_true rfl) (ct_X5_firstTurn hR hw (hw.gz (fM_g (z1 c10))) hC.rm (by omega) (fM_lt hw)) (fun r35 h35 e35 => ?_)
      obtain ⟨I1, rfl, a2, rfl⟩ := e35
      refine r_reti dX6_turn_38 rfl (rfl) (Nat.le_of_ble_eq_true rfl) (Nat.le_of_ble_eq_true rfl) ⟨_, rfl, ?_⟩
      exact ⟨I1, rfl, a2.m, hC.frT a2, by rw [sp_turn, if_neg (z1 c10), if_pos (ok_in hj20 hw.bn1), ix_nI (by omega)]⟩
    · refine r_ifne_f (pc' := 26) (tgt := 29) dX6_turn_23 rfl (by decide) (by decide) ?_
      refine r_c (pc' := 28) dX6_turn_26 rfl kc_bipush_m2 ?_
      refine r_reti dX6_turn_28 rfl (rfl) (Nat.le_of_ble_eq_true rfl) (Nat.le_of_ble_eq_true rfl) ⟨_, rfl, ?_⟩
      exact ⟨I, rfl, fun _ _ => rfl, hC, by rw [sp_turn, if_neg (z1 c10), ok_no hw.bn1 hn20]; rfl⟩
  · refine r_c (pc' := 14) dX6_turn_13 rfl kc_iconst_m1 ?_
    refine r_reti dX6_turn_14 rfl (rfl) (Nat.le_of_ble_eq_true rfl) (Nat.le_of_ble_eq_true rfl) ⟨_, rfl, ?_⟩
    exact ⟨I, rfl, fun _ _ => rfl, hC, by rw [sp_turn, if_pos (z0 c10 (by have := fM_lt (f := f) hw; omega))]⟩

set_option maxHeartbeats 4000000 in
set_option maxRecDepth 100000 in
theorem pc_least {d : Nat} {x : hX} {I : Nat → Nat → Int32} {ρ : zR} {δ : zD} {η : zH} {ft tr : Int32} {n wh : Int32} (hC : CI I (ρ, δ, η, ft, tr)) (hW : WF (ρ, δ, η, ft, tr)) : ci (d + 7) MX6_least [.ref 0, .int n, .int wh] (hp x I) (fun r h' => ∃ I', h' = hp x I' ∧ (∀ q, 80 ≤ q → I' q = I q) ∧ CI I' (ρ, δ, η, ft, tr) ∧ r = sp_least ρ n wh) := by
  have hR : isRd I 2 ρ := hC.R
  have hw : wfR ρ := hW.1
  have b6 : zi ρ ≤ 6 := hw.1
  have b8 : zn ρ ≤ 8 := hw.2.1
  have bg : zg ρ ≤ 8 := hw.2.2.1
  have d8 : δ.1 ≤ 8 := hW.2.1.1
  refine c_in (L := [.ref 0, .int n, .int wh]) rfl rfl ?_
  refine r_s (pc' := 1) dX6_least_0 rfl rfl ?_
  refine r_gr (pc' := 4) dX6_least_1 rfl fX6_20 (hl_ rfl) rfl rfl ?_
  refine r_s (pc' := 5) dX6_least_4 rfl rfl ?_
  refine r_Vi1 (pc' := 8) dX6_least_5 rfl lX6_139 (hl_ rfl) rfl rfl rfl rfl (Nat.le_of_ble_eq_true rfl) (Nat.le_of_ble_eq_true rfl) (ct_X2_countsNights (Or.inl rfl) hR.2.1 hw.bn1) (fun r5 h5 e5 => ?_)
  rcases e5 with ⟨rfl, rfl, j5, hj5, rfl⟩ | ⟨rfl, rfl, hn5⟩
  · refine r_ifeq_f (pc' := 11) (tgt := 20) dX6_least_8 rfl (by decide) (by decide) ?_
    refine r_s (pc' := 12) dX6_least_11 rfl rfl ?_
    refine r_iflt (pc' := 15) (tgt := 20) dX6_least_12 rfl (by decide) (fun c12 => ?_) (fun c12 => ?_)
    · refine r_c (pc' := 22) dX6_least_20 rfl kc_bipush_m2 ?_
      refine r_reti dX6_least_22 rfl (rfl) (Nat.le_of_ble_eq_true rfl) (Nat.le_of_ble_eq_true rfl) ⟨_, rfl, ?_⟩
      exact ⟨I, rfl, fun _ _ => rfl, hC, by rw [sp_least, ok_no (n := 3) (by decide) (x_lo (n := 3) c12 (by decide)), if_neg (fun q => by cases q.2)]⟩
    · refine r_s (pc' := 16) dX6_least_15 rfl rfl ?_
      refine r_c (pc' := 17) dX6_least_16 rfl kc_iconst_2 ?_
      refine r_cle (pc' := 20) (tgt := 23) dX6_least_17 rfl (by decide) (fun c17 => ?_) (fun c17 => ?_)
      · have hwh : ok wh 3 = true := by
          obtain ⟨j, hj, rfl⟩ := x_in' (n := 2) c12 c17 (by decide)
          exact ok_in hj (by decide)
        refine r_s (pc' := 24) dX6_least_23 rfl rfl ?_
        refine r_gr (pc' := 27) dX6_least_24 rfl fX6_20 (hl_ rfl) rfl rfl ?_
        refine r_Vi0 (pc' := 30) dX6_least_27 rfl lX6_120 (hl_ rfl) rfl rfl rfl rfl (Nat.le_of_ble_eq_true rfl) (Nat.le_of_ble_eq_true rfl) (ct_X2_stands (Or.inl rfl) hR.1 hw.bi) (fun r27 h27 e27 => ?_)
        rcases e27 with ⟨rfl, rfl, hs27⟩ | ⟨rfl, rfl, hs27⟩
        · refine r_ifne_t (tgt := 36) dX6_least_30 (by decide) (by decide) ?_
          refine r_s (pc' := 37) dX6_least_36 rfl rfl ?_
          refine r_gr (pc' := 40) dX6_least_37 rfl fX6_48 (hl_ rfl) rfl rfl ?_
          refine r_s (pc' := 41) dX6_least_40 rfl rfl ?_
          refine r_s (pc' := 42) dX6_least_41 rfl rfl ?_
          refine r_Vi2 (pc' := 45) dX6_least_42 rfl lX6_169 (hl_ rfl) rfl rfl rfl rfl (Nat.le_of_ble_eq_true rfl) (Nat.le_of_ble_eq_true rfl) (ct_X5_leastSweep hR hw hs27 hC.rm (by omega)) (fun r42 h42 e42 => ?_)
          obtain ⟨I1, rfl, a2, rfl⟩ := e42
          refine r_reti dX6_least_45 rfl (rfl) (Nat.le_of_ble_eq_true rfl) (Nat.le_of_ble_eq_true rfl) ⟨_, rfl, ?_⟩
          exact ⟨I1, rfl, a2.m, hC.frT a2, by rw [sp_least, if_pos (show ok (nI j5) (zn ρ + 1) = true ∧ ok wh 3 = true from ⟨ok_in hj5 hw.bn1, hwh⟩), if_neg (show ¬ zi ρ = 0 by omega), ix_nI (by omega)]⟩
        · refine r_ifne_f (pc' := 33) (tgt := 36) dX6_least_30 rfl (by decide) (by decide) ?_
          refine r_c (pc' := 35) dX6_least_33 rfl kc_bipush_m3 ?_
          refine r_reti dX6_least_35 rfl (rfl) (Nat.le_of_ble_eq_true rfl) (Nat.le_of_ble_eq_true rfl) ⟨_, rfl, ?_⟩
          exact ⟨I, rfl, fun _ _ => rfl, hC, by rw [sp_least, if_pos (show ok (nI j5) (zn ρ + 1) = true ∧ ok wh 3 = true from ⟨ok_in hj5 hw.bn1, hwh⟩), if_pos hs27]⟩
      · refine r_c (pc' := 22) dX6_least_20 rfl kc_bipush_m2 ?_
        refine r_reti dX6_least_22 rfl (rfl) (Nat.le_of_ble_eq_true rfl) (Nat.le_of_ble_eq_true rfl) ⟨_, rfl, ?_⟩
        exact ⟨I, rfl, fun _ _ => rfl, hC, by rw [sp_least, ok_no (n := 3) (by decide) (x_hi' (n := 2) (x_nle c17) (by decide)), if_neg (fun q => by cases q.2)]⟩
  · refine r_ifeq_t (tgt := 20) dX6_least_8 (by decide) (by decide) ?_
    refine r_c (pc' := 22) dX6_least_20 rfl kc_bipush_m2 ?_
    refine r_reti dX6_least_22 rfl (rfl) (Nat.le_of_ble_eq_true rfl) (Nat.le_of_ble_eq_true rfl) ⟨_, rfl, ?_⟩
    exact ⟨I, rfl, fun _ _ => rfl, hC, by rw [sp_least, ok_no hw.bn1 hn5, if_neg (fun q => by cases q.1)]⟩

set_option maxHeartbeats 4000000 in
set_option maxRecDepth 100000 in
theorem lp_X6_odds {call : sm_K} {Q : sm_Q} {x : hX} {I : Nat → Nat → Int32} {n M U L : Nat} {f wh : Int32} (hn : n < 2 ^ 31) (hQ : Q (some (.long (lN (if wh = 0 then U else L)))) (hp x I)) : ∀ (m i u l : Nat), i + m = n → u < 2 ^ 31 → l < 2 ^ 31 → hv m u l = (U, L) → sm_wp call 0 0 MX6_odds Q 59 [.ref 0, .int f, .int (nI n), .int wh, .int (nI M), .int (nI u), .int (nI l), .int (nI i)] [] (hp x I) 0 0 := by
  intro m
  induction m with
  | zero =>
    intro i u l hi hu hl hh
    have hi : i = n := by omega
    refine r_s (pc' := 61) dX6_odds_59 rfl rfl ?_
    refine r_s (pc' := 62) dX6_odds_61 rfl rfl ?_
    refine r_cge_t (tgt := 90) dX6_odds_62 (by decide) (by rw [hi]; exact Int32.le_refl _) ?_
    obtain ⟨rfl, rfl⟩ := Prod.mk.inj hh
    refine r_s (pc' := 91) dX6_odds_90 rfl rfl ?_
    refine r_ifne (pc' := 94) (tgt := 100) dX6_odds_91 rfl (by decide) (fun c91 => ?_) (fun c91 => ?_)
    · refine r_s (pc' := 102) dX6_odds_100 rfl rfl ?_
      refine r_s (pc' := 103) dX6_odds_102 rfl rfl ?_
      refine r_topl (nI_l (by omega)) ?_
      refine r_retl dX6_odds_103 rfl (Nat.le_of_ble_eq_true rfl) (Nat.le_of_ble_eq_true rfl) ?_
      rw [if_neg c91] at hQ; exact hQ
    · refine r_s (pc' := 96) dX6_odds_94 rfl rfl ?_
      refine r_s (pc' := 97) dX6_odds_96 rfl rfl ?_
      refine r_topl (nI_l (by omega)) ?_
      refine r_goto (tgt := 103) dX6_odds_97 (by decide) ?_
      refine r_retl dX6_odds_103 rfl (Nat.le_of_ble_eq_true rfl) (Nat.le_of_ble_eq_true rfl) ?_
      rw [if_pos c91] at hQ; exact hQ
  | succ m ih =>
    intro i u l hi hu hl hh
    refine r_s (pc' := 61) dX6_odds_59 rfl rfl ?_
    refine r_s (pc' := 62) dX6_odds_61 rfl rfl ?_
    refine r_cge_f (pc' := 65) (tgt := 90) dX6_odds_62 rfl (by decide) (nI_ge (by omega) (by omega)) ?_
    refine r_s (pc' := 67) dX6_odds_65 rfl rfl ?_
    refine r_c (pc' := 68) dX6_odds_67 rfl kc_iconst_2 ?_
    refine r_rem (pc' := 69) dX6_odds_68 rfl (by decide) ?_
    refine r_top (show _ = nI (u % 2) from pk_rem (d := 2) hu (by decide) (by decide)) ?_
    refine r_ifne (pc' := 72) (tgt := 90) dX6_odds_69 rfl (by decide) (fun c69 => ?_) (fun c69 => ?_)
    · unfold hv at hh
      rw [if_neg (z1 c69)] at hh
      obtain ⟨rfl, rfl⟩ := Prod.mk.inj hh
      refine r_s (pc' := 91) dX6_odds_90 rfl rfl ?_
      refine r_ifne (pc' := 94) (tgt := 100) dX6_odds_91 rfl (by decide) (fun c91 => ?_) (fun c91 => ?_)
      · refine r_s (pc' := 102) dX6_odds_100 rfl rfl ?_
        refine r_s (pc' := 103) dX6_odds_102 rfl rfl ?_
        refine r_topl (nI_l (by omega)) ?_
        refine r_retl dX6_odds_103 rfl (Nat.le_of_ble_eq_true rfl) (Nat.le_of_ble_eq_true rfl) ?_
        rw [if_neg c91] at hQ; exact hQ
      · refine r_s (pc' := 96) dX6_odds_94 rfl rfl ?_
        refine r_s (pc' := 97) dX6_odds_96 rfl rfl ?_
        refine r_topl (nI_l (by omega)) ?_
        refine r_goto (tgt := 103) dX6_odds_97 (by decide) ?_
        refine r_retl dX6_odds_103 rfl (Nat.le_of_ble_eq_true rfl) (Nat.le_of_ble_eq_true rfl) ?_
        rw [if_pos c91] at hQ; exact hQ
    · refine r_s (pc' := 74) dX6_odds_72 rfl rfl ?_
      refine r_c (pc' := 75) dX6_odds_74 rfl kc_iconst_2 ?_
      refine r_div (pc' := 76) dX6_odds_75 rfl (by decide) ?_
      refine r_top (show _ = nI (u / 2) from pk_div (d := 2) hu (by decide) (by decide)) ?_
      refine r_st_5_8 (pc' := 78) dX6_odds_76 rfl rfl rfl ?_
      refine r_s (pc' := 80) dX6_odds_78 rfl rfl ?_
      refine r_c (pc' := 81) dX6_odds_80 rfl kc_iconst_2 ?_
      refine r_div (pc' := 82) dX6_odds_81 rfl (by decide) ?_
      refine r_top (show _ = nI (l / 2) from pk_div (d := 2) hl (by decide) (by decide)) ?_
      refine r_st_6_8 (pc' := 84) dX6_odds_82 rfl rfl rfl ?_
      refine r_in_7_8 (pc' := 87) dX6_odds_84 rfl rfl (i1 _) ?_
      refine r_goto (tgt := 59) dX6_odds_87 (by decide) ?_
      unfold hv at hh
      rw [if_pos (z0 c69 (by omega))] at hh
      exact ih (i + 1) (u / 2) (l / 2) (by omega) (by omega) (by omega) hh

set_option maxHeartbeats 4000000 in
set_option maxRecDepth 100000 in
theorem pc_odds {d : Nat} {x : hX} {I : Nat → Nat → Int32} {ρ : zR} {δ : zD} {η : zH} {ft tr : Int32} {f n wh : Int32} (hC : CI I (ρ, δ, η, ft, tr)) (hW : WF (ρ, δ, η, ft, tr)) : cl (d + 14) MX6_odds [.ref 0, .int f, .int n, .int wh] (hp x I) (fun r h' => ∃ I', h' = hp x I' ∧ (∀ q, 80 ≤ q → I' q = I q) ∧ CI I' (ρ, δ, η, ft, tr) ∧ r = sp_odds ρ f n wh) := by
  have hR : isRd I 2 ρ := hC.R
  have hw : wfR ρ := hW.1
  have b6 : zi ρ ≤ 6 := hw.1
  have b8 : zn ρ ≤ 8 := hw.2.1
  have bg : zg ρ ≤ 8 := hw.2.2.1
  have d8 : δ.1 ≤ 8 := hW.2.1.1
  refine c_in (L := [.ref 0, .int f, .int n, .int wh, .null, .null, .null, .null]) rfl rfl ?_
  refine r_s (pc' := 1) dX6_odds_0 rfl rfl ?_
  refine r_gr (pc' := 4) dX6_odds_1 rfl fX6_20 (hl_ rfl) rfl rfl ?_
  refine r_s (pc' := 5) dX6_odds_4 rfl rfl ?_
  refine r_Vi1 (pc' := 8) dX6_odds_5 rfl lX6_161 (hl_ rfl) rfl rfl rfl rfl (Nat.le_of_ble_eq_true rfl) (Nat.le_of_ble_eq_true rfl) (ct_X2_membersOf hR.2.2.1 bg) (fun r5 h5 e5 => ?_)
  obtain ⟨rfl, rfl⟩ := e5
  refine r_top (congrArg nI (fM_eq (f := f) hR)) ?_
  refine r_st_4_8 (pc' := 10) dX6_odds_8 rfl rfl rfl ?_
  refine r_s (pc' := 12) dX6_odds_10 rfl rfl ?_
  refine r_ifeq (pc' := 15) (tgt := 35) dX6_odds_12 rfl (by decide) (fun c12 => ?_) (fun c12 => ?_)
  · refine r_ldc2 (pc' := 38) dX6_odds_35 rfl kX6_196 ?_
    refine r_retl dX6_odds_38 rfl (Nat.le_of_ble_eq_true rfl) (Nat.le_of_ble_eq_true rfl) ⟨_, rfl, ?_⟩
    exact ⟨I, rfl, fun _ _ => rfl, hC, by rw [sp_odds, if_neg (fun q => q.1 (z0 c12 (by have := fM_lt (f := f) hw; omega)))]; rfl⟩
  · refine r_s (pc' := 16) dX6_odds_15 rfl rfl ?_
    refine r_gr (pc' := 19) dX6_odds_16 rfl fX6_20 (hl_ rfl) rfl rfl ?_
    refine r_s (pc' := 20) dX6_odds_19 rfl rfl ?_
    refine r_Vi1 (pc' := 23) dX6_odds_20 rfl lX6_139 (hl_ rfl) rfl rfl rfl rfl (Nat.le_of_ble_eq_true rfl) (Nat.le_of_ble_eq_true rfl) (ct_X2_countsNights (Or.inl rfl) hR.2.1 hw.bn1) (fun r20 h20 e20 => ?_)
    rcases e20 with ⟨rfl, rfl, j20, hj20, rfl⟩ | ⟨rfl, rfl, hn20⟩
    · refine r_ifeq_f (pc' := 26) (tgt := 35) dX6_odds_23 rfl (by decide) (by decide) ?_
      refine r_s (pc' := 27) dX6_odds_26 rfl rfl ?_
      refine r_iflt (pc' := 30) (tgt := 35) dX6_odds_27 rfl (by decide) (fun c27 => ?_) (fun c27 => ?_)
      · refine r_ldc2 (pc' := 38) dX6_odds_35 rfl kX6_196 ?_
        refine r_retl dX6_odds_38 rfl (Nat.le_of_ble_eq_true rfl) (Nat.le_of_ble_eq_true rfl) ⟨_, rfl, ?_⟩
        exact ⟨I, rfl, fun _ _ => rfl, hC, by rw [sp_odds, ok_no (n := 2) (by decide) (x_lo (n := 2) c27 (by decide)), if_neg (fun q => by cases q.2.2)]; rfl⟩
      · refine r_s (pc' := 31) dX6_odds_30 rfl rfl ?_
        refine r_c (pc' := 32) dX6_odds_31 rfl kc_iconst_1 ?_
        refine r_cle (pc' := 35) (tgt := 39) dX6_odds_32 rfl (by decide) (fun c32 => ?_) (fun c32 => ?_)
        · have hwh : ok wh 2 = true := by
            obtain ⟨j, hj, rfl⟩ := x_in' (n := 1) c27 c32 (by decide)
            exact ok_in hj (by decide)
          refine r_s (pc' := 40) dX6_odds_39 rfl rfl ?_
          refine r_gr (pc' := 43) dX6_odds_40 rfl fX6_48 (hl_ rfl) rfl rfl ?_
          refine r_s (pc' := 45) dX6_odds_43 rfl rfl ?_
          refine r_s (pc' := 46) dX6_odds_45 rfl rfl ?_
          refine r_Vi2 (pc' := 49) dX6_odds_46 rfl lX6_198 (hl_ rfl) rfl rfl rfl rfl (Nat.le_of_ble_eq_true rfl) (Nat.le_of_ble_eq_true rfl) (ct_X5_windsThatMeet hR hw (hw.gz (fM_g (z1 c12))) hC.rm (by omega) (fM_lt hw)) (fun r46 h46 e46 => ?_)
          obtain ⟨I1, rfl, a2, rfl⟩ := e46
          refine r_st_5_8 (pc' := 51) dX6_odds_49 rfl rfl rfl ?_
          refine r_c (pc' := 52) dX6_odds_51 rfl kc_iconst_1 ?_
          refine r_s (pc' := 53) dX6_odds_52 rfl rfl ?_
          refine r_s (pc' := 54) dX6_odds_53 rfl rfl ?_
          refine r_top (sh1 (by omega)) ?_
          refine r_st_6_8 (pc' := 56) dX6_odds_54 rfl rfl rfl ?_
          refine r_c (pc' := 57) dX6_odds_56 rfl kc_iconst_0 ?_
          refine r_st_7_8 (pc' := 59) dX6_odds_57 rfl rfl rfl ?_
          have h256 : 2 ^ j20 ≤ 2 ^ 8 := Nat.pow_le_pow_right (by decide) (by omega)
          have hol := ods_le (ρ := ρ) (M := fM ρ f) (n := j20)
          have hve := hv_eq j20 (by omega) (ods ρ (fM ρ f) j20) (by omega) hol
          refine lp_X6_odds (by omega) ⟨_, rfl, I1, rfl, a2.m, hC.frT a2, ?_⟩ j20 0 _ _ (by omega) (by omega) (by omega) hve
          rw [sp_odds, if_pos (show ¬ fM ρ f = 0 ∧ ok (nI j20) (zn ρ + 1) = true ∧ ok wh 2 = true from ⟨z1 c12, ok_in hj20 hw.bn1, hwh⟩), ix_nI (j := j20) (by omega)]
          split <;> rfl
        · refine r_ldc2 (pc' := 38) dX6_odds_35 rfl kX6_196 ?_
          refine r_retl dX6_odds_38 rfl (Nat.le_of_ble_eq_true rfl) (Nat.le_of_ble_eq_true rfl) ⟨_, rfl, ?_⟩
          exact ⟨I, rfl, fun _ _ => rfl, hC, by rw [sp_odds, ok_no (n := 2) (by decide) (x_hi' (n := 1) (x_nle c32) (by decide)), if_neg (fun q => by cases q.2.2)]; rfl⟩
    · refine r_ifeq_t (tgt := 35) dX6_odds_23 (by decide) (by decide) ?_
      refine r_ldc2 (pc' := 38) dX6_odds_35 rfl kX6_196 ?_
      refine r_retl dX6_odds_38 rfl (Nat.le_of_ble_eq_true rfl) (Nat.le_of_ble_eq_true rfl) ⟨_, rfl, ?_⟩
      exact ⟨I, rfl, fun _ _ => rfl, hC, by rw [sp_odds, ok_no hw.bn1 hn20, if_neg (fun q => by cases q.2.1)]; rfl⟩
