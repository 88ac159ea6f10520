set_option maxHeartbeats 4000000 in
set_option maxRecDepth 100000 in
theorem ct_X7_cellsBarred {d : Nat} {x : hX} {I : Nat → Nat → Int32} {k : Nat} {ln i m : Int32} {o : Option (Nat × Nat × (Nat → Int32))} (hk : k < 4) (hs : shM I k o) (hb : okO o) : ci (d + 2) MX7_cellsBarred [.ref 80, .int (nI k), .int ln, .int i, .long m.toInt64] (hp x I) (fun r h' => (h' = hp x (sm_up I 80 0 1) ∧ r = -11 ∧ o = none) ∨ (h' = hp x (sm_up I 80 0 2) ∧ r = -12 ∧ ∃ a n f, o = some (a, n, f) ∧ ¬ nI a = ln) ∨ (h' = hp x (sm_up I 80 0 4) ∧ r = -14 ∧ ∃ a n f, o = some (a, n, f) ∧ ln = nI a ∧ m < 0) ∨ (h' = hp x (sm_up I 80 0 3) ∧ r = -13 ∧ ∃ a n f, o = some (a, n, f) ∧ ln = nI a ∧ ¬ m < 0 ∧ rowok n i m = false) ∨ (h' = hp x I ∧ r = 0 ∧ ∃ a n f i1 m1, o = some (a, n, f) ∧ ln = nI a ∧ i1 + m1 ≤ n ∧ i = nI i1 ∧ m = nI m1)) := by
  refine c_in (L := [.ref 80, .int (nI k), .int ln, .int i, .long m.toInt64, .null]) rfl rfl ?_
  refine r_s (pc' := 1) dX7_cellsBarred_0 rfl rfl ?_
  refine r_gr (pc' := 4) dX7_cellsBarred_1 rfl fX7_61 (hl_ rfl) rfl rfl ?_
  refine r_s (pc' := 5) dX7_cellsBarred_4 rfl rfl ?_
  refine h_ald (pc' := 6) dX7_cellsBarred_5 rfl (hl_ rfl) rfl (vp_in_nI (by omega) (by decide)) (nI_clamp (by omega)) ?_
  refine r_iflt (pc' := 9) (tgt := 25) dX7_cellsBarred_6 rfl (by decide) (fun c6 => ?_) (fun c6 => ?_)
  · refine r_s (pc' := 26) dX7_cellsBarred_25 rfl rfl ?_
    refine r_gr (pc' := 29) dX7_cellsBarred_26 rfl fX7_61 (hl_ rfl) rfl rfl ?_
    refine r_s (pc' := 30) dX7_cellsBarred_29 rfl rfl ?_
    refine h_ald (pc' := 31) dX7_cellsBarred_30 rfl (hl_ rfl) rfl (vp_in_nI (by omega) (by decide)) (nI_clamp (by omega)) ?_
    refine r_ifge (pc' := 34) (tgt := 40) dX7_cellsBarred_31 rfl (by decide) (fun c31 => ?_) (fun c31 => ?_)
    · exact absurd c6 (Int32.not_lt.mpr c31)
    · refine r_s (pc' := 35) dX7_cellsBarred_34 rfl rfl ?_
      refine r_c (pc' := 36) dX7_cellsBarred_35 rfl kc_iconst_1 ?_
      refine r_Vi1 (pc' := 39) dX7_cellsBarred_36 rfl lX7_129 (hl_ rfl) rfl rfl rfl rfl (Nat.le_of_ble_eq_true rfl) (Nat.le_of_ble_eq_true rfl) (ct_X7_failed (f := 1)) (fun r36 h36 e36 => ?_)
      obtain ⟨rfl, rfl⟩ := e36
      refine r_reti dX7_cellsBarred_39 rfl (rfl) (Nat.le_of_ble_eq_true rfl) (Nat.le_of_ble_eq_true rfl) ⟨_, rfl, ?_⟩
      exact Or.inl ⟨rfl, rfl, shM_neg hs hb (x_nle c31)⟩
  · obtain ⟨a, n, f, rfl⟩ := shM_pos hs c6
    have hbd := hb a n f rfl
    refine r_s (pc' := 10) dX7_cellsBarred_9 rfl rfl ?_
    refine r_gr (pc' := 13) dX7_cellsBarred_10 rfl fX7_64 (hl_ rfl) rfl rfl ?_
    refine r_s (pc' := 14) dX7_cellsBarred_13 rfl rfl ?_
    refine h_ald (pc' := 15) dX7_cellsBarred_14 rfl (hl_ rfl) rfl (vp_in_nI (by omega) (by decide)) (nI_clamp (by omega)) ?_
    refine r_top (hs.2.1) ?_
    refine r_s (pc' := 16) dX7_cellsBarred_15 rfl rfl ?_
    refine r_ceq (pc' := 19) (tgt := 25) dX7_cellsBarred_16 rfl (by decide) (fun c16 => ?_) (fun c16 => ?_)
    · refine r_s (pc' := 26) dX7_cellsBarred_25 rfl rfl ?_
      refine r_gr (pc' := 29) dX7_cellsBarred_26 rfl fX7_61 (hl_ rfl) rfl rfl ?_
      refine r_s (pc' := 30) dX7_cellsBarred_29 rfl rfl ?_
      refine h_ald (pc' := 31) dX7_cellsBarred_30 rfl (hl_ rfl) rfl (vp_in_nI (by omega) (by decide)) (nI_clamp (by omega)) ?_
      refine r_ifge (pc' := 34) (tgt := 40) dX7_cellsBarred_31 rfl (by decide) (fun c31 => ?_) (fun c31 => ?_)
      · refine r_s (pc' := 42) dX7_cellsBarred_40 rfl rfl ?_
        refine r_c (pc' := 43) dX7_cellsBarred_42 rfl kc_lconst_0 ?_
        refine r_s (pc' := 44) dX7_cellsBarred_43 rfl rfl ?_
        refine r_ifge (pc' := 47) (tgt := 53) dX7_cellsBarred_44 rfl (by decide) (fun c44 => ?_) (fun c44 => ?_)
        · refine r_s (pc' := 54) dX7_cellsBarred_53 rfl rfl ?_
          refine r_s (pc' := 56) dX7_cellsBarred_54 rfl rfl ?_
          refine r_s (pc' := 57) dX7_cellsBarred_56 rfl rfl ?_
          refine r_gr (pc' := 60) dX7_cellsBarred_57 rfl fX7_61 (hl_ rfl) rfl rfl ?_
          refine r_s (pc' := 61) dX7_cellsBarred_60 rfl rfl ?_
          refine h_ald (pc' := 62) dX7_cellsBarred_61 rfl (hl_ rfl) rfl (vp_in_nI (by omega) (by decide)) (nI_clamp (by omega)) ?_
          refine r_top (hs.1) ?_
          refine r_Si3 (pc' := 65) dX7_cellsBarred_62 rfl lX7_133 rfl (Nat.le_of_ble_eq_true rfl) (Nat.le_of_ble_eq_true rfl) (ct_X7_isBeyond (by omega)) (fun r62 h62 e62 => ?_)
          rcases e62 with ⟨rfl, rfl, hn62⟩ | ⟨rfl, rfl, hn62⟩
          · refine r_ifeq_t (tgt := 76) dX7_cellsBarred_65 (by decide) (by decide) ?_
            refine r_c (pc' := 77) dX7_cellsBarred_76 rfl kc_iconst_0 ?_
            refine r_reti dX7_cellsBarred_77 rfl (rfl) (Nat.le_of_ble_eq_true rfl) (Nat.le_of_ble_eq_true rfl) ⟨_, rfl, ?_⟩
            obtain ⟨i1, m1, h1, h2, h3⟩ := rowok_of hn62 (by omega)
            exact Or.inr (Or.inr (Or.inr (Or.inr ⟨rfl, rfl, a, n, f, i1, m1, rfl, c16.symm, h1, h2, h3⟩)))
          · refine r_ifeq_f (pc' := 68) (tgt := 76) dX7_cellsBarred_65 rfl (by decide) (by decide) ?_
            refine r_s (pc' := 69) dX7_cellsBarred_68 rfl rfl ?_
            refine r_c (pc' := 70) dX7_cellsBarred_69 rfl kc_iconst_3 ?_
            refine r_Vi1 (pc' := 73) dX7_cellsBarred_70 rfl lX7_129 (hl_ rfl) rfl rfl rfl rfl (Nat.le_of_ble_eq_true rfl) (Nat.le_of_ble_eq_true rfl) (ct_X7_failed (f := 3)) (fun r70 h70 e70 => ?_)
            obtain ⟨rfl, rfl⟩ := e70
            refine r_goto (tgt := 77) dX7_cellsBarred_73 (by decide) ?_
            refine r_reti dX7_cellsBarred_77 rfl (rfl) (Nat.le_of_ble_eq_true rfl) (Nat.le_of_ble_eq_true rfl) ⟨_, rfl, ?_⟩
            exact Or.inr (Or.inr (Or.inr (Or.inl ⟨rfl, rfl, a, n, f, rfl, c16.symm, (fun h => absurd ((lc_lt _ _).mpr (by rw [l_k]; exact (fa_lt m 0).mp h)) (Int32.not_lt.mpr c44)), hn62⟩)))
        · refine r_s (pc' := 48) dX7_cellsBarred_47 rfl rfl ?_
          refine r_c (pc' := 49) dX7_cellsBarred_48 rfl kc_iconst_4 ?_
          refine r_Vi1 (pc' := 52) dX7_cellsBarred_49 rfl lX7_129 (hl_ rfl) rfl rfl rfl rfl (Nat.le_of_ble_eq_true rfl) (Nat.le_of_ble_eq_true rfl) (ct_X7_failed (f := 4)) (fun r49 h49 e49 => ?_)
          obtain ⟨rfl, rfl⟩ := e49
          refine r_reti dX7_cellsBarred_52 rfl (rfl) (Nat.le_of_ble_eq_true rfl) (Nat.le_of_ble_eq_true rfl) ⟨_, rfl, ?_⟩
          exact Or.inr (Or.inr (Or.inl ⟨rfl, rfl, a, n, f, rfl, c16.symm, (fa_lt m 0).mpr (by have := (lc_lt _ _).mp (x_nle c44); rw [l_k, show (0 : Int64).toInt = 0 from rfl] at this; exact this)⟩))
      · refine r_s (pc' := 35) dX7_cellsBarred_34 rfl rfl ?_
        refine r_c (pc' := 36) dX7_cellsBarred_35 rfl kc_iconst_1 ?_
        refine r_Vi1 (pc' := 39) dX7_cellsBarred_36 rfl lX7_129 (hl_ rfl) rfl rfl rfl rfl (Nat.le_of_ble_eq_true rfl) (Nat.le_of_ble_eq_true rfl) (ct_X7_failed (f := 1)) (fun r36 h36 e36 => ?_)
        obtain ⟨rfl, rfl⟩ := e36
        refine r_reti dX7_cellsBarred_39 rfl (rfl) (Nat.le_of_ble_eq_true rfl) (Nat.le_of_ble_eq_true rfl) ⟨_, rfl, ?_⟩
        exact absurd c31 (by rw [hs.1]; exact fun h => h (nI_pos' (by omega)))
    · refine r_s (pc' := 20) dX7_cellsBarred_19 rfl rfl ?_
      refine r_c (pc' := 21) dX7_cellsBarred_20 rfl kc_iconst_2 ?_
      refine r_Vi1 (pc' := 24) dX7_cellsBarred_21 rfl lX7_129 (hl_ rfl) rfl rfl rfl rfl (Nat.le_of_ble_eq_true rfl) (Nat.le_of_ble_eq_true rfl) (ct_X7_failed (f := 2)) (fun r21 h21 e21 => ?_)
      obtain ⟨rfl, rfl⟩ := e21
      refine r_reti dX7_cellsBarred_24 rfl (rfl) (Nat.le_of_ble_eq_true rfl) (Nat.le_of_ble_eq_true rfl) ⟨_, rfl, ?_⟩
      exact Or.inr (Or.inl ⟨rfl, rfl, a, n, f, rfl, c16⟩)

set_option maxHeartbeats 4000000 in
set_option maxRecDepth 100000 in
theorem lp_X7_sheet {d : Nat} {Q : sm_Q} {x : hX} {k n : Nat} {ln : Int32} {I0 : Nat → Nat → Int32} (hk : k < 4) (hn : n ≤ 60) (hQ : ∀ I, (∀ j, j < n → I 100 (60 * k + j) = 0) → (∀ z, (z < 60 * k ∨ 60 * k + 60 ≤ z) → I 100 z = I0 100 z) → (∀ r, r ≠ 100 → I r = I0 r) → Q (some (.int 1)) (hp x (sm_up I 80 0 0))) : ∀ (m i : Nat) (I : Nat → Nat → Int32), i + m = n → (∀ j, j < i → I 100 (60 * k + j) = 0) → (∀ z, (z < 60 * k ∨ 60 * k + 60 ≤ z) → I 100 z = I0 100 z) → (∀ r, r ≠ 100 → I r = I0 r) → sm_wp (sm_c (d + 1)) 0 0 MX7_sheet Q 65 [.ref 80, .int (nI k), .int ln, .int (nI n), .int (nI i)] [] (hp x I) 0 0 := by
  intro m
  induction m with
  | zero =>
    intro i I hi h1 h2 h3
    have hin : i = n := by omega
    subst hin
    refine r_s (pc' := 67) dX7_sheet_65 rfl rfl ?_
    refine r_s (pc' := 68) dX7_sheet_67 rfl rfl ?_
    refine r_cge_t (tgt := 90) dX7_sheet_68 (by decide) (Int32.le_refl _) ?_
    refine r_s (pc' := 91) dX7_sheet_90 rfl rfl ?_
    refine r_c (pc' := 92) dX7_sheet_91 rfl kc_iconst_1 ?_
    refine r_Vi1 (pc' := 95) dX7_sheet_92 rfl lX7_141 (hl_ rfl) rfl rfl rfl rfl (Nat.le_of_ble_eq_true rfl) (Nat.le_of_ble_eq_true rfl) (ct_X7_refused (v := 1)) (fun r92 h92 e92 => ?_)
    obtain ⟨rfl, rfl⟩ := e92
    refine r_reti dX7_sheet_95 rfl (rfl) (Nat.le_of_ble_eq_true rfl) (Nat.le_of_ble_eq_true rfl) ?_
    exact hQ I h1 h2 h3
  | succ m ih =>
    intro i I hi h1 h2 h3
    refine r_s (pc' := 67) dX7_sheet_65 rfl rfl ?_
    refine r_s (pc' := 68) dX7_sheet_67 rfl rfl ?_
    refine r_cge_f (pc' := 71) (tgt := 90) dX7_sheet_68 rfl (by decide) (nI_ge (by omega) (by omega)) ?_
    refine r_s (pc' := 72) dX7_sheet_71 rfl rfl ?_
    refine r_gr (pc' := 75) dX7_sheet_72 rfl fX7_67 (hl_ rfl) rfl rfl ?_
    refine r_c (pc' := 77) dX7_sheet_75 rfl kc_bipush_60 ?_
    refine r_s (pc' := 78) dX7_sheet_77 rfl rfl ?_
    refine r_s (pc' := 79) dX7_sheet_78 rfl rfl ?_
    refine r_top ((pk_mul 60 k : nI 60 * nI k = nI (60 * k))) ?_
    refine r_s (pc' := 81) dX7_sheet_79 rfl rfl ?_
    refine r_s (pc' := 82) dX7_sheet_81 rfl rfl ?_
    refine r_top (nI_add _ _) ?_
    refine r_c (pc' := 83) dX7_sheet_82 rfl kc_iconst_0 ?_
    refine h_ast (pc' := 84) dX7_sheet_83 rfl (hl_ rfl) rfl (vp_in_nI (by omega) (by decide)) (nI_clamp (by omega)) ?_
    refine r_in_4_5 (pc' := 87) dX7_sheet_84 rfl rfl (i1 _) ?_
    refine r_goto (tgt := 65) dX7_sheet_87 (by decide) ?_
    refine ih (i + 1) _ (by omega) (fun j hj => ?_) (fun z hz => by rw [up_n (by omega)]; exact h2 z hz) (fun r hr => by rw [up_o hr]; exact h3 r hr)
    by_cases e : j = i
    · subst e; exact up_s
    · rw [up_n (by omega)]; exact h1 j (by omega)

set_option maxHeartbeats 4000000 in
set_option maxRecDepth 100000 in
theorem pm_sheet {d : Nat} {x : hX} {I : Nat → Nat → Int32} {ρ : zR} {δ : zD} {η : zH} {ft tr : Int32} {k ln n : Int32} (hM : MI I (ρ, δ, η, ft, tr)) (hW : WF (ρ, δ, η, ft, tr)) : ci (d + 3) MX7_sheet [.ref 80, .int k, .int ln, .int n] (hp x I) (fun r h' => ∃ I', h' = hp x I' ∧ (∀ q, q < 80 → I' q = I q) ∧ MI I' (ρ, δ, (sp_sheet η k ln n).1, (sp_sheet η k ln n).2.1, tr) ∧ r = (sp_sheet η k ln n).2.2) := by
  have hR : isMd I ρ := hM.R
  have hw : wfR ρ := hW.1
  have b6 : zi ρ ≤ 6 := hw.1
  have b8 : zn ρ ≤ 8 := hw.2.1
  have bg : zg ρ ≤ 8 := hw.2.2.1
  have d8 : δ.1 ≤ 8 := hW.2.1.1
  have hSh : ∀ k, k < 4 → shM I k (η k) := hM.S
  have hWh : ∀ k, k < 4 → okO (η k) := fun k hk a n f e => hW.2.2 k hk a n f e
  refine c_in (L := [.ref 80, .int k, .int ln, .int n, .null]) rfl rfl ?_
  refine r_s (pc' := 1) dX7_sheet_0 rfl rfl ?_
  refine r_Si1 (pc' := 4) dX7_sheet_1 rfl lX7_137 rfl (Nat.le_of_ble_eq_true rfl) (Nat.le_of_ble_eq_true rfl) (ct_X7_noSheet) (fun r1 h1 e1 => ?_)
  rcases e1 with ⟨rfl, rfl, j1, hj1, rfl⟩ | ⟨rfl, rfl, hn1⟩
  · refine r_ifeq_t (tgt := 13) dX7_sheet_4 (by decide) (by decide) ?_
    refine r_s (pc' := 14) dX7_sheet_13 rfl rfl ?_
    refine r_s (pc' := 15) dX7_sheet_14 rfl rfl ?_
    refine r_c (pc' := 16) dX7_sheet_15 rfl kc_lconst_0 ?_
    refine r_ldc2 (pc' := 19) dX7_sheet_16 rfl kX7_144 ?_
    refine r_topl (show (2 : Int64) = lN 2 from rfl) ?_
    refine r_Si3 (pc' := 22) dX7_sheet_19 rfl lX7_89 rfl (Nat.le_of_ble_eq_true rfl) (Nat.le_of_ble_eq_true rfl) (ct_in_m (n := 2) (by decide)) (fun r19 h19 e19 => ?_)
    rcases e19 with ⟨rfl, rfl, j19, hj19, rfl⟩ | ⟨rfl, rfl, hn19⟩
    · refine r_ifeq_f (pc' := 25) (tgt := 31) dX7_sheet_22 rfl (by decide) (by decide) ?_
      refine r_s (pc' := 26) dX7_sheet_25 rfl rfl ?_
      refine r_c (pc' := 28) dX7_sheet_26 rfl kc_bipush_60 ?_
      refine r_cle (pc' := 31) (tgt := 38) dX7_sheet_28 rfl (by decide) (fun c28 => ?_) (fun c28 => ?_)
      · refine r_s (pc' := 39) dX7_sheet_38 rfl rfl ?_
        refine r_ifge (pc' := 42) (tgt := 48) dX7_sheet_39 rfl (by decide) (fun c39 => ?_) (fun c39 => ?_)
        · obtain ⟨m, hm, rfl⟩ := x_in' (n := 60) (Int32.not_lt.mpr c39) c28 (by decide)
          refine r_s (pc' := 49) dX7_sheet_48 rfl rfl ?_
          refine r_gr (pc' := 52) dX7_sheet_49 rfl fX7_61 (hl_ rfl) rfl rfl ?_
          refine r_s (pc' := 53) dX7_sheet_52 rfl rfl ?_
          refine r_s (pc' := 54) dX7_sheet_53 rfl rfl ?_
          refine h_ast (pc' := 55) dX7_sheet_54 rfl (hl_ rfl) rfl (vp_in_nI (by omega) (by decide)) (nI_clamp (by omega)) ?_
          refine r_s (pc' := 56) dX7_sheet_55 rfl rfl ?_
          refine r_gr (pc' := 59) dX7_sheet_56 rfl fX7_64 (hl_ rfl) rfl rfl ?_
          refine r_s (pc' := 60) dX7_sheet_59 rfl rfl ?_
          refine r_s (pc' := 61) dX7_sheet_60 rfl rfl ?_
          refine h_ast (pc' := 62) dX7_sheet_61 rfl (hl_ rfl) rfl (vp_in_nI (by omega) (by decide)) (nI_clamp (by omega)) ?_
          refine r_c (pc' := 63) dX7_sheet_62 rfl kc_iconst_0 ?_
          refine r_st_4_5 (pc' := 65) dX7_sheet_63 rfl rfl rfl ?_
          have e2 : sp_sheet η (nI j1) (nI j19) (nI m) = (hup η j1 (some (j19, m, fun _ => 0)), 0, 1) := by rw [sp_sheet, if_pos (ok_in hj1 (by decide)), if_pos ⟨ok_in hj19 (by decide), c28⟩, if_neg (Int32.not_lt.mpr c39), ix_nI (by omega), ix_nI (by omega), ix_nI (by omega)]
          rw [e2]
          refine lp_X7_sheet (I0 := sm_up (sm_up I 98 j1 (nI m)) 99 j1 (nI j19)) hj1 (by omega) (fun I1 a1 a2 a3 => ⟨_, rfl, _, rfl, fun q hq => by rw [up_o (by omega), a3 q (by omega), up_o (by omega), up_o (by omega)], MI.upf (η := hup η j1 (some (j19, m, fun _ => 0))) (f := ft) ?_ 0, rfl⟩) m 0 _ (by omega) (fun j hj => absurd hj (by omega)) (fun z _ => rfl) (fun r _ => rfl)
          exact hM.putH j1 hj1 (o := some (j19, m, fun _ => 0)) ⟨by rw [a3 98 (by decide), up_o (by decide), up_s], by rw [a3 99 (by decide), up_s], a1⟩ (fun r h1 h2 h3 h4 => by rw [a3 r h3, up_o h2, up_o h1]) (fun i hi => ⟨by rw [a3 98 (by decide), up_o (by decide), up_n hi], by rw [a3 99 (by decide), up_n hi, up_o (by decide)]⟩) (fun z hz => by rw [a2 z hz, up_o (by decide), up_o (by decide)]) (fun i hi a n f e => (hWh i hi a n f e).2)
        · refine r_s (pc' := 43) dX7_sheet_42 rfl rfl ?_
          refine r_c (pc' := 44) dX7_sheet_43 rfl kc_iconst_4 ?_
          refine r_Vi1 (pc' := 47) dX7_sheet_44 rfl lX7_129 (hl_ rfl) rfl rfl rfl rfl (Nat.le_of_ble_eq_true rfl) (Nat.le_of_ble_eq_true rfl) (ct_X7_failed (f := 4)) (fun r44 h44 e44 => ?_)
          obtain ⟨rfl, rfl⟩ := e44
          refine r_reti dX7_sheet_47 rfl (rfl) (Nat.le_of_ble_eq_true rfl) (Nat.le_of_ble_eq_true rfl) ⟨_, rfl, ?_⟩
          have e2 : sp_sheet η (nI j1) (nI j19) n = (η, 4, -14) := by rw [sp_sheet, if_pos (ok_in hj1 (by decide)), if_pos ⟨ok_in hj19 (by decide), c28⟩, if_pos (x_nle c39)]
          rw [e2]
          exact ⟨_, rfl, fun q hq => up_o (by omega), hM.upf 4, rfl⟩
      · refine r_s (pc' := 32) dX7_sheet_31 rfl rfl ?_
        refine r_c (pc' := 34) dX7_sheet_32 rfl kc_bipush_m2 ?_
        refine r_Vi1 (pc' := 37) dX7_sheet_34 rfl lX7_141 (hl_ rfl) rfl rfl rfl rfl (Nat.le_of_ble_eq_true rfl) (Nat.le_of_ble_eq_true rfl) (ct_X7_refused (v := -2)) (fun r34 h34 e34 => ?_)
        obtain ⟨rfl, rfl⟩ := e34
        refine r_reti dX7_sheet_37 rfl (rfl) (Nat.le_of_ble_eq_true rfl) (Nat.le_of_ble_eq_true rfl) ⟨_, rfl, ?_⟩
        have e2 : sp_sheet η (nI j1) (nI j19) n = (η, 0, -2) := by
          rw [sp_sheet, if_pos (ok_in hj1 (by decide)), if_neg]
          intro ⟨a, b⟩
          exact c28 b
        rw [e2]
        exact ⟨_, rfl, fun q hq => up_o (by omega), hM.upf 0, rfl⟩
    · refine r_ifeq_t (tgt := 31) dX7_sheet_22 (by decide) (by decide) ?_
      refine r_s (pc' := 32) dX7_sheet_31 rfl rfl ?_
      refine r_c (pc' := 34) dX7_sheet_32 rfl kc_bipush_m2 ?_
      refine r_Vi1 (pc' := 37) dX7_sheet_34 rfl lX7_141 (hl_ rfl) rfl rfl rfl rfl (Nat.le_of_ble_eq_true rfl) (Nat.le_of_ble_eq_true rfl) (ct_X7_refused (v := -2)) (fun r34 h34 e34 => ?_)
      obtain ⟨rfl, rfl⟩ := e34
      refine r_reti dX7_sheet_37 rfl (rfl) (Nat.le_of_ble_eq_true rfl) (Nat.le_of_ble_eq_true rfl) ⟨_, rfl, ?_⟩
      have e2 : sp_sheet η (nI j1) ln n = (η, 0, -2) := by
        rw [sp_sheet, if_pos (ok_in hj1 (by decide)), if_neg]
        intro ⟨a, b⟩
        rw [ok_no (by decide) hn19] at a; cases a
      rw [e2]
      exact ⟨_, rfl, fun q hq => up_o (by omega), hM.upf 0, rfl⟩
  · refine r_ifeq_f (pc' := 7) (tgt := 13) dX7_sheet_4 rfl (by decide) (by decide) ?_
    refine r_s (pc' := 8) dX7_sheet_7 rfl rfl ?_
    refine r_c (pc' := 9) dX7_sheet_8 rfl kc_iconst_m1 ?_
    refine r_Vi1 (pc' := 12) dX7_sheet_9 rfl lX7_141 (hl_ rfl) rfl rfl rfl rfl (Nat.le_of_ble_eq_true rfl) (Nat.le_of_ble_eq_true rfl) (ct_X7_refused (v := -1)) (fun r9 h9 e9 => ?_)
    obtain ⟨rfl, rfl⟩ := e9
    refine r_reti dX7_sheet_12 rfl (rfl) (Nat.le_of_ble_eq_true rfl) (Nat.le_of_ble_eq_true rfl) ⟨_, rfl, ?_⟩
    have e2 : sp_sheet η k ln n = (η, 0, -1) := by rw [sp_sheet, ok_no (by decide) hn1]; rfl
    rw [e2]
    exact ⟨_, rfl, fun q hq => up_o (by omega), hM.upf 0, rfl⟩

set_option maxHeartbeats 4000000 in
set_option maxRecDepth 100000 in
theorem lp2_X7_copy {d : Nat} {Q : sm_Q} {x : hX} {k o a b n : Nat} {I0 : Nat → Nat → Int32} (hk : k < 4) (ho : o < 4) (ha : a + n ≤ 60) (hb : b + n ≤ 60) (hQ : ∀ I, (∀ z, I 100 z = if 60 * o + b ≤ z ∧ z < 60 * o + b + n then I0 101 (z - (60 * o + b)) else I0 100 z) → (∀ r, r ≠ 100 → I r = I0 r) → Q (some (.int (nI n))) (hp x (sm_up I 80 0 0))) : ∀ (m i : Nat) (I : Nat → Nat → Int32), i + m = n → (∀ z, I 100 z = if 60 * o + b ≤ z ∧ z < 60 * o + b + i then I0 101 (z - (60 * o + b)) else I0 100 z) → (∀ r, r ≠ 100 → I r = I0 r) → sm_wp (sm_c (d + 1)) 0 0 MX7_copy Q 144 [.ref 80, .int (nI k), .int (nI a), .int (nI o), .int (nI b), .int (nI n), .int (nI i)] [] (hp x I) 0 0 := by
  intro m
  induction m with
  | zero =>
    intro i I hi h1 h2
    have hin : i = n := by omega
    subst hin
    refine r_s (pc' := 146) dX7_copy_144 rfl rfl ?_
    refine r_s (pc' := 148) dX7_copy_146 rfl rfl ?_
    refine r_cge_t (tgt := 179) dX7_copy_148 (by decide) (Int32.le_refl _) ?_
    refine r_s (pc' := 180) dX7_copy_179 rfl rfl ?_
    refine r_s (pc' := 182) dX7_copy_180 rfl rfl ?_
    refine r_Vi1 (pc' := 185) dX7_copy_182 rfl lX7_141 (hl_ rfl) rfl rfl rfl rfl (Nat.le_of_ble_eq_true rfl) (Nat.le_of_ble_eq_true rfl) (ct_X7_refused (v := _)) (fun r182 h182 e182 => ?_)
    obtain ⟨rfl, rfl⟩ := e182
    refine r_reti dX7_copy_185 rfl (rfl) (Nat.le_of_ble_eq_true rfl) (Nat.le_of_ble_eq_true rfl) ?_
    exact hQ I h1 h2
  | succ m ih =>
    intro i I hi h1 h2
    refine r_s (pc' := 146) dX7_copy_144 rfl rfl ?_
    refine r_s (pc' := 148) dX7_copy_146 rfl rfl ?_
    refine r_cge_f (pc' := 151) (tgt := 179) dX7_copy_148 rfl (by decide) (nI_ge (by omega) (by omega)) ?_
    refine r_s (pc' := 152) dX7_copy_151 rfl rfl ?_
    refine r_gr (pc' := 155) dX7_copy_152 rfl fX7_67 (hl_ rfl) rfl rfl ?_
    refine r_c (pc' := 157) dX7_copy_155 rfl kc_bipush_60 ?_
    refine r_s (pc' := 158) dX7_copy_157 rfl rfl ?_
    refine r_s (pc' := 159) dX7_copy_158 rfl rfl ?_
    refine r_top ((pk_mul 60 o : nI 60 * nI o = nI (60 * o))) ?_
    refine r_s (pc' := 161) dX7_copy_159 rfl rfl ?_
    refine r_s (pc' := 162) dX7_copy_161 rfl rfl ?_
    refine r_top (nI_add _ _) ?_
    refine r_s (pc' := 164) dX7_copy_162 rfl rfl ?_
    refine r_s (pc' := 165) dX7_copy_164 rfl rfl ?_
    refine r_top (nI_add _ _) ?_
    refine r_s (pc' := 166) dX7_copy_165 rfl rfl ?_
    refine r_gr (pc' := 169) dX7_copy_166 rfl fX7_70 (hl_ rfl) rfl rfl ?_
    refine r_s (pc' := 171) dX7_copy_169 rfl rfl ?_
    refine h_ald (pc' := 172) dX7_copy_171 rfl (hl_ rfl) rfl (vp_in_nI (by omega) (by decide)) (nI_clamp (by omega)) ?_
    refine h_ast (pc' := 173) dX7_copy_172 rfl (hl_ rfl) rfl (vp_in_nI (by omega) (by decide)) (nI_clamp (by omega)) ?_
    refine r_in_6_7 (pc' := 176) dX7_copy_173 rfl rfl (i1 _) ?_
    refine r_goto (tgt := 144) dX7_copy_176 (by decide) ?_
    refine ih (i + 1) _ (by omega) (fun z => ?_) (fun r hr => by rw [up_o hr]; exact h2 r hr)
    by_cases e : z = 60 * o + b + i
    · subst e; rw [up_s, if_pos ⟨by omega, by omega⟩, show 60 * o + b + i - (60 * o + b) = i by omega, h2 101 (by decide)]
    · rw [up_n e, h1 z]
      by_cases e2 : 60 * o + b ≤ z ∧ z < 60 * o + b + i
      · rw [if_pos e2, if_pos ⟨e2.1, by omega⟩]
      · rw [if_neg e2, if_neg (by omega)]

set_option maxHeartbeats 4000000 in
set_option maxRecDepth 100000 in
theorem lp1_X7_copy {d : Nat} {Q : sm_Q} {x : hX} {k o a b n : Nat} {I0 : Nat → Nat → Int32} (hk : k < 4) (ho : o < 4) (ha : a + n ≤ 60) (hb : b + n ≤ 60) (hQ : ∀ I, (∀ z, I 100 z = if 60 * o + b ≤ z ∧ z < 60 * o + b + n then I0 100 (60 * k + a + (z - (60 * o + b))) else I0 100 z) → (∀ r, r ≠ 100 → r ≠ 101 → I r = I0 r) → Q (some (.int (nI n))) (hp x (sm_up I 80 0 0))) : ∀ (m i : Nat) (I : Nat → Nat → Int32), i + m = n → (∀ z, z < i → I 101 z = I0 100 (60 * k + a + z)) → (∀ r, r ≠ 101 → I r = I0 r) → sm_wp (sm_c (d + 1)) 0 0 MX7_copy Q 107 [.ref 80, .int (nI k), .int (nI a), .int (nI o), .int (nI b), .int (nI n), .int (nI i)] [] (hp x I) 0 0 := by
  intro m
  induction m with
  | zero =>
    intro i I hi h1 h2
    have hin : i = n := by omega
    subst hin
    refine r_s (pc' := 109) dX7_copy_107 rfl rfl ?_
    refine r_s (pc' := 111) dX7_copy_109 rfl rfl ?_
    refine r_cge_t (tgt := 141) dX7_copy_111 (by decide) (Int32.le_refl _) ?_
    refine r_c (pc' := 142) dX7_copy_141 rfl kc_iconst_0 ?_
    refine r_st_6_7 (pc' := 144) dX7_copy_142 rfl rfl rfl ?_
    refine lp2_X7_copy (I0 := I) hk ho ha hb (fun I1 a1 a2 => hQ I1 (fun z => ?_) (fun r h3 h4 => by rw [a2 r h3, h2 r h4])) i 0 _ (by omega) (fun z => by rw [if_neg (by omega)]) (fun r _ => rfl)
    rw [a1 z]
    by_cases e : 60 * o + b ≤ z ∧ z < 60 * o + b + i
    · rw [if_pos e, if_pos e, h1 _ (by omega)]
    · rw [if_neg e, if_neg e, h2 100 (by decide)]
  | succ m ih =>
    intro i I hi h1 h2
    refine r_s (pc' := 109) dX7_copy_107 rfl rfl ?_
    refine r_s (pc' := 111) dX7_copy_109 rfl rfl ?_
    refine r_cge_f (pc' := 114) (tgt := 141) dX7_copy_111 rfl (by decide) (nI_ge (by omega) (by omega)) ?_
    refine r_s (pc' := 115) dX7_copy_114 rfl rfl ?_
    refine r_gr (pc' := 118) dX7_copy_115 rfl fX7_70 (hl_ rfl) rfl rfl ?_
    refine r_s (pc' := 120) dX7_copy_118 rfl rfl ?_
    refine r_s (pc' := 121) dX7_copy_120 rfl rfl ?_
    refine r_gr (pc' := 124) dX7_copy_121 rfl fX7_67 (hl_ rfl) rfl rfl ?_
    refine r_c (pc' := 126) dX7_copy_124 rfl kc_bipush_60 ?_
    refine r_s (pc' := 127) dX7_copy_126 rfl rfl ?_
    refine r_s (pc' := 128) dX7_copy_127 rfl rfl ?_
    refine r_top ((pk_mul 60 k : nI 60 * nI k = nI (60 * k))) ?_
    refine r_s (pc' := 129) dX7_copy_128 rfl rfl ?_
    refine r_s (pc' := 130) dX7_copy_129 rfl rfl ?_
    refine r_top (nI_add _ _) ?_
    refine r_s (pc' := 132) dX7_copy_130 rfl rfl ?_
    refine r_s (pc' := 133) dX7_copy_132 rfl rfl ?_
    refine r_top (nI_add _ _) ?_
    refine h_ald (pc' := 134) dX7_copy_133 rfl (hl_ rfl) rfl (vp_in_nI (by omega) (by decide)) (nI_clamp (by omega)) ?_
    refine h_ast (pc' := 135) dX7_copy_134 rfl (hl_ rfl) rfl (vp_in_nI (by omega) (by decide)) (nI_clamp (by omega)) ?_
    refine r_in_6_7 (pc' := 138) dX7_copy_135 rfl rfl (i1 _) ?_
    refine r_goto (tgt := 107) dX7_copy_138 (by decide) ?_
    refine ih (i + 1) _ (by omega) (fun z hz => ?_) (fun r hr => by rw [up_o hr]; exact h2 r hr)
    by_cases e : z = i
    · subst e; rw [up_s, h2 100 (by decide)]
    · rw [up_n e]; exact h1 z (by omega)

set_option maxHeartbeats 4000000 in
set_option maxRecDepth 100000 in
theorem pm_copy {d : Nat} {x : hX} {I : Nat → Nat → Int32} {ρ : zR} {δ : zD} {η : zH} {ft tr : Int32} {k i oo j n : Int32} (hM : MI I (ρ, δ, η, ft, tr)) (hW : WF (ρ, δ, η, ft, tr)) : ci (d + 3) MX7_copy [.ref 80, .int k, .int i, .int oo, .int j, .int n] (hp x I) (fun r h' => ∃ I', h' = hp x I' ∧ (∀ q, q < 80 → I' q = I q) ∧ MI I' (ρ, δ, (sp_copy η k i oo j n).1, (sp_copy η k i oo j n).2.1, tr) ∧ r = (sp_copy η k i oo j n).2.2) := by
  have hR : isMd I ρ := hM.R
  have hw : wfR ρ := hW.1
  have b6 : zi ρ ≤ 6 := hw.1
  have b8 : zn ρ ≤ 8 := hw.2.1
  have bg : zg ρ ≤ 8 := hw.2.2.1
  have d8 : δ.1 ≤ 8 := hW.2.1.1
  have hSh : ∀ k, k < 4 → shM I k (η k) := hM.S
  have hWh : ∀ k, k < 4 → okO (η k) := fun k hk a n f e => hW.2.2 k hk a n f e
  refine c_in (L := [.ref 80, .int k, .int i, .int oo, .int j, .int n, .null]) rfl rfl ?_
  refine r_s (pc' := 1) dX7_copy_0 rfl rfl ?_
  refine r_Si1 (pc' := 4) dX7_copy_1 rfl lX7_137 rfl (Nat.le_of_ble_eq_true rfl) (Nat.le_of_ble_eq_true rfl) (ct_X7_noSheet) (fun r1 h1 e1 => ?_)
  rcases e1 with ⟨rfl, rfl, j1, hj1, rfl⟩ | ⟨rfl, rfl, hn1⟩
  · refine r_ifne_f (pc' := 7) (tgt := 14) dX7_copy_4 rfl (by decide) (by decide) ?_
    refine r_s (pc' := 8) dX7_copy_7 rfl rfl ?_
    refine r_Si1 (pc' := 11) dX7_copy_8 rfl lX7_137 rfl (Nat.le_of_ble_eq_true rfl) (Nat.le_of_ble_eq_true rfl) (ct_X7_noSheet) (fun r8 h8 e8 => ?_)
    rcases e8 with ⟨rfl, rfl, j8, hj8, rfl⟩ | ⟨rfl, rfl, hn8⟩
    · refine r_ifeq_t (tgt := 20) dX7_copy_11 (by decide) (by decide) ?_
      refine r_s (pc' := 21) dX7_copy_20 rfl rfl ?_
      refine r_gr (pc' := 24) dX7_copy_21 rfl fX7_61 (hl_ rfl) rfl rfl ?_
      refine r_s (pc' := 25) dX7_copy_24 rfl rfl ?_
      refine h_ald (pc' := 26) dX7_copy_25 rfl (hl_ rfl) rfl (vp_in_nI (by omega) (by decide)) (nI_clamp (by omega)) ?_
      refine r_iflt (pc' := 29) (tgt := 38) dX7_copy_26 rfl (by decide) (fun c26 => ?_) (fun c26 => ?_)
      · refine r_s (pc' := 39) dX7_copy_38 rfl rfl ?_
        refine r_c (pc' := 40) dX7_copy_39 rfl kc_iconst_1 ?_
        refine r_Vi1 (pc' := 43) dX7_copy_40 rfl lX7_129 (hl_ rfl) rfl rfl rfl rfl (Nat.le_of_ble_eq_true rfl) (Nat.le_of_ble_eq_true rfl) (ct_X7_failed (f := 1)) (fun r40 h40 e40 => ?_)
        obtain ⟨rfl, rfl⟩ := e40
        refine r_reti dX7_copy_43 rfl (rfl) (Nat.le_of_ble_eq_true rfl) (Nat.le_of_ble_eq_true rfl) ⟨_, rfl, ?_⟩
        have ho := shM_neg (hSh _ hj1) (hWh _ hj1) c26
        have e2 : sp_copy η (nI j1) i (nI j8) j n = (η, 1, -11) := by rw [sp_copy, if_pos ⟨ok_in hj1 (by decide), ok_in hj8 (by decide)⟩, ix_nI (by omega), ix_nI (by omega), ho]
        rw [e2]
        exact ⟨_, rfl, fun q hq => up_o (by omega), hM.upf 1, rfl⟩
      · obtain ⟨a, nk, f, ho⟩ := shM_pos (hSh _ hj1) c26
        have hs := hSh _ hj1
        rw [ho] at hs
        have hbd := hWh _ hj1 a nk f ho
        refine r_s (pc' := 30) dX7_copy_29 rfl rfl ?_
        refine r_gr (pc' := 33) dX7_copy_30 rfl fX7_61 (hl_ rfl) rfl rfl ?_
        refine r_s (pc' := 34) dX7_copy_33 rfl rfl ?_
        refine h_ald (pc' := 35) dX7_copy_34 rfl (hl_ rfl) rfl (vp_in_nI (by omega) (by decide)) (nI_clamp (by omega)) ?_
        refine r_ifge (pc' := 38) (tgt := 44) dX7_copy_35 rfl (by decide) (fun c35 => ?_) (fun c35 => ?_)
        · obtain ⟨b, no, g, ho2⟩ := shM_pos (hSh _ hj8) (Int32.not_lt.mpr c35)
          have hs2 := hSh _ hj8
          rw [ho2] at hs2
          have hbd2 := hWh _ hj8 b no g ho2
          refine r_s (pc' := 45) dX7_copy_44 rfl rfl ?_
          refine r_gr (pc' := 48) dX7_copy_45 rfl fX7_64 (hl_ rfl) rfl rfl ?_
          refine r_s (pc' := 49) dX7_copy_48 rfl rfl ?_
          refine h_ald (pc' := 50) dX7_copy_49 rfl (hl_ rfl) rfl (vp_in_nI (by omega) (by decide)) (nI_clamp (by omega)) ?_
          refine r_top (hs.2.1) ?_
          refine r_s (pc' := 51) dX7_copy_50 rfl rfl ?_
          refine r_gr (pc' := 54) dX7_copy_51 rfl fX7_64 (hl_ rfl) rfl rfl ?_
          refine r_s (pc' := 55) dX7_copy_54 rfl rfl ?_
          refine h_ald (pc' := 56) dX7_copy_55 rfl (hl_ rfl) rfl (vp_in_nI (by omega) (by decide)) (nI_clamp (by omega)) ?_
          refine r_top (hs2.2.1) ?_
          refine r_ceq (pc' := 59) (tgt := 65) dX7_copy_56 rfl (by decide) (fun c56 => ?_) (fun c56 => ?_)
          · refine r_s (pc' := 66) dX7_copy_65 rfl rfl ?_
            refine r_s (pc' := 68) dX7_copy_66 rfl rfl ?_
            refine r_s (pc' := 69) dX7_copy_68 rfl rfl ?_
            refine r_s (pc' := 70) dX7_copy_69 rfl rfl ?_
            refine r_gr (pc' := 73) dX7_copy_70 rfl fX7_61 (hl_ rfl) rfl rfl ?_
            refine r_s (pc' := 74) dX7_copy_73 rfl rfl ?_
            refine h_ald (pc' := 75) dX7_copy_74 rfl (hl_ rfl) rfl (vp_in_nI (by omega) (by decide)) (nI_clamp (by omega)) ?_
            refine r_top (hs.1) ?_
            refine r_Si3 (pc' := 78) dX7_copy_75 rfl lX7_133 rfl (Nat.le_of_ble_eq_true rfl) (Nat.le_of_ble_eq_true rfl) (ct_X7_isBeyond (by omega)) (fun r75 h75 e75 => ?_)
            rcases e75 with ⟨rfl, rfl, hn75⟩ | ⟨rfl, rfl, hn75⟩
            · refine r_ifne_f (pc' := 81) (tgt := 98) dX7_copy_78 rfl (by decide) (by decide) ?_
              refine r_s (pc' := 83) dX7_copy_81 rfl rfl ?_
              refine r_s (pc' := 85) dX7_copy_83 rfl rfl ?_
              refine r_s (pc' := 86) dX7_copy_85 rfl rfl ?_
              refine r_s (pc' := 87) dX7_copy_86 rfl rfl ?_
              refine r_gr (pc' := 90) dX7_copy_87 rfl fX7_61 (hl_ rfl) rfl rfl ?_
              refine r_s (pc' := 91) dX7_copy_90 rfl rfl ?_
              refine h_ald (pc' := 92) dX7_copy_91 rfl (hl_ rfl) rfl (vp_in_nI (by omega) (by decide)) (nI_clamp (by omega)) ?_
              refine r_top (hs2.1) ?_
              refine r_Si3 (pc' := 95) dX7_copy_92 rfl lX7_133 rfl (Nat.le_of_ble_eq_true rfl) (Nat.le_of_ble_eq_true rfl) (ct_X7_isBeyond (by omega)) (fun r92 h92 e92 => ?_)
              rcases e92 with ⟨rfl, rfl, hn92⟩ | ⟨rfl, rfl, hn92⟩
              · refine r_ifeq_t (tgt := 104) dX7_copy_95 (by decide) (by decide) ?_
                refine r_c (pc' := 105) dX7_copy_104 rfl kc_iconst_0 ?_
                refine r_st_6_7 (pc' := 107) dX7_copy_105 rfl rfl rfl ?_
                obtain ⟨i1, m1, him, rfl, rfl⟩ := rowok_of hn75 (by omega)
                obtain ⟨i2, m2, him2, rfl, hm12⟩ := rowok_of hn92 (by omega)
                have hm2 : m1 = m2 := (nI_eq (by omega) (by omega)).mp hm12
                have hab : a = b := (nI_eq (by omega) (by omega)).mp c56
                have e2 : sp_copy η (nI j1) (nI i1) (nI j8) (nI i2) (nI m1) = (hup η j8 (some (b, no, va_cpy f g i1 i2 m1)), 0, nI m1) := by
                  rw [sp_copy, if_pos ⟨ok_in hj1 (by decide), ok_in hj8 (by decide)⟩, ix_nI (by omega), ix_nI (by omega), ho, ho2]
                  show (if a = b then (if _ ∧ _ then _ else _) else _) = _
                  rw [if_pos hab, if_pos ⟨hn75, hn92⟩, ix_nI (by omega), ix_nI (by omega), ix_nI (by omega)]
                rw [e2]
                refine lp1_X7_copy (I0 := I) hj1 hj8 (by omega) (by omega) (fun I1 a1 a2 => ⟨_, rfl, _, rfl, fun q hq => by rw [up_o (by omega), a2 q (by omega) (by omega)], MI.upf (η := hup η j8 (some (b, no, va_cpy f g i1 i2 m1))) (f := ft) ?_ 0, rfl⟩) m1 0 _ (by omega) (fun z hz => absurd hz (by omega)) (fun r _ => rfl)
                refine hM.putH j8 hj8 (o := some (b, no, va_cpy f g i1 i2 m1)) ⟨by rw [a2 98 (by decide) (by decide)]; exact hs2.1, by rw [a2 99 (by decide) (by decide)]; exact hs2.2.1, fun z hz => ?_⟩ (fun r h1 h2 h3 h4 => a2 r h3 h4) (fun i hi => ⟨by rw [a2 98 (by decide) (by decide)], by rw [a2 99 (by decide) (by decide)]⟩) (fun z hz => by rw [a1 z, if_neg (by omega)]) (fun i hi a n f e => (hWh i hi a n f e).2)
                rw [a1]
                by_cases hin : i2 ≤ z ∧ z < i2 + m1
                · rw [pk_cpy_in hin.1 hin.2, if_pos (by omega), show 60 * j1 + i1 + (60 * j8 + z - (60 * j8 + i2)) = 60 * j1 + (i1 + (z - i2)) by omega]; exact hs.2.2 _ (by omega)
                · rw [pk_cpy_out (by omega), if_neg (by omega)]; exact hs2.2.2 z hz
              · refine r_ifeq_f (pc' := 98) (tgt := 104) dX7_copy_95 rfl (by decide) (by decide) ?_
                refine r_s (pc' := 99) dX7_copy_98 rfl rfl ?_
                refine r_c (pc' := 100) dX7_copy_99 rfl kc_iconst_3 ?_
                refine r_Vi1 (pc' := 103) dX7_copy_100 rfl lX7_129 (hl_ rfl) rfl rfl rfl rfl (Nat.le_of_ble_eq_true rfl) (Nat.le_of_ble_eq_true rfl) (ct_X7_failed (f := 3)) (fun r100 h100 e100 => ?_)
                obtain ⟨rfl, rfl⟩ := e100
                refine r_reti dX7_copy_103 rfl (rfl) (Nat.le_of_ble_eq_true rfl) (Nat.le_of_ble_eq_true rfl) ⟨_, rfl, ?_⟩
                have hab : a = b := (nI_eq (by omega) (by omega)).mp c56
                have e2 : sp_copy η (nI j1) i (nI j8) j n = (η, 3, -13) := by
                  rw [sp_copy, if_pos ⟨ok_in hj1 (by decide), ok_in hj8 (by decide)⟩, ix_nI (by omega), ix_nI (by omega), ho, ho2]
                  show (if a = b then (if _ ∧ _ then _ else _) else _) = _
                  rw [if_pos hab, if_neg]
                  intro ⟨u, v⟩
                  rw [hn92] at v; cases v
                rw [e2]
                exact ⟨_, rfl, fun q hq => up_o (by omega), hM.upf 3, rfl⟩
            · refine r_ifne_t (tgt := 98) dX7_copy_78 (by decide) (by decide) ?_
              refine r_s (pc' := 99) dX7_copy_98 rfl rfl ?_
              refine r_c (pc' := 100) dX7_copy_99 rfl kc_iconst_3 ?_
              refine r_Vi1 (pc' := 103) dX7_copy_100 rfl lX7_129 (hl_ rfl) rfl rfl rfl rfl (Nat.le_of_ble_eq_true rfl) (Nat.le_of_ble_eq_true rfl) (ct_X7_failed (f := 3)) (fun r100 h100 e100 => ?_)
              obtain ⟨rfl, rfl⟩ := e100
              refine r_reti dX7_copy_103 rfl (rfl) (Nat.le_of_ble_eq_true rfl) (Nat.le_of_ble_eq_true rfl) ⟨_, rfl, ?_⟩
              have hab : a = b := (nI_eq (by omega) (by omega)).mp c56
              have e2 : sp_copy η (nI j1) i (nI j8) j n = (η, 3, -13) := by
                rw [sp_copy, if_pos ⟨ok_in hj1 (by decide), ok_in hj8 (by decide)⟩, ix_nI (by omega), ix_nI (by omega), ho, ho2]
                show (if a = b then (if _ ∧ _ then _ else _) else _) = _
                rw [if_pos hab, if_neg]
                intro ⟨u, v⟩
                rw [hn75] at u; cases u
              rw [e2]
              exact ⟨_, rfl, fun q hq => up_o (by omega), hM.upf 3, rfl⟩
          · refine r_s (pc' := 60) dX7_copy_59 rfl rfl ?_
            refine r_c (pc' := 61) dX7_copy_60 rfl kc_iconst_2 ?_
            refine r_Vi1 (pc' := 64) dX7_copy_61 rfl lX7_129 (hl_ rfl) rfl rfl rfl rfl (Nat.le_of_ble_eq_true rfl) (Nat.le_of_ble_eq_true rfl) (ct_X7_failed (f := 2)) (fun r61 h61 e61 => ?_)
            obtain ⟨rfl, rfl⟩ := e61
            refine r_reti dX7_copy_64 rfl (rfl) (Nat.le_of_ble_eq_true rfl) (Nat.le_of_ble_eq_true rfl) ⟨_, rfl, ?_⟩
            have e2 : sp_copy η (nI j1) i (nI j8) j n = (η, 2, -12) := by rw [sp_copy, if_pos ⟨ok_in hj1 (by decide), ok_in hj8 (by decide)⟩, ix_nI (by omega), ix_nI (by omega), ho, ho2]; show (if a = b then _ else _) = _; rw [if_neg (fun e => c56 (by rw [e]))]
            rw [e2]
            exact ⟨_, rfl, fun q hq => up_o (by omega), hM.upf 2, rfl⟩
        · refine r_s (pc' := 39) dX7_copy_38 rfl rfl ?_
          refine r_c (pc' := 40) dX7_copy_39 rfl kc_iconst_1 ?_
          refine r_Vi1 (pc' := 43) dX7_copy_40 rfl lX7_129 (hl_ rfl) rfl rfl rfl rfl (Nat.le_of_ble_eq_true rfl) (Nat.le_of_ble_eq_true rfl) (ct_X7_failed (f := 1)) (fun r40 h40 e40 => ?_)
          obtain ⟨rfl, rfl⟩ := e40
          refine r_reti dX7_copy_43 rfl (rfl) (Nat.le_of_ble_eq_true rfl) (Nat.le_of_ble_eq_true rfl) ⟨_, rfl, ?_⟩
          have ho2 := shM_neg (hSh _ hj8) (hWh _ hj8) (x_nle c35)
          have e2 : sp_copy η (nI j1) i (nI j8) j n = (η, 1, -11) := by rw [sp_copy, if_pos ⟨ok_in hj1 (by decide), ok_in hj8 (by decide)⟩, ix_nI (by omega), ix_nI (by omega), ho, ho2]
          rw [e2]
          exact ⟨_, rfl, fun q hq => up_o (by omega), hM.upf 1, rfl⟩
    · refine r_ifeq_f (pc' := 14) (tgt := 20) dX7_copy_11 rfl (by decide) (by decide) ?_
      refine r_s (pc' := 15) dX7_copy_14 rfl rfl ?_
      refine r_c (pc' := 16) dX7_copy_15 rfl kc_iconst_m1 ?_
      refine r_Vi1 (pc' := 19) dX7_copy_16 rfl lX7_141 (hl_ rfl) rfl rfl rfl rfl (Nat.le_of_ble_eq_true rfl) (Nat.le_of_ble_eq_true rfl) (ct_X7_refused (v := -1)) (fun r16 h16 e16 => ?_)
      obtain ⟨rfl, rfl⟩ := e16
      refine r_reti dX7_copy_19 rfl (rfl) (Nat.le_of_ble_eq_true rfl) (Nat.le_of_ble_eq_true rfl) ⟨_, rfl, ?_⟩
      have e2 : sp_copy η (nI j1) i oo j n = (η, 0, -1) := by
        rw [sp_copy, if_neg]
        intro ⟨a, b⟩
        rw [ok_no (by decide) hn8] at b; cases b
      rw [e2]
      exact ⟨_, rfl, fun q hq => up_o (by omega), hM.upf 0, rfl⟩
  · refine r_ifne_t (tgt := 14) dX7_copy_4 (by decide) (by decide) ?_
    refine r_s (pc' := 15) dX7_copy_14 rfl rfl ?_
    refine r_c (pc' := 16) dX7_copy_15 rfl kc_iconst_m1 ?_
    refine r_Vi1 (pc' := 19) dX7_copy_16 rfl lX7_141 (hl_ rfl) rfl rfl rfl rfl (Nat.le_of_ble_eq_true rfl) (Nat.le_of_ble_eq_true rfl) (ct_X7_refused (v := -1)) (fun r16 h16 e16 => ?_)
    obtain ⟨rfl, rfl⟩ := e16
    refine r_reti dX7_copy_19 rfl (rfl) (Nat.le_of_ble_eq_true rfl) (Nat.le_of_ble_eq_true rfl) ⟨_, rfl, ?_⟩
    have e2 : sp_copy η k i oo j n = (η, 0, -1) := by
      rw [sp_copy, if_neg]
      intro ⟨a, b⟩
      rw [ok_no (by decide) hn1] at a; cases a
    rw [e2]
    exact ⟨_, rfl, fun q hq => up_o (by omega), hM.upf 0, rfl⟩
