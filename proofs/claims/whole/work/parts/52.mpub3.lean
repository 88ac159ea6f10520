theorem ct_X7_noInn_n {d : Nat} {x : hX} {I : Nat → Nat → Int32} {a n : Nat} (hn : I 80 1 = nI n) (hb : n < 2 ^ 31) (ha : a < 2 ^ 31) : ci (d + 2) MX7_noInn [.ref 80, .int (nI a)] (hp x I) (fun r h' => (h' = hp x I ∧ r = 0 ∧ a < n) ∨ (h' = hp x I ∧ r = 1 ∧ ¬ a < n)) := ci_mono (ct_X7_noInn hn hb) (fun r h' q => by
  rcases q with ⟨h1, h2, j, hj, e⟩ | ⟨h1, h2, h3⟩
  · exact Or.inl ⟨h1, h2, by rw [(nI_eq ha (by omega)).mp e]; exact hj⟩
  · exact Or.inr ⟨h1, h2, fun h => h3 a h rfl⟩)
theorem ct_X7_noInn_m {d : Nat} {x : hX} {I : Nat → Nat → Int32} {n : Nat} (hn : I 80 1 = nI n) (hb : n < 2 ^ 31) : ci (d + 2) MX7_noInn [.ref 80, .int (-1)] (hp x I) (fun r h' => h' = hp x I ∧ r = 1) := ci_mono (ct_X7_noInn hn hb) (fun r h' q => by
  rcases q with ⟨h1, h2, j, hj, e⟩ | ⟨h1, h2, h3⟩
  · exact absurd (show (-1 : Int32) < 0 by decide) (by rw [e]; exact nI_pos (by omega))
  · exact ⟨h1, h2⟩)
theorem lst_at {ρ : zR} {n y : Nat} {w : Int32} (hy : y < 18 * zi ρ) (h : lsP ρ n y = true) (hb : ∀ j, j < y → lsP ρ n j = false) : lst ρ n w = lsR (zi ρ) w y := by
  unfold lst; rw [first_at hy h hb, if_pos hy]
theorem lst_no {ρ : zR} {n : Nat} {w : Int32} (hb : ∀ j, j < 18 * zi ρ → lsP ρ n j = false) : lst ρ n w = -9 := by
  unfold lst; rw [if_neg (first_none hb)]
theorem lsV_le {z y : Nat} (h : y < 18 * z) : lsV z y ≤ 9 := by
  unfold lsV
  have : y / (2 * z) < 9 := Nat.div_lt_of_lt_mul (by omega)
  omega
theorem lsK_lt {z y : Nat} (hz : 0 < z) : lsK z y < z := by
  unfold lsK
  have := Nat.mod_lt y (show 2 * z > 0 by omega)
  omega

set_option maxHeartbeats 4000000 in
set_option maxRecDepth 100000 in
theorem lp_X7_least {d : Nat} {Q : sm_Q} {x : hX} {ρ : zR} {I0 : Nat → Nat → Int32} {n : Nat} {wh : Int32} (hR : isMd I0 ρ) (hw : wfR ρ) (hz : 0 < zi ρ) (hn : n ≤ zn ρ) (hck : I0 80 11 = rmI 6) (hQ : ∀ I, frM I0 I → Q (some (.int (lst ρ n wh))) (hp x I)) : ∀ (m i : Nat) (v4 v5 v6 : Value) (I : Nat → Nat → Int32), i + m = 18 * zi ρ → (∀ j, j < i → lsP ρ n j = false) → frM I0 I → sm_wp (sm_c (d + 5)) 0 0 MX7_least Q 60 [.ref 80, .int (nI n), .int wh, .int (nI i), v4, v5, v6] [] (hp x I) 0 0 := by
  have b6 : zi ρ ≤ 6 := hw.1
  have b8 : zn ρ ≤ 8 := hw.2.1
  have bg : zg ρ ≤ 8 := hw.2.2.1
  have bl : zl ρ ≤ 1 := hw.2.2.2.1
  intro m
  induction m with
  | zero =>
    intro i v4 v5 v6 I hi h1 h2
    have hi : i = 18 * zi ρ := by omega
    refine r_s (pc' := 61) dX7_least_60 rfl rfl ?_
    refine r_c (pc' := 63) dX7_least_61 rfl kc_bipush_18 ?_
    refine r_s (pc' := 64) dX7_least_63 rfl rfl ?_
    refine h_gi (pc' := 67) dX7_least_64 rfl fX7_86 (hl_ rfl) rfl ?_
    refine r_top ((hR.fr h2).1) ?_
    refine r_s (pc' := 68) dX7_least_67 rfl rfl ?_
    refine r_top ((pk_mul 18 (zi ρ) : nI 18 * nI (zi ρ) = nI (18 * zi ρ))) ?_
    refine r_cge_t (tgt := 165) dX7_least_68 (by decide) (by rw [hi]; exact Int32.le_refl _) ?_
    refine r_c (pc' := 167) dX7_least_165 rfl kc_bipush_m9 ?_
    refine r_reti dX7_least_167 rfl (rfl) (Nat.le_of_ble_eq_true rfl) (Nat.le_of_ble_eq_true rfl) ?_
    rw [hi] at h1; rw [← lst_no (w := wh) h1]; exact hQ I h2
  | succ m ih =>
    intro i v4 v5 v6 I hi h1 h2
    have hk6 := lsK_lt (y := i) hz
    refine r_s (pc' := 61) dX7_least_60 rfl rfl ?_
    refine r_c (pc' := 63) dX7_least_61 rfl kc_bipush_18 ?_
    refine r_s (pc' := 64) dX7_least_63 rfl rfl ?_
    refine h_gi (pc' := 67) dX7_least_64 rfl fX7_86 (hl_ rfl) rfl ?_
    refine r_top ((hR.fr h2).1) ?_
    refine r_s (pc' := 68) dX7_least_67 rfl rfl ?_
    refine r_top ((pk_mul 18 (zi ρ) : nI 18 * nI (zi ρ) = nI (18 * zi ρ))) ?_
    refine r_cge_f (pc' := 71) (tgt := 165) dX7_least_68 rfl (by decide) (nI_ge (by omega) (by omega)) ?_
    refine r_c (pc' := 72) dX7_least_71 rfl kc_iconst_1 ?_
    refine r_s (pc' := 73) dX7_least_72 rfl rfl ?_
    refine r_c (pc' := 74) dX7_least_73 rfl kc_iconst_2 ?_
    refine r_s (pc' := 75) dX7_least_74 rfl rfl ?_
    refine h_gi (pc' := 78) dX7_least_75 rfl fX7_86 (hl_ rfl) rfl ?_
    refine r_top ((hR.fr h2).1) ?_
    refine r_s (pc' := 79) dX7_least_78 rfl rfl ?_
    refine r_top ((pk_mul 2 (zi ρ) : nI 2 * nI (zi ρ) = nI (2 * zi ρ))) ?_
    refine r_div (pc' := 80) dX7_least_79 rfl (nI_ne0 (by omega) (by omega)) ?_
    refine r_top (show _ = nI (i / (2 * zi ρ)) from pk_div (by omega) (by omega) (by omega)) ?_
    refine r_s (pc' := 81) dX7_least_80 rfl rfl ?_
    refine r_top (show _ = nI (lsV (zi ρ) i) from nI_add 1 _) ?_
    refine r_st_4_7 (pc' := 83) dX7_least_81 rfl rfl rfl ?_
    refine r_s (pc' := 84) dX7_least_83 rfl rfl ?_
    refine r_c (pc' := 85) dX7_least_84 rfl kc_iconst_2 ?_
    refine r_s (pc' := 86) dX7_least_85 rfl rfl ?_
    refine h_gi (pc' := 89) dX7_least_86 rfl fX7_86 (hl_ rfl) rfl ?_
    refine r_top ((hR.fr h2).1) ?_
    refine r_s (pc' := 90) dX7_least_89 rfl rfl ?_
    refine r_top ((pk_mul 2 (zi ρ) : nI 2 * nI (zi ρ) = nI (2 * zi ρ))) ?_
    refine r_rem (pc' := 91) dX7_least_90 rfl (nI_ne0 (by omega) (by omega)) ?_
    refine r_top (show _ = nI (i % (2 * zi ρ)) from pk_rem (by omega) (by omega) (by omega)) ?_
    refine r_c (pc' := 92) dX7_least_91 rfl kc_iconst_2 ?_
    refine r_div (pc' := 93) dX7_least_92 rfl (by decide) ?_
    refine r_top (show _ = nI (lsK (zi ρ) i) from (pk_div (d := 2) (by have := Nat.mod_lt i (show 2 * zi ρ > 0 by omega); omega) (by decide) (by decide))) ?_
    refine r_st_5_7 (pc' := 95) dX7_least_93 rfl rfl rfl ?_
    refine r_s (pc' := 96) dX7_least_95 rfl rfl ?_
    refine r_c (pc' := 97) dX7_least_96 rfl kc_iconst_2 ?_
    refine r_rem (pc' := 98) dX7_least_97 rfl (by decide) ?_
    refine r_top (show _ = nI (i % 2) from pk_rem (d := 2) (by omega) (by decide) (by decide)) ?_
    refine r_ifne (pc' := 101) (tgt := 108) dX7_least_98 rfl (by decide) (fun c98 => ?_) (fun c98 => ?_)
    · have hev : ¬ i % 2 = 0 := z1 c98
      refine r_s (pc' := 110) dX7_least_108 rfl rfl ?_
      refine r_c (pc' := 111) dX7_least_110 rfl kc_iconst_1 ?_
      refine r_s (pc' := 112) dX7_least_111 rfl rfl ?_
      refine r_top (nI_1 _) ?_
      refine r_st_6_7 (pc' := 114) dX7_least_112 rfl rfl rfl ?_
      refine r_s (pc' := 115) dX7_least_114 rfl rfl ?_
      refine r_s (pc' := 117) dX7_least_115 rfl rfl ?_
      refine r_Vi1 (pc' := 120) dX7_least_117 rfl lX7_159 (hl_ rfl) rfl rfl rfl rfl (Nat.le_of_ble_eq_true rfl) (Nat.le_of_ble_eq_true rfl) (ct_X7_noInn_n (hR.fr h2).1 hw.bi (by omega)) (fun r117 h117 e117 => ?_)
      rcases e117 with ⟨rfl, rfl, hk1⟩ | ⟨rfl, rfl, hk1⟩
      · refine r_ifne_f (pc' := 123) (tgt := 159) dX7_least_120 rfl (by decide) (by decide) ?_
        refine r_s (pc' := 124) dX7_least_123 rfl rfl ?_
        refine r_s (pc' := 126) dX7_least_124 rfl rfl ?_
        refine r_s (pc' := 128) dX7_least_126 rfl rfl ?_
        refine r_s (pc' := 130) dX7_least_128 rfl rfl ?_
        refine r_s (pc' := 131) dX7_least_130 rfl rfl ?_
        refine r_Vi4 (pc' := 134) dX7_least_131 rfl lX7_211 (hl_ rfl) rfl rfl rfl rfl (Nat.le_of_ble_eq_true rfl) (Nat.le_of_ble_eq_true rfl) (ct_X7_isBy (rm := 6) (k := lsK (zi ρ) i) (to := lsK (zi ρ) i + 1) (v := lsV (zi ρ) i) (hR.fr h2) hw hz hn (by rw [h2.2 11 (by decide)]; exact hck) hk6 hk1 (by omega) (lsV_le (by omega))) (fun r131 h131 e131 => ?_)
        rcases e131 with ⟨I1, rfl, a2, rfl, hb⟩ | ⟨I1, rfl, a2, rfl, hb⟩
        · refine r_ifeq_f (pc' := 137) (tgt := 159) dX7_least_134 rfl (by decide) (by decide) ?_
          refine r_s (pc' := 138) dX7_least_137 rfl rfl ?_
          refine r_ifne (pc' := 141) (tgt := 146) dX7_least_138 rfl (by decide) (fun c138 => ?_) (fun c138 => ?_)
          · refine r_s (pc' := 147) dX7_least_146 rfl rfl ?_
            refine r_c (pc' := 148) dX7_least_147 rfl kc_iconst_1 ?_
            refine r_cne (pc' := 151) (tgt := 156) dX7_least_148 rfl (by decide) (fun c148 => ?_) (fun c148 => ?_)
            · refine r_s (pc' := 158) dX7_least_156 rfl rfl ?_
              refine r_reti dX7_least_158 rfl (rfl) (Nat.le_of_ble_eq_true rfl) (Nat.le_of_ble_eq_true rfl) ?_
              have eL := lst_at (w := wh) (by omega) (by unfold lsP lsT; rw [if_neg hev, if_neg hev]; rw [decide_eq_true hk1, hb]; rfl) h1
              rw [lsR, if_neg c138, if_neg c148, lsT, if_neg hev] at eL
              have hq := hQ I1 (h2.tr a2)
              rw [eL] at hq
              exact hq
            · refine r_s (pc' := 153) dX7_least_151 rfl rfl ?_
              refine r_goto (tgt := 158) dX7_least_153 (by decide) ?_
              refine r_reti dX7_least_158 rfl (rfl) (Nat.le_of_ble_eq_true rfl) (Nat.le_of_ble_eq_true rfl) ?_
              have eL := lst_at (w := wh) (by omega) (by unfold lsP lsT; rw [if_neg hev, if_neg hev]; rw [decide_eq_true hk1, hb]; rfl) h1
              rw [lsR, if_neg c138, if_pos c148] at eL
              have hq := hQ I1 (h2.tr a2)
              rw [eL] at hq
              exact hq
          · refine r_s (pc' := 143) dX7_least_141 rfl rfl ?_
            refine r_goto (tgt := 158) dX7_least_143 (by decide) ?_
            refine r_reti dX7_least_158 rfl (rfl) (Nat.le_of_ble_eq_true rfl) (Nat.le_of_ble_eq_true rfl) ?_
            have eL := lst_at (w := wh) (by omega) (by unfold lsP lsT; rw [if_neg hev, if_neg hev]; rw [decide_eq_true hk1, hb]; rfl) h1
            rw [lsR, if_pos c138] at eL
            have hq := hQ I1 (h2.tr a2)
            rw [eL] at hq
            exact hq
        · refine r_ifeq_t (tgt := 159) dX7_least_134 (by decide) (by decide) ?_
          refine r_in_3_7 (pc' := 162) dX7_least_159 rfl rfl (i1 _) ?_
          refine r_goto (tgt := 60) dX7_least_162 (by decide) ?_
          refine ih (i + 1) _ _ _ I1 (by omega) (fun j hj => ?_) (h2.tr a2)
          by_cases e : j = i
          · subst e; unfold lsP lsT; rw [if_neg hev, if_neg hev, hb, Bool.and_false]
          · exact h1 j (by omega)
      · refine r_ifne_t (tgt := 159) dX7_least_120 (by decide) (by decide) ?_
        refine r_in_3_7 (pc' := 162) dX7_least_159 rfl rfl (i1 _) ?_
        refine r_goto (tgt := 60) dX7_least_162 (by decide) ?_
        refine ih (i + 1) _ _ _ I (by omega) (fun j hj => ?_) h2
        by_cases e : j = i
        · subst e; unfold lsP; rw [if_neg hev, decide_eq_false hk1, Bool.false_and]
        · exact h1 j (by omega)
    · have hev : i % 2 = 0 := z0 c98 (by omega)
      by_cases hk0 : 0 < lsK (zi ρ) i
      · refine r_s (pc' := 103) dX7_least_101 rfl rfl ?_
        refine r_c (pc' := 104) dX7_least_103 rfl kc_iconst_1 ?_
        refine r_s (pc' := 105) dX7_least_104 rfl rfl ?_
        refine r_top ((pk_sub (by omega) : nI (lsK (zi ρ) i) - nI 1 = nI (lsK (zi ρ) i - 1))) ?_
        refine r_goto (tgt := 112) dX7_least_105 (by decide) ?_
        refine r_st_6_7 (pc' := 114) dX7_least_112 rfl rfl rfl ?_
        refine r_s (pc' := 115) dX7_least_114 rfl rfl ?_
        refine r_s (pc' := 117) dX7_least_115 rfl rfl ?_
        refine r_Vi1 (pc' := 120) dX7_least_117 rfl lX7_159 (hl_ rfl) rfl rfl rfl rfl (Nat.le_of_ble_eq_true rfl) (Nat.le_of_ble_eq_true rfl) (ct_X7_noInn_n (hR.fr h2).1 hw.bi (by omega)) (fun r117 h117 e117 => ?_)
        rcases e117 with ⟨rfl, rfl, hti⟩ | ⟨rfl, rfl, hti⟩
        · refine r_ifne_f (pc' := 123) (tgt := 159) dX7_least_120 rfl (by decide) (by decide) ?_
          refine r_s (pc' := 124) dX7_least_123 rfl rfl ?_
          refine r_s (pc' := 126) dX7_least_124 rfl rfl ?_
          refine r_s (pc' := 128) dX7_least_126 rfl rfl ?_
          refine r_s (pc' := 130) dX7_least_128 rfl rfl ?_
          refine r_s (pc' := 131) dX7_least_130 rfl rfl ?_
          refine r_Vi4 (pc' := 134) dX7_least_131 rfl lX7_211 (hl_ rfl) rfl rfl rfl rfl (Nat.le_of_ble_eq_true rfl) (Nat.le_of_ble_eq_true rfl) (ct_X7_isBy (rm := 6) (k := lsK (zi ρ) i) (to := lsK (zi ρ) i - 1) (v := lsV (zi ρ) i) (hR.fr h2) hw hz hn (by rw [h2.2 11 (by decide)]; exact hck) hk6 hti (by omega) (lsV_le (by omega))) (fun r131 h131 e131 => ?_)
          rcases e131 with ⟨I1, rfl, a2, rfl, hb⟩ | ⟨I1, rfl, a2, rfl, hb⟩
          · refine r_ifeq_f (pc' := 137) (tgt := 159) dX7_least_134 rfl (by decide) (by decide) ?_
            refine r_s (pc' := 138) dX7_least_137 rfl rfl ?_
            refine r_ifne (pc' := 141) (tgt := 146) dX7_least_138 rfl (by decide) (fun c138 => ?_) (fun c138 => ?_)
            · refine r_s (pc' := 147) dX7_least_146 rfl rfl ?_
              refine r_c (pc' := 148) dX7_least_147 rfl kc_iconst_1 ?_
              refine r_cne (pc' := 151) (tgt := 156) dX7_least_148 rfl (by decide) (fun c148 => ?_) (fun c148 => ?_)
              · refine r_s (pc' := 158) dX7_least_156 rfl rfl ?_
                refine r_reti dX7_least_158 rfl (rfl) (Nat.le_of_ble_eq_true rfl) (Nat.le_of_ble_eq_true rfl) ?_
                have eL := lst_at (w := wh) (by omega) (by unfold lsP lsT; rw [if_pos hev, if_pos hev]; rw [decide_eq_true hk0, hb]; rfl) h1
                rw [lsR, if_neg c138, if_neg c148, lsT, if_pos hev] at eL
                have hq := hQ I1 (h2.tr a2)
                rw [eL] at hq
                exact hq
              · refine r_s (pc' := 153) dX7_least_151 rfl rfl ?_
                refine r_goto (tgt := 158) dX7_least_153 (by decide) ?_
                refine r_reti dX7_least_158 rfl (rfl) (Nat.le_of_ble_eq_true rfl) (Nat.le_of_ble_eq_true rfl) ?_
                have eL := lst_at (w := wh) (by omega) (by unfold lsP lsT; rw [if_pos hev, if_pos hev]; rw [decide_eq_true hk0, hb]; rfl) h1
                rw [lsR, if_neg c138, if_pos c148] at eL
                have hq := hQ I1 (h2.tr a2)
                rw [eL] at hq
                exact hq
            · refine r_s (pc' := 143) dX7_least_141 rfl rfl ?_
              refine r_goto (tgt := 158) dX7_least_143 (by decide) ?_
              refine r_reti dX7_least_158 rfl (rfl) (Nat.le_of_ble_eq_true rfl) (Nat.le_of_ble_eq_true rfl) ?_
              have eL := lst_at (w := wh) (by omega) (by unfold lsP lsT; rw [if_pos hev, if_pos hev]; rw [decide_eq_true hk0, hb]; rfl) h1
              rw [lsR, if_pos c138] at eL
              have hq := hQ I1 (h2.tr a2)
              rw [eL] at hq
              exact hq
          · refine r_ifeq_t (tgt := 159) dX7_least_134 (by decide) (by decide) ?_
            refine r_in_3_7 (pc' := 162) dX7_least_159 rfl rfl (i1 _) ?_
            refine r_goto (tgt := 60) dX7_least_162 (by decide) ?_
            refine ih (i + 1) _ _ _ I1 (by omega) (fun j hj => ?_) (h2.tr a2)
            by_cases e : j = i
            · subst e; unfold lsP lsT; rw [if_pos hev, if_pos hev, hb, Bool.and_false]
            · exact h1 j (by omega)
        · refine r_ifne_t (tgt := 159) dX7_least_120 (by decide) (by decide) ?_
          refine r_in_3_7 (pc' := 162) dX7_least_159 rfl rfl (i1 _) ?_
          refine r_goto (tgt := 60) dX7_least_162 (by decide) ?_
          exact absurd (show lsK (zi ρ) i - 1 < zi ρ by omega) hti
      · refine r_s (pc' := 103) dX7_least_101 rfl rfl ?_
        refine r_c (pc' := 104) dX7_least_103 rfl kc_iconst_1 ?_
        refine r_s (pc' := 105) dX7_least_104 rfl rfl ?_
        refine r_top ((show _ = (-1 : Int32) by rw [show lsK (zi ρ) i = 0 by omega]; rfl)) ?_
        refine r_goto (tgt := 112) dX7_least_105 (by decide) ?_
        refine r_st_6_7 (pc' := 114) dX7_least_112 rfl rfl rfl ?_
        refine r_s (pc' := 115) dX7_least_114 rfl rfl ?_
        refine r_s (pc' := 117) dX7_least_115 rfl rfl ?_
        refine r_Vi1 (pc' := 120) dX7_least_117 rfl lX7_159 (hl_ rfl) rfl rfl rfl rfl (Nat.le_of_ble_eq_true rfl) (Nat.le_of_ble_eq_true rfl) (ct_X7_noInn_m (hR.fr h2).1 hw.bi) (fun r117 h117 e117 => ?_)
        obtain ⟨rfl, rfl⟩ := e117
        refine r_ifne_t (tgt := 159) dX7_least_120 (by decide) (by decide) ?_
        refine r_in_3_7 (pc' := 162) dX7_least_159 rfl rfl (i1 _) ?_
        refine r_goto (tgt := 60) dX7_least_162 (by decide) ?_
        refine ih (i + 1) _ _ _ I (by omega) (fun j hj => ?_) h2
        by_cases e : j = i
        · subst e; unfold lsP; rw [if_pos hev, decide_eq_false hk0, Bool.false_and]
        · exact h1 j (by omega)

set_option maxHeartbeats 4000000 in
set_option maxRecDepth 100000 in
theorem pm_least {d : Nat} {x : hX} {I : Nat → Nat → Int32} {ρ : zR} {δ : zD} {η : zH} {ft tr : Int32} {n wh : Int32} (hM : MI I (ρ, δ, η, ft, tr)) (hW : WF (ρ, δ, η, ft, tr)) : ci (d + 6) MX7_least [.ref 80, .int n, .int wh] (hp x I) (fun r h' => ∃ I', h' = hp x I' ∧ (∀ q, q < 80 → I' q = I q) ∧ MI I' (ρ, δ, η, ft, tr) ∧ r = sp_least ρ n wh) := by
  have hR : isMd I ρ := hM.R
  have hw : wfR ρ := hW.1
  have b6 : zi ρ ≤ 6 := hw.1
  have b8 : zn ρ ≤ 8 := hw.2.1
  have bg : zg ρ ≤ 8 := hw.2.2.1
  have d8 : δ.1 ≤ 8 := hW.2.1.1
  refine c_in (L := [.ref 80, .int n, .int wh, .null, .null, .null, .null]) rfl rfl ?_
  refine r_s (pc' := 1) dX7_least_0 rfl rfl ?_
  refine r_s (pc' := 2) dX7_least_1 rfl rfl ?_
  refine r_c (pc' := 3) dX7_least_2 rfl kc_lconst_0 ?_
  refine r_s (pc' := 4) dX7_least_3 rfl rfl ?_
  refine h_gi (pc' := 7) dX7_least_4 rfl fX7_96 (hl_ rfl) rfl ?_
  refine r_top (hR.2.1) ?_
  refine r_s (pc' := 8) dX7_least_7 rfl rfl ?_
  refine r_topl (nI_l (by omega)) ?_
  refine r_Si3 (pc' := 11) dX7_least_8 rfl lX7_89 rfl (Nat.le_of_ble_eq_true rfl) (Nat.le_of_ble_eq_true rfl) (ct_in_m (hw.bn1)) (fun r8 h8 e8 => ?_)
  rcases e8 with ⟨rfl, rfl, j8, hj8, rfl⟩ | ⟨rfl, rfl, hn8⟩
  · refine r_ifeq_f (pc' := 14) (tgt := 26) dX7_least_11 rfl (by decide) (by decide) ?_
    refine r_s (pc' := 15) dX7_least_14 rfl rfl ?_
    refine r_s (pc' := 16) dX7_least_15 rfl rfl ?_
    refine r_c (pc' := 17) dX7_least_16 rfl kc_lconst_0 ?_
    refine r_ldc2 (pc' := 20) dX7_least_17 rfl kX7_144 ?_
    refine r_topl (show (2 : Int64) = lN 2 from rfl) ?_
    refine r_Si3 (pc' := 23) dX7_least_20 rfl lX7_89 rfl (Nat.le_of_ble_eq_true rfl) (Nat.le_of_ble_eq_true rfl) (ct_in_m (n := 2) (by decide)) (fun r20 h20 e20 => ?_)
    rcases e20 with ⟨rfl, rfl, j20, hj20, rfl⟩ | ⟨rfl, rfl, hn20⟩
    · refine r_ifne_t (tgt := 29) dX7_least_23 (by decide) (by decide) ?_
      refine r_s (pc' := 30) dX7_least_29 rfl rfl ?_
      refine h_gi (pc' := 33) dX7_least_30 rfl fX7_86 (hl_ rfl) rfl ?_
      refine r_top (hR.1) ?_
      refine r_ifne (pc' := 36) (tgt := 39) dX7_least_33 rfl (by decide) (fun c33 => ?_) (fun c33 => ?_)
      · have hz : 0 < zi ρ := Nat.pos_of_ne_zero (z1 c33)
        refine r_s (pc' := 40) dX7_least_39 rfl rfl ?_
        refine r_s (pc' := 41) dX7_least_40 rfl rfl ?_
        refine r_Vi1 (pc' := 44) dX7_least_41 rfl lX7_208 (hl_ rfl) rfl rfl rfl rfl (Nat.le_of_ble_eq_true rfl) (Nat.le_of_ble_eq_true rfl) (ct_X7_isNobodyOut (rm := 6) hR hw hz (by omega) hM.ck) (fun r41 h41 e41 => ?_)
        rcases e41 with ⟨I1, rfl, a2, rfl, hb⟩ | ⟨I1, rfl, a2, rfl, hb⟩
        · refine r_ifeq_f (pc' := 47) (tgt := 58) dX7_least_44 rfl (by decide) (by decide) ?_
          refine r_s (pc' := 48) dX7_least_47 rfl rfl ?_
          refine r_ifne (pc' := 51) (tgt := 55) dX7_least_48 rfl (by decide) (fun c48 => ?_) (fun c48 => ?_)
          · refine r_c (pc' := 57) dX7_least_55 rfl kc_bipush_m9 ?_
            refine r_reti dX7_least_57 rfl (rfl) (Nat.le_of_ble_eq_true rfl) (Nat.le_of_ble_eq_true rfl) ⟨_, rfl, ?_⟩
            exact ⟨I1, rfl, a2.c, hM.fr a2, by rw [sp_least, if_pos (show ok (nI j8) (zn ρ + 1) = true ∧ ok (nI j20) 3 = true from ⟨ok_in hj8 hw.bn1, ok_in hj20 (by decide)⟩), if_neg (z1 c33), ix_nI (by omega), if_pos hb, if_neg c48]⟩
          · refine r_c (pc' := 52) dX7_least_51 rfl kc_iconst_0 ?_
            refine r_goto (tgt := 57) dX7_least_52 (by decide) ?_
            refine r_reti dX7_least_57 rfl (rfl) (Nat.le_of_ble_eq_true rfl) (Nat.le_of_ble_eq_true rfl) ⟨_, rfl, ?_⟩
            exact ⟨I1, rfl, a2.c, hM.fr a2, by rw [sp_least, if_pos (show ok (nI j8) (zn ρ + 1) = true ∧ ok (nI j20) 3 = true from ⟨ok_in hj8 hw.bn1, ok_in hj20 (by decide)⟩), if_neg (z1 c33), ix_nI (by omega), if_pos hb, if_pos c48]⟩
        · refine r_ifeq_t (tgt := 58) dX7_least_44 (by decide) (by decide) ?_
          refine r_c (pc' := 59) dX7_least_58 rfl kc_iconst_0 ?_
          refine r_st_3_7 (pc' := 60) dX7_least_59 rfl rfl rfl ?_
          exact lp_X7_least (I0 := I) hR hw hz (by omega) hM.ck (fun I2 g2 => ⟨_, rfl, I2, rfl, g2.c, hM.fr g2, by rw [sp_least, if_pos (show ok (nI j8) (zn ρ + 1) = true ∧ ok (nI j20) 3 = true from ⟨ok_in hj8 hw.bn1, ok_in hj20 (by decide)⟩), if_neg (z1 c33), ix_nI (j := j8) (by omega), if_neg (fun e => by rw [hb] at e; cases e)]⟩) (18 * zi ρ) 0 _ _ _ I1 (by omega) (fun j hj => absurd hj (by omega)) a2
      · refine r_c (pc' := 38) dX7_least_36 rfl kc_bipush_m3 ?_
        refine r_reti dX7_least_38 rfl (rfl) (Nat.le_of_ble_eq_true rfl) (Nat.le_of_ble_eq_true rfl) ⟨_, rfl, ?_⟩
        exact ⟨I, rfl, fun _ _ => rfl, hM, by rw [sp_least, if_pos (show ok (nI j8) (zn ρ + 1) = true ∧ ok (nI j20) 3 = true from ⟨ok_in hj8 hw.bn1, ok_in hj20 (by decide)⟩), if_pos (z0 c33 hw.bi)]⟩
    · refine r_ifne_f (pc' := 26) (tgt := 29) dX7_least_23 rfl (by decide) (by decide) ?_
      refine r_c (pc' := 28) dX7_least_26 rfl kc_bipush_m2 ?_
      refine r_reti dX7_least_28 rfl (rfl) (Nat.le_of_ble_eq_true rfl) (Nat.le_of_ble_eq_true rfl) ⟨_, rfl, ?_⟩
      exact ⟨I, rfl, fun _ _ => rfl, hM, by rw [sp_least, ok_no (by decide) hn20, if_neg (fun q => by cases q.2)]⟩
  · refine r_ifeq_t (tgt := 26) dX7_least_11 (by decide) (by decide) ?_
    refine r_c (pc' := 28) dX7_least_26 rfl kc_bipush_m2 ?_
    refine r_reti dX7_least_28 rfl (rfl) (Nat.le_of_ble_eq_true rfl) (Nat.le_of_ble_eq_true rfl) ⟨_, rfl, ?_⟩
    exact ⟨I, rfl, fun _ _ => rfl, hM, by rw [sp_least, ok_no hw.bn1 hn8, if_neg (fun q => by cases q.1)]⟩

set_option maxHeartbeats 4000000 in
set_option maxRecDepth 100000 in
theorem lp_X7_list {d : Nat} {Q : sm_Q} {x : hX} {I : Nat → Nat → Int32} {k f1 m1 G : Nat} {A : Nat → Nat} {f : Nat → Int32} {nn ln v6 : Int32} (hk : k < 4) (him : f1 + m1 ≤ 60) (hm : m1 ≤ G) (hG : G ≤ 8) (hA : ∀ g, g < G → I 93 g = nI (A g)) (hf : ∀ j, j < f1 + m1 → I 100 (60 * k + j) = f j) (hQ : Q (some (.int (fmI (fun g => decide (¬ f (f1 + g) = nI (A g))) m1))) (hp x (sm_up I 80 0 0))) : ∀ (m i : Nat) , i + m = m1 → (∀ j, j < i → (decide (¬ f (f1 + j) = nI (A j))) = false) → sm_wp (sm_c (d + 1)) 0 0 MX7_list Q 112 [.ref 80, .int nn, .int (nI k), .int ln, .int (nI f1), .int (nI m1), .int v6, .int (nI i)] [] (hp x I) 0 0 := by
  intro m
  induction m with
  | zero =>
    intro i  hi h1
    have hi : i = m1 := by omega
    refine r_s (pc' := 114) dX7_list_112 rfl rfl ?_
    refine r_s (pc' := 116) dX7_list_114 rfl rfl ?_
    refine r_cge_t (tgt := 157) dX7_list_116 (by decide) (by rw [hi]; exact Int32.le_refl _) ?_
    refine r_s (pc' := 158) dX7_list_157 rfl rfl ?_
    refine r_c (pc' := 160) dX7_list_158 rfl kc_bipush_m9 ?_
    refine r_Vi1 (pc' := 163) dX7_list_160 rfl lX7_141 (hl_ rfl) rfl rfl rfl rfl (Nat.le_of_ble_eq_true rfl) (Nat.le_of_ble_eq_true rfl) (ct_X7_refused) (fun r160 h160 e160 => ?_)
    obtain ⟨rfl, rfl⟩ := e160
    refine r_reti dX7_list_163 rfl (rfl) (Nat.le_of_ble_eq_true rfl) (Nat.le_of_ble_eq_true rfl) ?_
    rw [hi] at h1; rw [fmI_no h1] at hQ; exact hQ
  | succ m ih =>
    intro i  hi h1
    refine r_s (pc' := 114) dX7_list_112 rfl rfl ?_
    refine r_s (pc' := 116) dX7_list_114 rfl rfl ?_
    refine r_cge_f (pc' := 119) (tgt := 157) dX7_list_116 rfl (by decide) (nI_ge (by omega) (by omega)) ?_
    refine r_s (pc' := 120) dX7_list_119 rfl rfl ?_
    refine r_gr (pc' := 123) dX7_list_120 rfl fX7_67 (hl_ rfl) rfl rfl ?_
    refine r_c (pc' := 125) dX7_list_123 rfl kc_bipush_60 ?_
    refine r_s (pc' := 126) dX7_list_125 rfl rfl ?_
    refine r_s (pc' := 127) dX7_list_126 rfl rfl ?_
    refine r_top ((pk_mul 60 k : nI 60 * nI k = nI (60 * k))) ?_
    refine r_s (pc' := 129) dX7_list_127 rfl rfl ?_
    refine r_s (pc' := 130) dX7_list_129 rfl rfl ?_
    refine r_top (nI_add _ _) ?_
    refine r_s (pc' := 132) dX7_list_130 rfl rfl ?_
    refine r_s (pc' := 133) dX7_list_132 rfl rfl ?_
    refine r_top (nI_add _ _) ?_
    refine h_ald (pc' := 134) dX7_list_133 rfl (hl_ rfl) rfl (vp_in_nI (by omega) (by decide)) (nI_clamp (by omega)) ?_
    refine r_top ((show _ = f (f1 + i) by rw [Nat.add_assoc]; exact hf (f1 + i) (by omega))) ?_
    refine r_s (pc' := 135) dX7_list_134 rfl rfl ?_
    refine r_gr (pc' := 138) dX7_list_135 rfl fX7_46 (hl_ rfl) rfl rfl ?_
    refine r_s (pc' := 140) dX7_list_138 rfl rfl ?_
    refine h_ald (pc' := 141) dX7_list_140 rfl (hl_ rfl) rfl (vp_in_nI (by omega) (by decide)) (nI_clamp (by omega)) ?_
    refine r_top (hA i (by omega)) ?_
    refine r_ceq (pc' := 144) (tgt := 151) dX7_list_141 rfl (by decide) (fun c141 => ?_) (fun c141 => ?_)
    · refine r_in_7_8 (pc' := 154) dX7_list_151 rfl rfl (i1 _) ?_
      refine r_goto (tgt := 112) dX7_list_154 (by decide) ?_
      refine ih (i + 1) (by omega) (fun j hj => ?_)
      by_cases e : j = i
      · subst e; exact decide_eq_false (fun h => h c141)
      · exact h1 j (by omega)
    · refine r_s (pc' := 145) dX7_list_144 rfl rfl ?_
      refine r_s (pc' := 147) dX7_list_145 rfl rfl ?_
      refine r_Vi1 (pc' := 150) dX7_list_147 rfl lX7_141 (hl_ rfl) rfl rfl rfl rfl (Nat.le_of_ble_eq_true rfl) (Nat.le_of_ble_eq_true rfl) (ct_X7_refused) (fun r147 h147 e147 => ?_)
      obtain ⟨rfl, rfl⟩ := e147
      refine r_reti dX7_list_150 rfl (rfl) (Nat.le_of_ble_eq_true rfl) (Nat.le_of_ble_eq_true rfl) ?_
      rw [fmI_at (p := fun g => decide (¬ f (f1 + g) = nI (A g))) (by omega) (decide_eq_true c141) h1] at hQ; exact hQ

set_option maxHeartbeats 4000000 in
set_option maxRecDepth 100000 in
theorem pm_list {d : Nat} {x : hX} {I : Nat → Nat → Int32} {ρ : zR} {δ : zD} {η : zH} {ft tr : Int32} {nn k ln i n : Int32} (hM : MI I (ρ, δ, η, ft, tr)) (hW : WF (ρ, δ, η, ft, tr)) : ci (d + 5) MX7_list [.ref 80, .int nn, .int k, .int ln, .int i, .int n] (hp x I) (fun r h' => ∃ I', h' = hp x I' ∧ (∀ q, q < 80 → I' q = I q) ∧ MI I' (ρ, δ, η, (sp_list ρ η nn k ln i n).1, tr) ∧ r = (sp_list ρ η nn k ln i n).2) := by
  have hR : isMd I ρ := hM.R
  have hw : wfR ρ := hW.1
  have b6 : zi ρ ≤ 6 := hw.1
  have b8 : zn ρ ≤ 8 := hw.2.1
  have bg : zg ρ ≤ 8 := hw.2.2.1
  have d8 : δ.1 ≤ 8 := hW.2.1.1
  refine c_in (L := [.ref 80, .int nn, .int k, .int ln, .int i, .int n, .null, .null]) rfl rfl ?_
  refine r_s (pc' := 1) dX7_list_0 rfl rfl ?_
  refine r_Si1 (pc' := 4) dX7_list_1 rfl lX7_137 rfl (Nat.le_of_ble_eq_true rfl) (Nat.le_of_ble_eq_true rfl) (ct_X7_noSheet) (fun r1 h1 e1 => ?_)
  rcases e1 with ⟨rfl, rfl, j1, hj1, rfl⟩ | ⟨rfl, rfl, hn1⟩
  · refine r_ifeq_t (tgt := 13) dX7_list_4 (by decide) (by decide) ?_
    refine r_s (pc' := 14) dX7_list_13 rfl rfl ?_
    refine r_s (pc' := 15) dX7_list_14 rfl rfl ?_
    refine r_c (pc' := 16) dX7_list_15 rfl kc_lconst_0 ?_
    refine r_ldc2 (pc' := 19) dX7_list_16 rfl kX7_144 ?_
    refine r_topl (show (2 : Int64) = lN 2 from rfl) ?_
    refine r_Si3 (pc' := 22) dX7_list_19 rfl lX7_89 rfl (Nat.le_of_ble_eq_true rfl) (Nat.le_of_ble_eq_true rfl) (ct_in_m (n := 2) (by decide)) (fun r19 h19 e19 => ?_)
    rcases e19 with ⟨rfl, rfl, j19, hj19, rfl⟩ | ⟨rfl, rfl, hn19⟩
    · refine r_ifne_t (tgt := 32) dX7_list_22 (by decide) (by decide) ?_
      refine r_s (pc' := 33) dX7_list_32 rfl rfl ?_
      refine h_gi (pc' := 36) dX7_list_33 rfl fX7_86 (hl_ rfl) rfl ?_
      refine r_top (hR.1) ?_
      refine r_ifne (pc' := 39) (tgt := 46) dX7_list_36 rfl (by decide) (fun c36 => ?_) (fun c36 => ?_)
      · refine r_s (pc' := 47) dX7_list_46 rfl rfl ?_
        refine r_s (pc' := 48) dX7_list_47 rfl rfl ?_
        refine r_c (pc' := 49) dX7_list_48 rfl kc_lconst_0 ?_
        refine r_s (pc' := 50) dX7_list_49 rfl rfl ?_
        refine h_gi (pc' := 53) dX7_list_50 rfl fX7_96 (hl_ rfl) rfl ?_
        refine r_top (hR.2.1) ?_
        refine r_s (pc' := 54) dX7_list_53 rfl rfl ?_
        refine r_topl (nI_l (by omega)) ?_
        refine r_Si3 (pc' := 57) dX7_list_54 rfl lX7_89 rfl (Nat.le_of_ble_eq_true rfl) (Nat.le_of_ble_eq_true rfl) (ct_in_m (hw.bn1)) (fun r54 h54 e54 => ?_)
        rcases e54 with ⟨rfl, rfl, j54, hj54, rfl⟩ | ⟨rfl, rfl, hn54⟩
        · refine r_ifne_t (tgt := 67) dX7_list_57 (by decide) (by decide) ?_
          refine r_s (pc' := 68) dX7_list_67 rfl rfl ?_
          refine r_s (pc' := 69) dX7_list_68 rfl rfl ?_
          refine r_s (pc' := 70) dX7_list_69 rfl rfl ?_
          refine r_s (pc' := 72) dX7_list_70 rfl rfl ?_
          refine r_s (pc' := 74) dX7_list_72 rfl rfl ?_
          refine r_s (pc' := 75) dX7_list_74 rfl rfl ?_
          refine r_Vi4 (pc' := 78) dX7_list_75 rfl lX7_146 (hl_ rfl) rfl rfl rfl rfl (Nat.le_of_ble_eq_true rfl) (Nat.le_of_ble_eq_true rfl) (ct_X7_cellsBarred (o := η j1) (by omega) (hM.S j1 (by omega)) (fun a n f e => hW.2.2 j1 (by omega) a n f e)) (fun r75 h75 e75 => ?_)
          rcases e75 with ⟨rfl, rfl, heta⟩ | ⟨rfl, rfl, a, sz, fc, heta, hne⟩ | ⟨rfl, rfl, a, sz, fc, heta, hln, hm0⟩ | ⟨rfl, rfl, a, sz, fc, heta, hln, hm0, hro⟩ | ⟨rfl, rfl, a, sz, fc, f1, m1, heta, hln, hle, rfl, rfl⟩
          · refine r_st_6_8 (pc' := 80) dX7_list_78 rfl rfl rfl ?_
            refine r_s (pc' := 82) dX7_list_80 rfl rfl ?_
            refine r_ifge_f (pc' := 85) (tgt := 88) dX7_list_82 rfl (by decide) (by decide) ?_
            refine r_s (pc' := 87) dX7_list_85 rfl rfl ?_
            refine r_reti dX7_list_87 rfl (rfl) (Nat.le_of_ble_eq_true rfl) (Nat.le_of_ble_eq_true rfl) ⟨_, rfl, ?_⟩
            have e0 : sp_list ρ η (nI j54) (nI j1) (nI j19) i n = (1, -11) := by
              unfold sp_list
              rw [if_pos (ok_in hj1 (by decide))]
              rw [if_pos (ok_in hj19 (by decide))]
              rw [if_neg (z1 c36)]
              rw [if_pos (ok_in hj54 hw.bn1)]
              rw [ix_nI (show j1 < 2 ^ 31 by omega), heta]
            exact ⟨_, rfl, (fun q hq => up_o (by omega)), by rw [e0]; exact hM.upf 1, by rw [e0]⟩
          · refine r_st_6_8 (pc' := 80) dX7_list_78 rfl rfl rfl ?_
            refine r_s (pc' := 82) dX7_list_80 rfl rfl ?_
            refine r_ifge_f (pc' := 85) (tgt := 88) dX7_list_82 rfl (by decide) (by decide) ?_
            refine r_s (pc' := 87) dX7_list_85 rfl rfl ?_
            refine r_reti dX7_list_87 rfl (rfl) (Nat.le_of_ble_eq_true rfl) (Nat.le_of_ble_eq_true rfl) ⟨_, rfl, ?_⟩
            have e0 : sp_list ρ η (nI j54) (nI j1) (nI j19) i n = (2, -12) := by
              unfold sp_list
              rw [if_pos (ok_in hj1 (by decide))]
              rw [if_pos (ok_in hj19 (by decide))]
              rw [if_neg (z1 c36)]
              rw [if_pos (ok_in hj54 hw.bn1)]
              rw [ix_nI (show j1 < 2 ^ 31 by omega), heta]
              exact if_neg hne
            exact ⟨_, rfl, (fun q hq => up_o (by omega)), by rw [e0]; exact hM.upf 2, by rw [e0]⟩
          · refine r_st_6_8 (pc' := 80) dX7_list_78 rfl rfl rfl ?_
            refine r_s (pc' := 82) dX7_list_80 rfl rfl ?_
            refine r_ifge_f (pc' := 85) (tgt := 88) dX7_list_82 rfl (by decide) (by decide) ?_
            refine r_s (pc' := 87) dX7_list_85 rfl rfl ?_
            refine r_reti dX7_list_87 rfl (rfl) (Nat.le_of_ble_eq_true rfl) (Nat.le_of_ble_eq_true rfl) ⟨_, rfl, ?_⟩
            have e0 : sp_list ρ η (nI j54) (nI j1) (nI j19) i n = (4, -14) := by
              unfold sp_list
              rw [if_pos (ok_in hj1 (by decide))]
              rw [if_pos (ok_in hj19 (by decide))]
              rw [if_neg (z1 c36)]
              rw [if_pos (ok_in hj54 hw.bn1)]
              rw [ix_nI (show j1 < 2 ^ 31 by omega), heta]
              exact (if_pos hln.symm).trans (if_pos hm0)
            exact ⟨_, rfl, (fun q hq => up_o (by omega)), by rw [e0]; exact hM.upf 4, by rw [e0]⟩
          · refine r_st_6_8 (pc' := 80) dX7_list_78 rfl rfl rfl ?_
            refine r_s (pc' := 82) dX7_list_80 rfl rfl ?_
            refine r_ifge_f (pc' := 85) (tgt := 88) dX7_list_82 rfl (by decide) (by decide) ?_
            refine r_s (pc' := 87) dX7_list_85 rfl rfl ?_
            refine r_reti dX7_list_87 rfl (rfl) (Nat.le_of_ble_eq_true rfl) (Nat.le_of_ble_eq_true rfl) ⟨_, rfl, ?_⟩
            have e0 : sp_list ρ η (nI j54) (nI j1) (nI j19) i n = (3, -13) := by
              unfold sp_list
              rw [if_pos (ok_in hj1 (by decide))]
              rw [if_pos (ok_in hj19 (by decide))]
              rw [if_neg (z1 c36)]
              rw [if_pos (ok_in hj54 hw.bn1)]
              rw [ix_nI (show j1 < 2 ^ 31 by omega), heta]
              exact (if_pos hln.symm).trans ((if_neg hm0).trans (by rw [hro]; rfl))
            exact ⟨_, rfl, (fun q hq => up_o (by omega)), by rw [e0]; exact hM.upf 3, by rw [e0]⟩
          · refine r_st_6_8 (pc' := 80) dX7_list_78 rfl rfl rfl ?_
            refine r_s (pc' := 82) dX7_list_80 rfl rfl ?_
            refine r_ifge_t (tgt := 88) dX7_list_82 (by decide) (by decide) ?_
            have hbd := hW.2.2 j1 (by omega) a sz fc heta
            have hro : rowok sz (nI f1) (nI m1) = true := by
              unfold rowok; rw [nI_toInt (by omega), nI_toInt (by omega)]; exact decide_eq_true (by omega)
            refine r_s (pc' := 90) dX7_list_88 rfl rfl ?_
            refine r_s (pc' := 91) dX7_list_90 rfl rfl ?_
            refine h_gi (pc' := 94) dX7_list_91 rfl fX7_93 (hl_ rfl) rfl ?_
            refine r_top (hR.2.2.1) ?_
            refine r_cle (pc' := 97) (tgt := 104) dX7_list_94 rfl (by decide) (fun c94 => ?_) (fun c94 => ?_)
            · have hz : 0 < zi ρ := Nat.pos_of_ne_zero (z1 c36)
              have hmg : m1 ≤ zg ρ := (nI_leI (by omega) (by omega)).mp c94
              refine r_s (pc' := 105) dX7_list_104 rfl rfl ?_
              refine r_s (pc' := 106) dX7_list_105 rfl rfl ?_
              refine r_Vv1 (pc' := 109) dX7_list_106 rfl lX7_193 (hl_ rfl) rfl rfl rfl rfl (Nat.le_of_ble_eq_true rfl) (Nat.le_of_ble_eq_true rfl) (ct_X7_goNights (rm := 6) hR hw hz (by omega) hM.ck) (fun h106 e106 => ?_)
              obtain ⟨I1, rfl, a1, a2⟩ := e106
              refine r_c (pc' := 110) dX7_list_109 rfl kc_iconst_0 ?_
              refine r_st_7_8 (pc' := 112) dX7_list_110 rfl rfl rfl ?_
              have e0 : sp_list ρ η (nI j54) (nI j1) (nI j19) (nI f1) (nI m1) = (0, lsI ρ j54 f1 m1 fc) := by
                unfold sp_list
                rw [if_pos (ok_in hj1 (by decide))]
                rw [if_pos (ok_in hj19 (by decide))]
                rw [if_neg (z1 c36)]
                rw [if_pos (ok_in hj54 hw.bn1)]
                rw [ix_nI (show j1 < 2 ^ 31 by omega), heta]
                exact (if_pos hln.symm).trans ((if_neg (nI_pos (by omega))).trans ((if_pos hro).trans (by rw [if_pos (ok_in (show m1 < zg ρ + 1 by omega) (by omega)), ix_nI (show j54 < 2 ^ 31 by omega), ix_nI (show f1 < 2 ^ 31 by omega), ix_nI (show m1 < 2 ^ 31 by omega)])))
              refine lp_X7_list (k := j1) (G := zg ρ) (A := (sim ρ 6 (zw ρ) j54).1) (f := fc) (by omega) (by omega) hmg bg a1.1 (fun j hj => ?_) ⟨_, rfl, _, rfl, fun q hq => ?_, by rw [e0]; exact (hM.fr a2).upf 0, by rw [e0]; rfl⟩ m1 0 (by omega) (fun j hj => absurd hj (by omega))
              · rw [a2.1 100 (by decide) (by decide) (by decide)]
                have hs := hM.S j1 (by omega)
                rw [show (ρ, δ, η, ft, tr).2.2.1 j1 = some (a, sz, fc) from heta] at hs
                exact hs.2.2 j (by omega)
              · rw [up_o (by omega)]; exact a2.c q hq
            · refine r_s (pc' := 98) dX7_list_97 rfl rfl ?_
              refine r_c (pc' := 100) dX7_list_98 rfl kc_bipush_m2 ?_
              refine r_Vi1 (pc' := 103) dX7_list_100 rfl lX7_141 (hl_ rfl) rfl rfl rfl rfl (Nat.le_of_ble_eq_true rfl) (Nat.le_of_ble_eq_true rfl) (ct_X7_refused) (fun r100 h100 e100 => ?_)
              obtain ⟨rfl, rfl⟩ := e100
              refine r_reti dX7_list_103 rfl (rfl) (Nat.le_of_ble_eq_true rfl) (Nat.le_of_ble_eq_true rfl) ⟨_, rfl, ?_⟩
              have e0 : sp_list ρ η (nI j54) (nI j1) (nI j19) (nI f1) (nI m1) = (0, -2) := by
                unfold sp_list
                rw [if_pos (ok_in hj1 (by decide))]
                rw [if_pos (ok_in hj19 (by decide))]
                rw [if_neg (z1 c36)]
                rw [if_pos (ok_in hj54 hw.bn1)]
                rw [ix_nI (show j1 < 2 ^ 31 by omega), heta]
                exact (if_pos hln.symm).trans ((if_neg (nI_pos (by omega))).trans ((if_pos hro).trans (by rw [ok_no (by omega) (fun j hj e => c94 (by rw [e]; exact nI_le (by omega) (by omega)))]; rfl)))
              exact ⟨_, rfl, (fun q hq => up_o (by omega)), by rw [e0]; exact hM.upf 0, by rw [e0]⟩
        · refine r_ifne_f (pc' := 60) (tgt := 67) dX7_list_57 rfl (by decide) (by decide) ?_
          refine r_s (pc' := 61) dX7_list_60 rfl rfl ?_
          refine r_c (pc' := 63) dX7_list_61 rfl kc_bipush_m2 ?_
          refine r_Vi1 (pc' := 66) dX7_list_63 rfl lX7_141 (hl_ rfl) rfl rfl rfl rfl (Nat.le_of_ble_eq_true rfl) (Nat.le_of_ble_eq_true rfl) (ct_X7_refused) (fun r63 h63 e63 => ?_)
          obtain ⟨rfl, rfl⟩ := e63
          refine r_reti dX7_list_66 rfl (rfl) (Nat.le_of_ble_eq_true rfl) (Nat.le_of_ble_eq_true rfl) ⟨_, rfl, ?_⟩
          have e0 : sp_list ρ η nn (nI j1) (nI j19) i n = (0, -2) := by
            unfold sp_list
            rw [if_pos (ok_in hj1 (by decide))]
            rw [if_pos (ok_in hj19 (by decide))]
            rw [if_neg (z1 c36)]
            rw [ok_no hw.bn1 hn54]; rfl
          exact ⟨_, rfl, (fun q hq => up_o (by omega)), by rw [e0]; exact hM.upf 0, by rw [e0]⟩
      · refine r_s (pc' := 40) dX7_list_39 rfl rfl ?_
        refine r_c (pc' := 42) dX7_list_40 rfl kc_bipush_m3 ?_
        refine r_Vi1 (pc' := 45) dX7_list_42 rfl lX7_141 (hl_ rfl) rfl rfl rfl rfl (Nat.le_of_ble_eq_true rfl) (Nat.le_of_ble_eq_true rfl) (ct_X7_refused) (fun r42 h42 e42 => ?_)
        obtain ⟨rfl, rfl⟩ := e42
        refine r_reti dX7_list_45 rfl (rfl) (Nat.le_of_ble_eq_true rfl) (Nat.le_of_ble_eq_true rfl) ⟨_, rfl, ?_⟩
        have e0 : sp_list ρ η nn (nI j1) (nI j19) i n = (0, -3) := by
          unfold sp_list
          rw [if_pos (ok_in hj1 (by decide))]
          rw [if_pos (ok_in hj19 (by decide))]
          rw [if_pos (z0 c36 hw.bi)]
        exact ⟨_, rfl, (fun q hq => up_o (by omega)), by rw [e0]; exact hM.upf 0, by rw [e0]⟩
    · refine r_ifne_f (pc' := 25) (tgt := 32) dX7_list_22 rfl (by decide) (by decide) ?_
      refine r_s (pc' := 26) dX7_list_25 rfl rfl ?_
      refine r_c (pc' := 28) dX7_list_26 rfl kc_bipush_m2 ?_
      refine r_Vi1 (pc' := 31) dX7_list_28 rfl lX7_141 (hl_ rfl) rfl rfl rfl rfl (Nat.le_of_ble_eq_true rfl) (Nat.le_of_ble_eq_true rfl) (ct_X7_refused) (fun r28 h28 e28 => ?_)
      obtain ⟨rfl, rfl⟩ := e28
      refine r_reti dX7_list_31 rfl (rfl) (Nat.le_of_ble_eq_true rfl) (Nat.le_of_ble_eq_true rfl) ⟨_, rfl, ?_⟩
      have e0 : sp_list ρ η nn (nI j1) ln i n = (0, -2) := by
        unfold sp_list
        rw [if_pos (ok_in hj1 (by decide))]
        rw [ok_no (by decide) hn19]; rfl
      exact ⟨_, rfl, (fun q hq => up_o (by omega)), by rw [e0]; exact hM.upf 0, by rw [e0]⟩
  · refine r_ifeq_f (pc' := 7) (tgt := 13) dX7_list_4 rfl (by decide) (by decide) ?_
    refine r_s (pc' := 8) dX7_list_7 rfl rfl ?_
    refine r_c (pc' := 9) dX7_list_8 rfl kc_iconst_m1 ?_
    refine r_Vi1 (pc' := 12) dX7_list_9 rfl lX7_141 (hl_ rfl) rfl rfl rfl rfl (Nat.le_of_ble_eq_true rfl) (Nat.le_of_ble_eq_true rfl) (ct_X7_refused) (fun r9 h9 e9 => ?_)
    obtain ⟨rfl, rfl⟩ := e9
    refine r_reti dX7_list_12 rfl (rfl) (Nat.le_of_ble_eq_true rfl) (Nat.le_of_ble_eq_true rfl) ⟨_, rfl, ?_⟩
    have e0 : sp_list ρ η nn k ln i n = (0, -1) := by
      unfold sp_list
      rw [ok_no (by decide) hn1]; rfl
    exact ⟨_, rfl, (fun q hq => up_o (by omega)), by rw [e0]; exact hM.upf 0, by rw [e0]⟩
