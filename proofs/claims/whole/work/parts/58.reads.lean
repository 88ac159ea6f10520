set_option maxHeartbeats 4000000 in
set_option maxRecDepth 100000 in
theorem lp_X4_readInns {x : hX} {T k f m : Nat} {c : Nat → Int32} {I0 : Nat → Nat → Int32} {d : Nat} {Q : sm_Q} (hc0 : isC I0 k f m c) {a : Bool × zpS} (hQ1 : ∀ I, (a.1 = true ∧ 2 ≤ zi a.2.2) → isT x I T k f m a.2.1 → isRd I 9 a.2.2 → wfP a.2.2 → zn a.2.2 = 0 → zg a.2.2 = 0 → frD T I0 I → Q (some (.int 1)) (hp x I)) (hQ0 : ∀ I, ¬ (a.1 = true ∧ 2 ≤ zi a.2.2) → isT x I T k f m a.2.1 → frD T I0 I → Q (some (.int 0)) (hp x I)) : ∀ (n : Nat) (s : zpS) (v2 v3 : Value) (I : Nat → Nat → Int32), zi s.2 + n = 6 → rI (cde c m) n s = a → isT x I T k f m s.1 → isRd I 9 s.2 → wfP s.2 → zn s.2 = 0 → zg s.2 = 0 → frD T I0 I → sm_wp (sm_c (d + 2)) 0 0 MX4_readInns Q 0 [.ref T, .ref 9, v2, v3] [] (hp x I) 0 0 := by
  intro n
  induction n with
  | zero =>
    intro s v2 v3 I hn ha hT hR hw hn0 hg0 h2
    have hT2 := hT.2.2.2.1
    have hT1 := hT.2.2.2.2.1
    have hc : isC I k f m c := hc0.fr h2 hT.2.2.1 hT.1
    have hb := hw.1
    have hbn := hw.2.1
    have hbg := hw.2.2.1
    refine r_s (pc' := 1) dX4_readInns_0 rfl rfl ?_
    refine h_gi (pc' := 4) dX4_readInns_1 rfl fX4_49 (hl_ rfl) rfl ?_
    refine r_top (hR.1) ?_
    refine r_c (pc' := 6) dX4_readInns_4 rfl kc_bipush_6 ?_
    refine r_cge_t (tgt := 76) dX4_readInns_6 (by decide) (by rw [show zi s.2 = 6 by omega]; decide) ?_
    have ha2 : (true, s) = a := ha
    refine r_s (pc' := 77) dX4_readInns_76 rfl rfl ?_
    refine h_gi (pc' := 80) dX4_readInns_77 rfl fX4_49 (hl_ rfl) rfl ?_
    refine r_top (hR.1) ?_
    refine r_c (pc' := 81) dX4_readInns_80 rfl kc_iconst_2 ?_
    refine r_clt (pc' := 84) (tgt := 88) dX4_readInns_81 rfl (by decide) (fun c81 => ?_) (fun c81 => ?_)
    · refine r_c (pc' := 89) dX4_readInns_88 rfl kc_iconst_0 ?_
      refine r_reti dX4_readInns_89 rfl (rfl) (Nat.le_of_ble_eq_true rfl) (Nat.le_of_ble_eq_true rfl) ?_
      exact hQ0 I (fun q => by rw [← ha2] at q; exact absurd ((nI_ltI (a := zi s.2) (b := 2) (by omega) (by decide)).mp c81) (Nat.not_lt.mpr (show 2 ≤ zi s.2 from q.2))) (by rw [← ha2]; exact hT) h2
    · refine r_c (pc' := 85) dX4_readInns_84 rfl kc_iconst_1 ?_
      refine r_goto (tgt := 89) dX4_readInns_85 (by decide) ?_
      refine r_reti dX4_readInns_89 rfl (rfl) (Nat.le_of_ble_eq_true rfl) (Nat.le_of_ble_eq_true rfl) ?_
      exact hQ1 I ⟨by rw [← ha2], by rw [← ha2]; exact (Nat.le_of_not_lt (fun h => c81 (nI_lt h (by decide))))⟩ (by rw [← ha2]; exact hT) (by rw [← ha2]; exact hR) (by rw [← ha2]; exact hw) (by rw [← ha2]; exact hn0) (by rw [← ha2]; exact hg0) h2
  | succ n ih =>
    intro s v2 v3 I hn ha hT hR hw hn0 hg0 h2
    have hT2 := hT.2.2.2.1
    have hT1 := hT.2.2.2.2.1
    have hc : isC I k f m c := hc0.fr h2 hT.2.2.1 hT.1
    have hb := hw.1
    have hbn := hw.2.1
    have hbg := hw.2.2.1
    refine r_s (pc' := 1) dX4_readInns_0 rfl rfl ?_
    refine h_gi (pc' := 4) dX4_readInns_1 rfl fX4_49 (hl_ rfl) rfl ?_
    refine r_top (hR.1) ?_
    refine r_c (pc' := 6) dX4_readInns_4 rfl kc_bipush_6 ?_
    refine r_cge_f (pc' := 9) (tgt := 76) dX4_readInns_6 rfl (by decide) (nI_ge (b := 6) (by omega) (by decide)) ?_
    refine r_s (pc' := 10) dX4_readInns_9 rfl rfl ?_
    refine r_c (pc' := 12) dX4_readInns_10 rfl kc_bipush_44 ?_
    refine r_Vi1 (pc' := 15) dX4_readInns_12 rfl lX4_35 hT.2.1 hT.K rfl rfl rfl (Nat.le_of_ble_eq_true rfl) (Nat.le_of_ble_eq_true rfl) (ct_X4_takes hT hc (ch := 44) (by decide)) (fun r12 h12 e12 => ?_)
    rcases e12 with ⟨rfl, rfl, hlt, e0⟩ | ⟨rfl, rfl, e0⟩
    · refine r_ifeq_f (pc' := 18) (tgt := 76) dX4_readInns_15 rfl (by decide) (by decide) ?_
      refine r_s (pc' := 19) dX4_readInns_18 rfl rfl ?_
      refine r_Vi0 (pc' := 22) dX4_readInns_19 rfl lX4_52 hT.2.1 hT.K rfl rfl rfl (Nat.le_of_ble_eq_true rfl) (Nat.le_of_ble_eq_true rfl) (ct_X4_takeKind (hT.at hlt) (hc.fr (frD_T hT.1) hT.2.2.1 hT.1)) (fun r19 h19 e19 => ?_)
      rcases e19 with ⟨kd, hkd, rfl, rfl, hlt1, ek⟩ | ⟨rfl, rfl, ek⟩
      · refine r_st_2_4 (pc' := 23) dX4_readInns_22 rfl rfl rfl ?_
        refine r_s (pc' := 24) dX4_readInns_23 rfl rfl ?_
        refine r_ifge_t (tgt := 29) dX4_readInns_24 (by decide) (nI_pos' (by omega)) ?_
        refine r_s (pc' := 30) dX4_readInns_29 rfl rfl ?_
        refine r_c (pc' := 32) dX4_readInns_30 rfl kc_bipush_9 ?_
        refine r_Vi1 (pc' := 35) dX4_readInns_32 rfl lX4_56 hT.2.1 hT.K rfl rfl rfl (Nat.le_of_ble_eq_true rfl) (Nat.le_of_ble_eq_true rfl) (ct_X4_takeDigit (g := 9) ((hT.at hlt).at hlt1) ((hc.fr (frD_T hT.1) hT.2.2.1 hT.1).fr (frD_T hT.1) hT.2.2.1 hT.1) (by omega)) (fun r32 h32 e32 => ?_)
        rcases e32 with ⟨v, hv, rfl, rfl, hlt2, ev⟩ | ⟨rfl, rfl, ev⟩
        · refine r_st_3_4 (pc' := 36) dX4_readInns_35 rfl rfl rfl ?_
          refine r_s (pc' := 37) dX4_readInns_36 rfl rfl ?_
          refine r_c (pc' := 38) dX4_readInns_37 rfl kc_iconst_m1 ?_
          refine r_cne_t (tgt := 43) dX4_readInns_38 (by decide) (fun e => absurd (show (-1 : Int32) < 0 by decide) (by rw [← e]; exact nI_pos (by omega))) ?_
          refine r_s (pc' := 44) dX4_readInns_43 rfl rfl ?_
          refine r_gr (pc' := 47) dX4_readInns_44 rfl fX4_60 (hl_ rfl) rfl rfl ?_
          refine r_s (pc' := 48) dX4_readInns_47 rfl rfl ?_
          refine h_gi (pc' := 51) dX4_readInns_48 rfl fX4_49 (hl_ rfl) rfl ?_
          refine r_top ((isRd.T ((hT.at hlt).at hlt1) (isRd.T (hT.at hlt) (isRd.T hT hR))).1) ?_
          refine r_s (pc' := 52) dX4_readInns_51 rfl rfl ?_
          refine h_ast (pc' := 53) dX4_readInns_52 rfl (hl_ rfl) rfl (vp_in_nI (by omega) (by decide)) (nI_clamp (by omega)) ?_
          refine r_s (pc' := 54) dX4_readInns_53 rfl rfl ?_
          refine r_gr (pc' := 57) dX4_readInns_54 rfl fX4_63 (hl_ rfl) rfl rfl ?_
          refine r_s (pc' := 58) dX4_readInns_57 rfl rfl ?_
          refine h_gi (pc' := 61) dX4_readInns_58 rfl fX4_49 (hl_ rfl) rfl ?_
          refine r_top ((show _ = nI (zi s.2) by rw [up_o (by decide)]; exact (isRd.T ((hT.at hlt).at hlt1) (isRd.T (hT.at hlt) (isRd.T hT hR))).1)) ?_
          refine r_s (pc' := 62) dX4_readInns_61 rfl rfl ?_
          refine h_ast (pc' := 63) dX4_readInns_62 rfl (hl_ rfl) rfl (vp_in_nI (by omega) (by decide)) (nI_clamp (by omega)) ?_
          refine r_s (pc' := 64) dX4_readInns_63 rfl rfl ?_
          refine r_s (pc' := 65) dX4_readInns_64 rfl rfl ?_
          refine h_gi (pc' := 68) dX4_readInns_65 rfl fX4_49 (hl_ rfl) rfl ?_
          refine r_top ((show _ = nI (zi s.2) by rw [up_o (by decide), up_o (by decide)]; exact (isRd.T ((hT.at hlt).at hlt1) (isRd.T (hT.at hlt) (isRd.T hT hR))).1)) ?_
          refine r_c (pc' := 69) dX4_readInns_68 rfl kc_iconst_1 ?_
          refine r_s (pc' := 70) dX4_readInns_69 rfl rfl ?_
          refine r_top (nI_1 _) ?_
          refine h_pi (pc' := 73) dX4_readInns_70 rfl fX4_49 rfl (hl_ rfl) rfl ?_
          refine r_goto (tgt := 0) dX4_readInns_73 (by decide) ?_
          have hp : pI (cde c m) s = (true, s.1 + 1 + 1 + 1, adI s.2 kd v) := by unfold pI; rw [ek]; simp only []; rw [ev]
          rw [rI, if_pos e0, hp, if_pos rfl] at ha
          exact ih (s.1 + 1 + 1 + 1, adI s.2 kd v) _ _ _ (by show zi s.2 + 1 + n = 6; omega) ha ((((((hT.at hlt).at hlt1).at hlt2).up (by decide)).up (by decide)).up (by decide)) (isRd.I (isRd.T ((hT.at hlt).at hlt1) (isRd.T (hT.at hlt) (isRd.T hT hR)))) (hw.I hg0 (by omega) hkd hv) hn0 hg0 ((((((h2.tr (frD_T hT.1)).tr (frD_T hT.1)).tr (frD_T hT.1)).tr (frD_d (by decide) (by decide))).tr (frD_d (by decide) (by decide))).tr (frD_9 (by decide)))
        · refine r_st_3_4 (pc' := 36) dX4_readInns_35 rfl rfl rfl ?_
          refine r_s (pc' := 37) dX4_readInns_36 rfl rfl ?_
          refine r_c (pc' := 38) dX4_readInns_37 rfl kc_iconst_m1 ?_
          refine r_cne_f (pc' := 41) (tgt := 43) dX4_readInns_38 rfl (by decide) (by decide) ?_
          refine r_c (pc' := 42) dX4_readInns_41 rfl kc_iconst_0 ?_
          refine r_reti dX4_readInns_42 rfl (rfl) (Nat.le_of_ble_eq_true rfl) (Nat.le_of_ble_eq_true rfl) ?_
          have hp : pI (cde c m) s = (false, s.1 + 1 + 1, s.2) := by unfold pI; rw [ek]; simp only []; rw [ev]
          rw [rI, if_pos e0, hp, if_neg (fun h => absurd (show false = true from h) (by decide))] at ha
          exact hQ0 _ (fun q => by rw [← ha] at q; cases q.1) (by rw [← ha]; exact ((hT.at hlt).at hlt1)) ((h2.tr (frD_T hT.1)).tr (frD_T hT.1))
      · refine r_st_2_4 (pc' := 23) dX4_readInns_22 rfl rfl rfl ?_
        refine r_s (pc' := 24) dX4_readInns_23 rfl rfl ?_
        refine r_ifge_f (pc' := 27) (tgt := 29) dX4_readInns_24 rfl (by decide) (by decide) ?_
        refine r_c (pc' := 28) dX4_readInns_27 rfl kc_iconst_0 ?_
        refine r_reti dX4_readInns_28 rfl (rfl) (Nat.le_of_ble_eq_true rfl) (Nat.le_of_ble_eq_true rfl) ?_
        have hp : pI (cde c m) s = (false, s.1 + 1, s.2) := by unfold pI; rw [ek]
        rw [rI, if_pos e0, hp, if_neg (fun h => absurd (show false = true from h) (by decide))] at ha
        exact hQ0 _ (fun q => by rw [← ha] at q; cases q.1) (by rw [← ha]; exact (hT.at hlt)) (h2.tr (frD_T hT.1))
    · refine r_ifeq_t (tgt := 76) dX4_readInns_15 (by decide) (by decide) ?_
      have ha2 : (true, s) = a := by rw [← ha, rI, if_neg e0]
      refine r_s (pc' := 77) dX4_readInns_76 rfl rfl ?_
      refine h_gi (pc' := 80) dX4_readInns_77 rfl fX4_49 (hl_ rfl) rfl ?_
      refine r_top (hR.1) ?_
      refine r_c (pc' := 81) dX4_readInns_80 rfl kc_iconst_2 ?_
      refine r_clt (pc' := 84) (tgt := 88) dX4_readInns_81 rfl (by decide) (fun c81 => ?_) (fun c81 => ?_)
      · refine r_c (pc' := 89) dX4_readInns_88 rfl kc_iconst_0 ?_
        refine r_reti dX4_readInns_89 rfl (rfl) (Nat.le_of_ble_eq_true rfl) (Nat.le_of_ble_eq_true rfl) ?_
        exact hQ0 I (fun q => by rw [← ha2] at q; exact absurd ((nI_ltI (a := zi s.2) (b := 2) (by omega) (by decide)).mp c81) (Nat.not_lt.mpr (show 2 ≤ zi s.2 from q.2))) (by rw [← ha2]; exact hT) h2
      · refine r_c (pc' := 85) dX4_readInns_84 rfl kc_iconst_1 ?_
        refine r_goto (tgt := 89) dX4_readInns_85 (by decide) ?_
        refine r_reti dX4_readInns_89 rfl (rfl) (Nat.le_of_ble_eq_true rfl) (Nat.le_of_ble_eq_true rfl) ?_
        exact hQ1 I ⟨by rw [← ha2], by rw [← ha2]; exact (Nat.le_of_not_lt (fun h => c81 (nI_lt h (by decide))))⟩ (by rw [← ha2]; exact hT) (by rw [← ha2]; exact hR) (by rw [← ha2]; exact hw) (by rw [← ha2]; exact hn0) (by rw [← ha2]; exact hg0) h2

set_option maxHeartbeats 4000000 in
set_option maxRecDepth 100000 in
theorem lp_X4_readNights {x : hX} {T k f m : Nat} {c : Nat → Int32} {I0 : Nat → Nat → Int32} {d : Nat} {Q : sm_Q} (hc0 : isC I0 k f m c) {a : Bool × zpS} (hQ1 : ∀ I, (a.1 = true ∧ 0 < zn a.2.2) → isT x I T k f m a.2.1 → isRd I 9 a.2.2 → wfP a.2.2 → 2 ≤ zi a.2.2 → zg a.2.2 = 0 → frD T I0 I → Q (some (.int 1)) (hp x I)) (hQ0 : ∀ I, ¬ (a.1 = true ∧ 0 < zn a.2.2) → isT x I T k f m a.2.1 → frD T I0 I → Q (some (.int 0)) (hp x I)) : ∀ (n : Nat) (s : zpS) (v2 v3 : Value) (I : Nat → Nat → Int32), zn s.2 + n = 8 → rN (cde c m) n s = a → isT x I T k f m s.1 → isRd I 9 s.2 → wfP s.2 → 2 ≤ zi s.2 → zg s.2 = 0 → frD T I0 I → sm_wp (sm_c (d + 2)) 0 0 MX4_readNights Q 0 [.ref T, .ref 9, v2, v3] [] (hp x I) 0 0 := by
  intro n
  induction n with
  | zero =>
    intro s v2 v3 I hn ha hT hR hw hi2 hg0 h2
    have hT2 := hT.2.2.2.1
    have hT1 := hT.2.2.2.2.1
    have hc : isC I k f m c := hc0.fr h2 hT.2.2.1 hT.1
    have hb := hw.1
    have hbn := hw.2.1
    have hbg := hw.2.2.1
    refine r_s (pc' := 1) dX4_readNights_0 rfl rfl ?_
    refine h_gi (pc' := 4) dX4_readNights_1 rfl fX4_66 (hl_ rfl) rfl ?_
    refine r_top (hR.2.1) ?_
    refine r_c (pc' := 6) dX4_readNights_4 rfl kc_bipush_8 ?_
    refine r_cge_t (tgt := 93) dX4_readNights_6 (by decide) (by rw [show zn s.2 = 8 by omega]; decide) ?_
    have ha2 : (true, s) = a := ha
    refine r_s (pc' := 94) dX4_readNights_93 rfl rfl ?_
    refine h_gi (pc' := 97) dX4_readNights_94 rfl fX4_66 (hl_ rfl) rfl ?_
    refine r_top (hR.2.1) ?_
    refine r_ifle (pc' := 100) (tgt := 104) dX4_readNights_97 rfl (by decide) (fun c97 => ?_) (fun c97 => ?_)
    · refine r_c (pc' := 105) dX4_readNights_104 rfl kc_iconst_0 ?_
      refine r_reti dX4_readNights_105 rfl (rfl) (Nat.le_of_ble_eq_true rfl) (Nat.le_of_ble_eq_true rfl) ?_
      exact hQ0 I (fun q => by rw [← ha2] at q; exact absurd c97 (nI_nle q.2 (by omega))) (by rw [← ha2]; exact hT) h2
    · refine r_c (pc' := 101) dX4_readNights_100 rfl kc_iconst_1 ?_
      refine r_goto (tgt := 105) dX4_readNights_101 (by decide) ?_
      refine r_reti dX4_readNights_105 rfl (rfl) (Nat.le_of_ble_eq_true rfl) (Nat.le_of_ble_eq_true rfl) ?_
      exact hQ1 I ⟨by rw [← ha2], by rw [← ha2]; exact (Nat.pos_of_ne_zero (fun h => c97 (by rw [h]; decide)))⟩ (by rw [← ha2]; exact hT) (by rw [← ha2]; exact hR) (by rw [← ha2]; exact hw) (by rw [← ha2]; exact hi2) (by rw [← ha2]; exact hg0) h2
  | succ n ih =>
    intro s v2 v3 I hn ha hT hR hw hi2 hg0 h2
    have hT2 := hT.2.2.2.1
    have hT1 := hT.2.2.2.2.1
    have hc : isC I k f m c := hc0.fr h2 hT.2.2.1 hT.1
    have hb := hw.1
    have hbn := hw.2.1
    have hbg := hw.2.2.1
    refine r_s (pc' := 1) dX4_readNights_0 rfl rfl ?_
    refine h_gi (pc' := 4) dX4_readNights_1 rfl fX4_66 (hl_ rfl) rfl ?_
    refine r_top (hR.2.1) ?_
    refine r_c (pc' := 6) dX4_readNights_4 rfl kc_bipush_8 ?_
    refine r_cge_f (pc' := 9) (tgt := 93) dX4_readNights_6 rfl (by decide) (nI_ge (b := 8) (by omega) (by decide)) ?_
    refine r_s (pc' := 10) dX4_readNights_9 rfl rfl ?_
    refine r_c (pc' := 12) dX4_readNights_10 rfl kc_bipush_62 ?_
    refine r_Vi1 (pc' := 15) dX4_readNights_12 rfl lX4_35 hT.2.1 hT.K rfl rfl rfl (Nat.le_of_ble_eq_true rfl) (Nat.le_of_ble_eq_true rfl) (ct_X4_takes hT hc (ch := 62) (by decide)) (fun r12 h12 e12 => ?_)
    rcases e12 with ⟨rfl, rfl, hlt, e0⟩ | ⟨rfl, rfl, e0⟩
    · refine r_ifeq_f (pc' := 18) (tgt := 22) dX4_readNights_15 rfl (by decide) (by decide) ?_
      refine r_c (pc' := 19) dX4_readNights_18 rfl kc_iconst_0 ?_
      refine r_goto (tgt := 37) dX4_readNights_19 (by decide) ?_
      refine r_st_2_4 (pc' := 38) dX4_readNights_37 rfl rfl rfl ?_
      refine r_s (pc' := 39) dX4_readNights_38 rfl rfl ?_
      refine r_c (pc' := 41) dX4_readNights_39 rfl kc_bipush_m9 ?_
      refine r_cne_t (tgt := 47) dX4_readNights_41 (by decide) (by decide) ?_
      refine r_s (pc' := 48) dX4_readNights_47 rfl rfl ?_
      refine r_c (pc' := 49) dX4_readNights_48 rfl kc_iconst_5 ?_
      refine r_Vi1 (pc' := 52) dX4_readNights_49 rfl lX4_56 hT.2.1 hT.K rfl rfl rfl (Nat.le_of_ble_eq_true rfl) (Nat.le_of_ble_eq_true rfl) (ct_X4_takeDigit (g := 5) (hT.at hlt) (hc.fr (frD_T hT.1) hT.2.2.1 hT.1) (by omega)) (fun r49 h49 e49 => ?_)
      rcases e49 with ⟨v, hv, rfl, rfl, hlt1, ev⟩ | ⟨rfl, rfl, ev⟩
      · refine r_st_3_4 (pc' := 53) dX4_readNights_52 rfl rfl rfl ?_
        refine r_s (pc' := 54) dX4_readNights_53 rfl rfl ?_
        refine r_c (pc' := 55) dX4_readNights_54 rfl kc_iconst_m1 ?_
        refine r_cne_t (tgt := 60) dX4_readNights_55 (by decide) (fun e => absurd (show (-1 : Int32) < 0 by decide) (by rw [← e]; exact nI_pos (by omega))) ?_
        refine r_s (pc' := 61) dX4_readNights_60 rfl rfl ?_
        refine r_gr (pc' := 64) dX4_readNights_61 rfl fX4_69 (hl_ rfl) rfl rfl ?_
        refine r_s (pc' := 65) dX4_readNights_64 rfl rfl ?_
        refine h_gi (pc' := 68) dX4_readNights_65 rfl fX4_66 (hl_ rfl) rfl ?_
        refine r_top ((isRd.T (hT.at hlt) (isRd.T hT hR)).2.1) ?_
        refine r_s (pc' := 69) dX4_readNights_68 rfl rfl ?_
        refine h_ast (pc' := 70) dX4_readNights_69 rfl (hl_ rfl) rfl (vp_in_nI (by omega) (by decide)) (nI_clamp (by omega)) ?_
        refine r_s (pc' := 71) dX4_readNights_70 rfl rfl ?_
        refine r_gr (pc' := 74) dX4_readNights_71 rfl fX4_72 (hl_ rfl) rfl rfl ?_
        refine r_s (pc' := 75) dX4_readNights_74 rfl rfl ?_
        refine h_gi (pc' := 78) dX4_readNights_75 rfl fX4_66 (hl_ rfl) rfl ?_
        refine r_top ((show _ = nI (zn s.2) by rw [up_o (by decide)]; exact (isRd.T (hT.at hlt) (isRd.T hT hR)).2.1)) ?_
        refine r_s (pc' := 79) dX4_readNights_78 rfl rfl ?_
        refine h_ast (pc' := 80) dX4_readNights_79 rfl (hl_ rfl) rfl (vp_in_nI (by omega) (by decide)) (nI_clamp (by omega)) ?_
        refine r_s (pc' := 81) dX4_readNights_80 rfl rfl ?_
        refine r_s (pc' := 82) dX4_readNights_81 rfl rfl ?_
        refine h_gi (pc' := 85) dX4_readNights_82 rfl fX4_66 (hl_ rfl) rfl ?_
        refine r_top ((show _ = nI (zn s.2) by rw [up_o (by decide), up_o (by decide)]; exact (isRd.T (hT.at hlt) (isRd.T hT hR)).2.1)) ?_
        refine r_c (pc' := 86) dX4_readNights_85 rfl kc_iconst_1 ?_
        refine r_s (pc' := 87) dX4_readNights_86 rfl rfl ?_
        refine r_top (nI_1 _) ?_
        refine h_pi (pc' := 90) dX4_readNights_87 rfl fX4_66 rfl (hl_ rfl) rfl ?_
        refine r_goto (tgt := 0) dX4_readNights_90 (by decide) ?_
        have hwn : wnd (cde c m s.1) = some 0 := by unfold wnd; rw [if_pos e0]
        have hp : pN (cde c m) 0 s = (true, s.1 + 1 + 1, adN s.2 0 v) := by unfold pN; rw [ev]
        unfold rN at ha
        rw [hwn] at ha
        simp only [] at ha
        rw [hp, if_pos rfl] at ha
        exact ih (s.1 + 1 + 1, adN s.2 0 v) _ _ _ (by show zn s.2 + 1 + n = 8; omega) ha (((((hT.at hlt).at hlt1).up (by decide)).up (by decide)).up (by decide)) (isRd.N (w := 0) (isRd.T (hT.at hlt) (isRd.T hT hR))) (hw.N (by omega) (by decide) hv) hi2 hg0 (((((h2.tr (frD_T hT.1)).tr (frD_T hT.1)).tr (frD_d (by decide) (by decide))).tr (frD_d (by decide) (by decide))).tr (frD_9 (by decide)))
      · refine r_st_3_4 (pc' := 53) dX4_readNights_52 rfl rfl rfl ?_
        refine r_s (pc' := 54) dX4_readNights_53 rfl rfl ?_
        refine r_c (pc' := 55) dX4_readNights_54 rfl kc_iconst_m1 ?_
        refine r_cne_f (pc' := 58) (tgt := 60) dX4_readNights_55 rfl (by decide) (by decide) ?_
        refine r_c (pc' := 59) dX4_readNights_58 rfl kc_iconst_0 ?_
        refine r_reti dX4_readNights_59 rfl (rfl) (Nat.le_of_ble_eq_true rfl) (Nat.le_of_ble_eq_true rfl) ?_
        have hwn : wnd (cde c m s.1) = some 0 := by unfold wnd; rw [if_pos e0]
        have hp : pN (cde c m) 0 s = (false, s.1 + 1, s.2) := by unfold pN; rw [ev]
        unfold rN at ha
        rw [hwn] at ha
        simp only [] at ha
        rw [hp, if_neg (fun h => absurd (show false = true from h) (by decide))] at ha
        exact hQ0 _ (fun q => by rw [← ha] at q; cases q.1) (by rw [← ha]; exact (hT.at hlt)) (h2.tr (frD_T hT.1))
    · refine r_ifeq_t (tgt := 22) dX4_readNights_15 (by decide) (by decide) ?_
      refine r_s (pc' := 23) dX4_readNights_22 rfl rfl ?_
      refine r_c (pc' := 25) dX4_readNights_23 rfl kc_bipush_60 ?_
      refine r_Vi1 (pc' := 28) dX4_readNights_25 rfl lX4_35 hT.2.1 hT.K rfl rfl rfl (Nat.le_of_ble_eq_true rfl) (Nat.le_of_ble_eq_true rfl) (ct_X4_takes hT hc (ch := 60) (by decide)) (fun r25 h25 e25 => ?_)
      rcases e25 with ⟨rfl, rfl, hlt, e1⟩ | ⟨rfl, rfl, e1⟩
      · refine r_ifeq_f (pc' := 31) (tgt := 35) dX4_readNights_28 rfl (by decide) (by decide) ?_
        refine r_c (pc' := 32) dX4_readNights_31 rfl kc_iconst_1 ?_
        refine r_goto (tgt := 37) dX4_readNights_32 (by decide) ?_
        refine r_st_2_4 (pc' := 38) dX4_readNights_37 rfl rfl rfl ?_
        refine r_s (pc' := 39) dX4_readNights_38 rfl rfl ?_
        refine r_c (pc' := 41) dX4_readNights_39 rfl kc_bipush_m9 ?_
        refine r_cne_t (tgt := 47) dX4_readNights_41 (by decide) (by decide) ?_
        refine r_s (pc' := 48) dX4_readNights_47 rfl rfl ?_
        refine r_c (pc' := 49) dX4_readNights_48 rfl kc_iconst_5 ?_
        refine r_Vi1 (pc' := 52) dX4_readNights_49 rfl lX4_56 hT.2.1 hT.K rfl rfl rfl (Nat.le_of_ble_eq_true rfl) (Nat.le_of_ble_eq_true rfl) (ct_X4_takeDigit (g := 5) (hT.at hlt) (hc.fr (frD_T hT.1) hT.2.2.1 hT.1) (by omega)) (fun r49 h49 e49 => ?_)
        rcases e49 with ⟨v, hv, rfl, rfl, hlt1, ev⟩ | ⟨rfl, rfl, ev⟩
        · refine r_st_3_4 (pc' := 53) dX4_readNights_52 rfl rfl rfl ?_
          refine r_s (pc' := 54) dX4_readNights_53 rfl rfl ?_
          refine r_c (pc' := 55) dX4_readNights_54 rfl kc_iconst_m1 ?_
          refine r_cne_t (tgt := 60) dX4_readNights_55 (by decide) (fun e => absurd (show (-1 : Int32) < 0 by decide) (by rw [← e]; exact nI_pos (by omega))) ?_
          refine r_s (pc' := 61) dX4_readNights_60 rfl rfl ?_
          refine r_gr (pc' := 64) dX4_readNights_61 rfl fX4_69 (hl_ rfl) rfl rfl ?_
          refine r_s (pc' := 65) dX4_readNights_64 rfl rfl ?_
          refine h_gi (pc' := 68) dX4_readNights_65 rfl fX4_66 (hl_ rfl) rfl ?_
          refine r_top ((isRd.T (hT.at hlt) (isRd.T hT hR)).2.1) ?_
          refine r_s (pc' := 69) dX4_readNights_68 rfl rfl ?_
          refine h_ast (pc' := 70) dX4_readNights_69 rfl (hl_ rfl) rfl (vp_in_nI (by omega) (by decide)) (nI_clamp (by omega)) ?_
          refine r_s (pc' := 71) dX4_readNights_70 rfl rfl ?_
          refine r_gr (pc' := 74) dX4_readNights_71 rfl fX4_72 (hl_ rfl) rfl rfl ?_
          refine r_s (pc' := 75) dX4_readNights_74 rfl rfl ?_
          refine h_gi (pc' := 78) dX4_readNights_75 rfl fX4_66 (hl_ rfl) rfl ?_
          refine r_top ((show _ = nI (zn s.2) by rw [up_o (by decide)]; exact (isRd.T (hT.at hlt) (isRd.T hT hR)).2.1)) ?_
          refine r_s (pc' := 79) dX4_readNights_78 rfl rfl ?_
          refine h_ast (pc' := 80) dX4_readNights_79 rfl (hl_ rfl) rfl (vp_in_nI (by omega) (by decide)) (nI_clamp (by omega)) ?_
          refine r_s (pc' := 81) dX4_readNights_80 rfl rfl ?_
          refine r_s (pc' := 82) dX4_readNights_81 rfl rfl ?_
          refine h_gi (pc' := 85) dX4_readNights_82 rfl fX4_66 (hl_ rfl) rfl ?_
          refine r_top ((show _ = nI (zn s.2) by rw [up_o (by decide), up_o (by decide)]; exact (isRd.T (hT.at hlt) (isRd.T hT hR)).2.1)) ?_
          refine r_c (pc' := 86) dX4_readNights_85 rfl kc_iconst_1 ?_
          refine r_s (pc' := 87) dX4_readNights_86 rfl rfl ?_
          refine r_top (nI_1 _) ?_
          refine h_pi (pc' := 90) dX4_readNights_87 rfl fX4_66 rfl (hl_ rfl) rfl ?_
          refine r_goto (tgt := 0) dX4_readNights_90 (by decide) ?_
          have hwn : wnd (cde c m s.1) = some 1 := by unfold wnd; rw [if_neg e0, if_pos e1]
          have hp : pN (cde c m) 1 s = (true, s.1 + 1 + 1, adN s.2 1 v) := by unfold pN; rw [ev]
          unfold rN at ha
          rw [hwn] at ha
          simp only [] at ha
          rw [hp, if_pos rfl] at ha
          exact ih (s.1 + 1 + 1, adN s.2 1 v) _ _ _ (by show zn s.2 + 1 + n = 8; omega) ha (((((hT.at hlt).at hlt1).up (by decide)).up (by decide)).up (by decide)) (isRd.N (w := 1) (isRd.T (hT.at hlt) (isRd.T hT hR))) (hw.N (by omega) (by decide) hv) hi2 hg0 (((((h2.tr (frD_T hT.1)).tr (frD_T hT.1)).tr (frD_d (by decide) (by decide))).tr (frD_d (by decide) (by decide))).tr (frD_9 (by decide)))
        · refine r_st_3_4 (pc' := 53) dX4_readNights_52 rfl rfl rfl ?_
          refine r_s (pc' := 54) dX4_readNights_53 rfl rfl ?_
          refine r_c (pc' := 55) dX4_readNights_54 rfl kc_iconst_m1 ?_
          refine r_cne_f (pc' := 58) (tgt := 60) dX4_readNights_55 rfl (by decide) (by decide) ?_
          refine r_c (pc' := 59) dX4_readNights_58 rfl kc_iconst_0 ?_
          refine r_reti dX4_readNights_59 rfl (rfl) (Nat.le_of_ble_eq_true rfl) (Nat.le_of_ble_eq_true rfl) ?_
          have hwn : wnd (cde c m s.1) = some 1 := by unfold wnd; rw [if_neg e0, if_pos e1]
          have hp : pN (cde c m) 1 s = (false, s.1 + 1, s.2) := by unfold pN; rw [ev]
          unfold rN at ha
          rw [hwn] at ha
          simp only [] at ha
          rw [hp, if_neg (fun h => absurd (show false = true from h) (by decide))] at ha
          exact hQ0 _ (fun q => by rw [← ha] at q; cases q.1) (by rw [← ha]; exact (hT.at hlt)) (h2.tr (frD_T hT.1))
      · refine r_ifeq_t (tgt := 35) dX4_readNights_28 (by decide) (by decide) ?_
        refine r_c (pc' := 37) dX4_readNights_35 rfl kc_bipush_m9 ?_
        refine r_st_2_4 (pc' := 38) dX4_readNights_37 rfl rfl rfl ?_
        refine r_s (pc' := 39) dX4_readNights_38 rfl rfl ?_
        refine r_c (pc' := 41) dX4_readNights_39 rfl kc_bipush_m9 ?_
        refine r_cne_f (pc' := 44) (tgt := 47) dX4_readNights_41 rfl (by decide) (by decide) ?_
        refine r_goto (tgt := 93) dX4_readNights_44 (by decide) ?_
        have ha2 : (true, s) = a := by rw [← ha, rN, show wnd (cde c m s.1) = none from (by unfold wnd; rw [if_neg e0, if_neg e1])]
        refine r_s (pc' := 94) dX4_readNights_93 rfl rfl ?_
        refine h_gi (pc' := 97) dX4_readNights_94 rfl fX4_66 (hl_ rfl) rfl ?_
        refine r_top (hR.2.1) ?_
        refine r_ifle (pc' := 100) (tgt := 104) dX4_readNights_97 rfl (by decide) (fun c97 => ?_) (fun c97 => ?_)
        · refine r_c (pc' := 105) dX4_readNights_104 rfl kc_iconst_0 ?_
          refine r_reti dX4_readNights_105 rfl (rfl) (Nat.le_of_ble_eq_true rfl) (Nat.le_of_ble_eq_true rfl) ?_
          exact hQ0 I (fun q => by rw [← ha2] at q; exact absurd c97 (nI_nle q.2 (by omega))) (by rw [← ha2]; exact hT) h2
        · refine r_c (pc' := 101) dX4_readNights_100 rfl kc_iconst_1 ?_
          refine r_goto (tgt := 105) dX4_readNights_101 (by decide) ?_
          refine r_reti dX4_readNights_105 rfl (rfl) (Nat.le_of_ble_eq_true rfl) (Nat.le_of_ble_eq_true rfl) ?_
          exact hQ1 I ⟨by rw [← ha2], by rw [← ha2]; exact (Nat.pos_of_ne_zero (fun h => c97 (by rw [h]; decide)))⟩ (by rw [← ha2]; exact hT) (by rw [← ha2]; exact hR) (by rw [← ha2]; exact hw) (by rw [← ha2]; exact hi2) (by rw [← ha2]; exact hg0) h2

set_option maxHeartbeats 4000000 in
set_option maxRecDepth 100000 in
theorem lp_X4_readGuests {x : hX} {T k f m : Nat} {c : Nat → Int32} {I0 : Nat → Nat → Int32} {d : Nat} {Q : sm_Q} (hc0 : isC I0 k f m c) {a : Bool × zpS} (hQ1 : ∀ I, (a.1 = true ∧ 0 < zg a.2.2) → isT x I T k f m a.2.1 → isRd I 9 a.2.2 → wfP a.2.2 → 2 ≤ zi a.2.2 → 0 < zn a.2.2 → frD T I0 I → Q (some (.int 1)) (hp x I)) (hQ0 : ∀ I, ¬ (a.1 = true ∧ 0 < zg a.2.2) → isT x I T k f m a.2.1 → frD T I0 I → Q (some (.int 0)) (hp x I)) : ∀ (n : Nat) (s : zpS) (v2 v3 : Value) (I : Nat → Nat → Int32), zg s.2 + n = 8 → rG (cde c m) n s = a → isT x I T k f m s.1 → isRd I 9 s.2 → wfP s.2 → 2 ≤ zi s.2 → 0 < zn s.2 → frD T I0 I → sm_wp (sm_c (d + 2)) 0 0 MX4_readGuests Q 0 [.ref T, .ref 9, v2, v3] [] (hp x I) 0 0 := by
  intro n
  induction n with
  | zero =>
    intro s v2 v3 I hn ha hT hR hw hi2 hn1 h2
    have hT2 := hT.2.2.2.1
    have hT1 := hT.2.2.2.2.1
    have hc : isC I k f m c := hc0.fr h2 hT.2.2.1 hT.1
    have hb := hw.1
    have hbn := hw.2.1
    have hbg := hw.2.2.1
    refine r_s (pc' := 1) dX4_readGuests_0 rfl rfl ?_
    refine h_gi (pc' := 4) dX4_readGuests_1 rfl fX4_75 (hl_ rfl) rfl ?_
    refine r_top (hR.2.2.1) ?_
    refine r_c (pc' := 6) dX4_readGuests_4 rfl kc_bipush_8 ?_
    refine r_cge_t (tgt := 82) dX4_readGuests_6 (by decide) (by rw [show zg s.2 = 8 by omega]; decide) ?_
    have ha2 : (true, s) = a := ha
    refine r_s (pc' := 83) dX4_readGuests_82 rfl rfl ?_
    refine h_gi (pc' := 86) dX4_readGuests_83 rfl fX4_75 (hl_ rfl) rfl ?_
    refine r_top (hR.2.2.1) ?_
    refine r_ifle (pc' := 89) (tgt := 93) dX4_readGuests_86 rfl (by decide) (fun c86 => ?_) (fun c86 => ?_)
    · refine r_c (pc' := 94) dX4_readGuests_93 rfl kc_iconst_0 ?_
      refine r_reti dX4_readGuests_94 rfl (rfl) (Nat.le_of_ble_eq_true rfl) (Nat.le_of_ble_eq_true rfl) ?_
      exact hQ0 I (fun q => by rw [← ha2] at q; exact absurd c86 (nI_nle q.2 (by omega))) (by rw [← ha2]; exact hT) h2
    · refine r_c (pc' := 90) dX4_readGuests_89 rfl kc_iconst_1 ?_
      refine r_goto (tgt := 94) dX4_readGuests_90 (by decide) ?_
      refine r_reti dX4_readGuests_94 rfl (rfl) (Nat.le_of_ble_eq_true rfl) (Nat.le_of_ble_eq_true rfl) ?_
      exact hQ1 I ⟨by rw [← ha2], by rw [← ha2]; exact (Nat.pos_of_ne_zero (fun h => c86 (by rw [h]; decide)))⟩ (by rw [← ha2]; exact hT) (by rw [← ha2]; exact hR) (by rw [← ha2]; exact hw) (by rw [← ha2]; exact hi2) (by rw [← ha2]; exact hn1) h2
  | succ n ih =>
    intro s v2 v3 I hn ha hT hR hw hi2 hn1 h2
    have hT2 := hT.2.2.2.1
    have hT1 := hT.2.2.2.2.1
    have hc : isC I k f m c := hc0.fr h2 hT.2.2.1 hT.1
    have hb := hw.1
    have hbn := hw.2.1
    have hbg := hw.2.2.1
    refine r_s (pc' := 1) dX4_readGuests_0 rfl rfl ?_
    refine h_gi (pc' := 4) dX4_readGuests_1 rfl fX4_75 (hl_ rfl) rfl ?_
    refine r_top (hR.2.2.1) ?_
    refine r_c (pc' := 6) dX4_readGuests_4 rfl kc_bipush_8 ?_
    refine r_cge_f (pc' := 9) (tgt := 82) dX4_readGuests_6 rfl (by decide) (nI_ge (b := 8) (by omega) (by decide)) ?_
    refine r_s (pc' := 10) dX4_readGuests_9 rfl rfl ?_
    refine r_c (pc' := 12) dX4_readGuests_10 rfl kc_bipush_43 ?_
    refine r_Vi1 (pc' := 15) dX4_readGuests_12 rfl lX4_35 hT.2.1 hT.K rfl rfl rfl (Nat.le_of_ble_eq_true rfl) (Nat.le_of_ble_eq_true rfl) (ct_X4_takes hT hc (ch := 43) (by decide)) (fun r12 h12 e12 => ?_)
    rcases e12 with ⟨rfl, rfl, hlt, e0⟩ | ⟨rfl, rfl, e0⟩
    · refine r_ifeq_f (pc' := 18) (tgt := 82) dX4_readGuests_15 rfl (by decide) (by decide) ?_
      refine r_s (pc' := 19) dX4_readGuests_18 rfl rfl ?_
      refine r_c (pc' := 20) dX4_readGuests_19 rfl kc_iconst_3 ?_
      refine r_Vi1 (pc' := 23) dX4_readGuests_20 rfl lX4_56 hT.2.1 hT.K rfl rfl rfl (Nat.le_of_ble_eq_true rfl) (Nat.le_of_ble_eq_true rfl) (ct_X4_takeDigit (g := 3) (hT.at hlt) (hc.fr (frD_T hT.1) hT.2.2.1 hT.1) (by omega)) (fun r20 h20 e20 => ?_)
      rcases e20 with ⟨y, hy, rfl, rfl, hlt1, ey⟩ | ⟨rfl, rfl, ey⟩
      · refine r_st_2_4 (pc' := 24) dX4_readGuests_23 rfl rfl rfl ?_
        refine r_s (pc' := 25) dX4_readGuests_24 rfl rfl ?_
        refine r_c (pc' := 26) dX4_readGuests_25 rfl kc_iconst_m1 ?_
        refine r_cne_t (tgt := 31) dX4_readGuests_26 (by decide) (fun e => absurd (show (-1 : Int32) < 0 by decide) (by rw [← e]; exact nI_pos (by omega))) ?_
        refine r_s (pc' := 32) dX4_readGuests_31 rfl rfl ?_
        refine r_s (pc' := 33) dX4_readGuests_32 rfl rfl ?_
        refine h_gi (pc' := 36) dX4_readGuests_33 rfl fX4_49 (hl_ rfl) rfl ?_
        refine r_top ((isRd.T (hT.at hlt) (isRd.T hT hR)).1) ?_
        refine r_c (pc' := 37) dX4_readGuests_36 rfl kc_iconst_1 ?_
        refine r_s (pc' := 38) dX4_readGuests_37 rfl rfl ?_
        refine r_top ((pk_sub (by omega) : nI (zi s.2) - nI 1 = nI (zi s.2 - 1))) ?_
        refine r_Vi1 (pc' := 41) dX4_readGuests_38 rfl lX4_56 hT.2.1 hT.K rfl rfl rfl (Nat.le_of_ble_eq_true rfl) (Nat.le_of_ble_eq_true rfl) (ct_X4_takeDigit (g := (zi s.2 - 1)) ((hT.at hlt).at hlt1) ((hc.fr (frD_T hT.1) hT.2.2.1 hT.1).fr (frD_T hT.1) hT.2.2.1 hT.1) (by omega)) (fun r38 h38 e38 => ?_)
        rcases e38 with ⟨v, hv, rfl, rfl, hlt2, ev0⟩ | ⟨rfl, rfl, ev0⟩
        · refine r_st_3_4 (pc' := 42) dX4_readGuests_41 rfl rfl rfl ?_
          refine r_s (pc' := 43) dX4_readGuests_42 rfl rfl ?_
          refine r_c (pc' := 44) dX4_readGuests_43 rfl kc_iconst_m1 ?_
          refine r_cne_t (tgt := 49) dX4_readGuests_44 (by decide) (fun e => absurd (show (-1 : Int32) < 0 by decide) (by rw [← e]; exact nI_pos (by omega))) ?_
          refine r_s (pc' := 50) dX4_readGuests_49 rfl rfl ?_
          refine r_gr (pc' := 53) dX4_readGuests_50 rfl fX4_78 (hl_ rfl) rfl rfl ?_
          refine r_s (pc' := 54) dX4_readGuests_53 rfl rfl ?_
          refine h_gi (pc' := 57) dX4_readGuests_54 rfl fX4_75 (hl_ rfl) rfl ?_
          refine r_top ((isRd.T ((hT.at hlt).at hlt1) (isRd.T (hT.at hlt) (isRd.T hT hR))).2.2.1) ?_
          refine r_s (pc' := 58) dX4_readGuests_57 rfl rfl ?_
          refine h_ast (pc' := 59) dX4_readGuests_58 rfl (hl_ rfl) rfl (vp_in_nI (by omega) (by decide)) (nI_clamp (by omega)) ?_
          refine r_s (pc' := 60) dX4_readGuests_59 rfl rfl ?_
          refine r_gr (pc' := 63) dX4_readGuests_60 rfl fX4_81 (hl_ rfl) rfl rfl ?_
          refine r_s (pc' := 64) dX4_readGuests_63 rfl rfl ?_
          refine h_gi (pc' := 67) dX4_readGuests_64 rfl fX4_75 (hl_ rfl) rfl ?_
          refine r_top ((show _ = nI (zg s.2) by rw [up_o (by decide)]; exact (isRd.T ((hT.at hlt).at hlt1) (isRd.T (hT.at hlt) (isRd.T hT hR))).2.2.1)) ?_
          refine r_s (pc' := 68) dX4_readGuests_67 rfl rfl ?_
          refine h_ast (pc' := 69) dX4_readGuests_68 rfl (hl_ rfl) rfl (vp_in_nI (by omega) (by decide)) (nI_clamp (by omega)) ?_
          refine r_s (pc' := 70) dX4_readGuests_69 rfl rfl ?_
          refine r_s (pc' := 71) dX4_readGuests_70 rfl rfl ?_
          refine h_gi (pc' := 74) dX4_readGuests_71 rfl fX4_75 (hl_ rfl) rfl ?_
          refine r_top ((show _ = nI (zg s.2) by rw [up_o (by decide), up_o (by decide)]; exact (isRd.T ((hT.at hlt).at hlt1) (isRd.T (hT.at hlt) (isRd.T hT hR))).2.2.1)) ?_
          refine r_c (pc' := 75) dX4_readGuests_74 rfl kc_iconst_1 ?_
          refine r_s (pc' := 76) dX4_readGuests_75 rfl rfl ?_
          refine r_top (nI_1 _) ?_
          refine h_pi (pc' := 79) dX4_readGuests_76 rfl fX4_75 rfl (hl_ rfl) rfl ?_
          refine r_goto (tgt := 0) dX4_readGuests_79 (by decide) ?_
          have ev' := ev0
          rw [show zi s.2 - 1 + 1 = zi s.2 by omega] at ev'
          have hp : pG (cde c m) s = (true, s.1 + 1 + 1 + 1, adG s.2 y v) := by unfold pG; rw [ey]; simp only []; rw [ev']
          rw [rG, if_pos e0, hp, if_pos rfl] at ha
          exact ih (s.1 + 1 + 1 + 1, adG s.2 y v) _ _ _ (by show zg s.2 + 1 + n = 8; omega) ha ((((((hT.at hlt).at hlt1).at hlt2).up (by decide)).up (by decide)).up (by decide)) (isRd.G (isRd.T ((hT.at hlt).at hlt1) (isRd.T (hT.at hlt) (isRd.T hT hR)))) (hw.G (by omega) hy (by omega)) hi2 hn1 ((((((h2.tr (frD_T hT.1)).tr (frD_T hT.1)).tr (frD_T hT.1)).tr (frD_d (by decide) (by decide))).tr (frD_d (by decide) (by decide))).tr (frD_9 (by decide)))
        · refine r_st_3_4 (pc' := 42) dX4_readGuests_41 rfl rfl rfl ?_
          refine r_s (pc' := 43) dX4_readGuests_42 rfl rfl ?_
          refine r_c (pc' := 44) dX4_readGuests_43 rfl kc_iconst_m1 ?_
          refine r_cne_f (pc' := 47) (tgt := 49) dX4_readGuests_44 rfl (by decide) (by decide) ?_
          refine r_c (pc' := 48) dX4_readGuests_47 rfl kc_iconst_0 ?_
          refine r_reti dX4_readGuests_48 rfl (rfl) (Nat.le_of_ble_eq_true rfl) (Nat.le_of_ble_eq_true rfl) ?_
          have ev' := ev0
          rw [show zi s.2 - 1 + 1 = zi s.2 by omega] at ev'
          have hp : pG (cde c m) s = (false, s.1 + 1 + 1, s.2) := by unfold pG; rw [ey]; simp only []; rw [ev']
          rw [rG, if_pos e0, hp, if_neg (fun h => absurd (show false = true from h) (by decide))] at ha
          exact hQ0 _ (fun q => by rw [← ha] at q; cases q.1) (by rw [← ha]; exact ((hT.at hlt).at hlt1)) ((h2.tr (frD_T hT.1)).tr (frD_T hT.1))
      · refine r_st_2_4 (pc' := 24) dX4_readGuests_23 rfl rfl rfl ?_
        refine r_s (pc' := 25) dX4_readGuests_24 rfl rfl ?_
        refine r_c (pc' := 26) dX4_readGuests_25 rfl kc_iconst_m1 ?_
        refine r_cne_f (pc' := 29) (tgt := 31) dX4_readGuests_26 rfl (by decide) (by decide) ?_
        refine r_c (pc' := 30) dX4_readGuests_29 rfl kc_iconst_0 ?_
        refine r_reti dX4_readGuests_30 rfl (rfl) (Nat.le_of_ble_eq_true rfl) (Nat.le_of_ble_eq_true rfl) ?_
        have hp : pG (cde c m) s = (false, s.1 + 1, s.2) := by unfold pG; rw [ey]
        rw [rG, if_pos e0, hp, if_neg (fun h => absurd (show false = true from h) (by decide))] at ha
        exact hQ0 _ (fun q => by rw [← ha] at q; cases q.1) (by rw [← ha]; exact (hT.at hlt)) (h2.tr (frD_T hT.1))
    · refine r_ifeq_t (tgt := 82) dX4_readGuests_15 (by decide) (by decide) ?_
      have ha2 : (true, s) = a := by rw [← ha, rG, if_neg e0]
      refine r_s (pc' := 83) dX4_readGuests_82 rfl rfl ?_
      refine h_gi (pc' := 86) dX4_readGuests_83 rfl fX4_75 (hl_ rfl) rfl ?_
      refine r_top (hR.2.2.1) ?_
      refine r_ifle (pc' := 89) (tgt := 93) dX4_readGuests_86 rfl (by decide) (fun c86 => ?_) (fun c86 => ?_)
      · refine r_c (pc' := 94) dX4_readGuests_93 rfl kc_iconst_0 ?_
        refine r_reti dX4_readGuests_94 rfl (rfl) (Nat.le_of_ble_eq_true rfl) (Nat.le_of_ble_eq_true rfl) ?_
        exact hQ0 I (fun q => by rw [← ha2] at q; exact absurd c86 (nI_nle q.2 (by omega))) (by rw [← ha2]; exact hT) h2
      · refine r_c (pc' := 90) dX4_readGuests_89 rfl kc_iconst_1 ?_
        refine r_goto (tgt := 94) dX4_readGuests_90 (by decide) ?_
        refine r_reti dX4_readGuests_94 rfl (rfl) (Nat.le_of_ble_eq_true rfl) (Nat.le_of_ble_eq_true rfl) ?_
        exact hQ1 I ⟨by rw [← ha2], by rw [← ha2]; exact (Nat.pos_of_ne_zero (fun h => c86 (by rw [h]; decide)))⟩ (by rw [← ha2]; exact hT) (by rw [← ha2]; exact hR) (by rw [← ha2]; exact hw) (by rw [← ha2]; exact hi2) (by rw [← ha2]; exact hn1) h2

set_option maxHeartbeats 4000000 in
set_option maxRecDepth 100000 in
theorem ct_X4_readInns {d : Nat} {x : hX} {I : Nat → Nat → Int32} {T k f m : Nat} {c : Nat → Int32} {s : zpS} (hT : isT x I T k f m s.1) (hc : isC I k f m c) (hR : isRd I 9 s.2) (hw : wfP s.2) (hi0 : zi s.2 = 0) (hn0 : zn s.2 = 0) (hg0 : zg s.2 = 0) : ci (d + 3) MX4_readInns [.ref T, .ref 9] (hp x I) (fun r h' => (∃ I', h' = hp x I' ∧ r = 1 ∧ ((rI (cde c m) 6 s).1 = true ∧ 2 ≤ zi (rI (cde c m) 6 s).2.2) ∧ isT x I' T k f m (rI (cde c m) 6 s).2.1 ∧ isRd I' 9 (rI (cde c m) 6 s).2.2 ∧ wfP (rI (cde c m) 6 s).2.2 ∧ zn (rI (cde c m) 6 s).2.2 = 0 ∧ zg (rI (cde c m) 6 s).2.2 = 0 ∧ frD T I I') ∨ (∃ I', h' = hp x I' ∧ r = 0 ∧ ¬ ((rI (cde c m) 6 s).1 = true ∧ 2 ≤ zi (rI (cde c m) 6 s).2.2) ∧ isT x I' T k f m (rI (cde c m) 6 s).2.1 ∧ frD T I I')) := by
  refine c_in (L := [.ref T, .ref 9, .null, .null]) rfl rfl ?_
  exact lp_X4_readInns hc (a := (rI (cde c m) 6 s)) (fun I1 p1 p2 p3 p4 q1 q2 p5 => ⟨_, rfl, Or.inl ⟨I1, rfl, rfl, p1, p2, p3, p4, q1, q2, p5⟩⟩) (fun I1 p1 p2 p3 => ⟨_, rfl, Or.inr ⟨I1, rfl, rfl, p1, p2, p3⟩⟩) 6 s _ _ I (by omega) rfl hT hR hw hn0 hg0 frD_0

set_option maxHeartbeats 4000000 in
set_option maxRecDepth 100000 in
theorem ct_X4_readNights {d : Nat} {x : hX} {I : Nat → Nat → Int32} {T k f m : Nat} {c : Nat → Int32} {s : zpS} (hT : isT x I T k f m s.1) (hc : isC I k f m c) (hR : isRd I 9 s.2) (hw : wfP s.2) (hn0 : zn s.2 = 0) (hi2 : 2 ≤ zi s.2) (hg0 : zg s.2 = 0) : ci (d + 3) MX4_readNights [.ref T, .ref 9] (hp x I) (fun r h' => (∃ I', h' = hp x I' ∧ r = 1 ∧ ((rN (cde c m) 8 s).1 = true ∧ 0 < zn (rN (cde c m) 8 s).2.2) ∧ isT x I' T k f m (rN (cde c m) 8 s).2.1 ∧ isRd I' 9 (rN (cde c m) 8 s).2.2 ∧ wfP (rN (cde c m) 8 s).2.2 ∧ 2 ≤ zi (rN (cde c m) 8 s).2.2 ∧ zg (rN (cde c m) 8 s).2.2 = 0 ∧ frD T I I') ∨ (∃ I', h' = hp x I' ∧ r = 0 ∧ ¬ ((rN (cde c m) 8 s).1 = true ∧ 0 < zn (rN (cde c m) 8 s).2.2) ∧ isT x I' T k f m (rN (cde c m) 8 s).2.1 ∧ frD T I I')) := by
  refine c_in (L := [.ref T, .ref 9, .null, .null]) rfl rfl ?_
  exact lp_X4_readNights hc (a := (rN (cde c m) 8 s)) (fun I1 p1 p2 p3 p4 q1 q2 p5 => ⟨_, rfl, Or.inl ⟨I1, rfl, rfl, p1, p2, p3, p4, q1, q2, p5⟩⟩) (fun I1 p1 p2 p3 => ⟨_, rfl, Or.inr ⟨I1, rfl, rfl, p1, p2, p3⟩⟩) 8 s _ _ I (by omega) rfl hT hR hw hi2 hg0 frD_0

set_option maxHeartbeats 4000000 in
set_option maxRecDepth 100000 in
theorem ct_X4_readGuests {d : Nat} {x : hX} {I : Nat → Nat → Int32} {T k f m : Nat} {c : Nat → Int32} {s : zpS} (hT : isT x I T k f m s.1) (hc : isC I k f m c) (hR : isRd I 9 s.2) (hw : wfP s.2) (hg0 : zg s.2 = 0) (hi2 : 2 ≤ zi s.2) (hn1 : 0 < zn s.2) : ci (d + 3) MX4_readGuests [.ref T, .ref 9] (hp x I) (fun r h' => (∃ I', h' = hp x I' ∧ r = 1 ∧ ((rG (cde c m) 8 s).1 = true ∧ 0 < zg (rG (cde c m) 8 s).2.2) ∧ isT x I' T k f m (rG (cde c m) 8 s).2.1 ∧ isRd I' 9 (rG (cde c m) 8 s).2.2 ∧ wfP (rG (cde c m) 8 s).2.2 ∧ 2 ≤ zi (rG (cde c m) 8 s).2.2 ∧ 0 < zn (rG (cde c m) 8 s).2.2 ∧ frD T I I') ∨ (∃ I', h' = hp x I' ∧ r = 0 ∧ ¬ ((rG (cde c m) 8 s).1 = true ∧ 0 < zg (rG (cde c m) 8 s).2.2) ∧ isT x I' T k f m (rG (cde c m) 8 s).2.1 ∧ frD T I I')) := by
  refine c_in (L := [.ref T, .ref 9, .null, .null]) rfl rfl ?_
  exact lp_X4_readGuests hc (a := (rG (cde c m) 8 s)) (fun I1 p1 p2 p3 p4 q1 q2 p5 => ⟨_, rfl, Or.inl ⟨I1, rfl, rfl, p1, p2, p3, p4, q1, q2, p5⟩⟩) (fun I1 p1 p2 p3 => ⟨_, rfl, Or.inr ⟨I1, rfl, rfl, p1, p2, p3⟩⟩) 8 s _ _ I (by omega) rfl hT hR hw hi2 hn1 frD_0

theorem isRd_cl {I : Nat → Nat → Int32} : isRd (sm_up (sm_up (sm_up (sm_up (sm_up I 9 0 0) 9 3 0) 9 6 0) 9 9 0) 9 10 (-9)) 9 zr0 :=
  ⟨by rw [up_n (by decide), up_n (by decide), up_n (by decide), up_n (by decide), up_s]; rfl, by rw [up_n (by decide), up_n (by decide), up_n (by decide), up_s]; rfl, by rw [up_n (by decide), up_n (by decide), up_s]; rfl, by rw [up_n (by decide), up_s]; rfl, fun k hk => absurd hk (Nat.not_lt_zero _), fun k hk => absurd hk (Nat.not_lt_zero _), fun k hk => absurd hk (Nat.not_lt_zero _), fun k hk => absurd hk (Nat.not_lt_zero _), fun k hk => absurd hk (Nat.not_lt_zero _), fun k hk => absurd hk (Nat.not_lt_zero _)⟩
/-- all but the draft and the text, whose roomier is nobody -/
def frE (T : Nat) (I I' : Nat → Nat → Int32) : Prop := (∀ t, (t < 9 ∨ 15 < t) → t ≠ T → I' t = I t) ∧ I' 9 10 = -9
theorem frE.tr {T : Nat} {I J K : Nat → Nat → Int32} (h : frE T I J) (h2 : frD T J K) : frE T I K := ⟨fun t a b => by rw [h2.1 t a b, h.1 t a b], by rw [h2.2, h.2]⟩

theorem prs_a {e : Nat → Int32} {n : Nat} (h : ¬ e 0 = 105) : prs e n = (false, 0, zr0) := by unfold prs; rw [if_neg h]
theorem prs_b {e : Nat → Int32} {n : Nat} (h : e 0 = 105) (h1 : ¬ ((rI e 6 (1, zr0)).1 = true ∧ 2 ≤ zi (rI e 6 (1, zr0)).2.2)) : prs e n = (false, (rI e 6 (1, zr0)).2) := by unfold prs; rw [if_pos h, pr1, if_neg h1]
theorem prs_c {e : Nat → Int32} {n : Nat} (h : e 0 = 105) (h1 : (rI e 6 (1, zr0)).1 = true ∧ 2 ≤ zi (rI e 6 (1, zr0)).2.2) (h2 : ¬ e (rI e 6 (1, zr0)).2.1 = 59) : prs e n = (false, (rI e 6 (1, zr0)).2) := by unfold prs; rw [if_pos h, pr1, if_pos h1, if_neg h2]
theorem prs_d {e : Nat → Int32} {n : Nat} (h : e 0 = 105) (h1 : (rI e 6 (1, zr0)).1 = true ∧ 2 ≤ zi (rI e 6 (1, zr0)).2.2) (h2 : e (rI e 6 (1, zr0)).2.1 = 59) : prs e n = pr2 e n (rN e 8 ((rI e 6 (1, zr0)).2.1 + 1, (rI e 6 (1, zr0)).2.2)) := by unfold prs; rw [if_pos h, pr1, if_pos h1, if_pos h2]

set_option maxHeartbeats 4000000 in
set_option maxRecDepth 100000 in
theorem ct_X4_readInto {d : Nat} {x : hX} {I : Nat → Nat → Int32} {T k f m : Nat} {c : Nat → Int32} (hT : isT x I T k f m 0) (hc : isC I k f m c) : ci (d + 4) MX4_readInto [.ref T, .ref 9] (hp x I) (fun r h' => (∃ I', h' = hp x I' ∧ r = 1 ∧ (prs (cde c m) m).1 = true ∧ isT x I' T k f m (prs (cde c m) m).2.1 ∧ isRd I' 9 (prs (cde c m) m).2.2 ∧ wfR (prs (cde c m) m).2.2 ∧ frE T I I') ∨ (∃ I', h' = hp x I' ∧ r = 0 ∧ (prs (cde c m) m).1 = false ∧ isT x I' T k f m (prs (cde c m) m).2.1 ∧ frE T I I')) := by
  have hfm := hT.2.2.2.1
  refine c_in (L := [.ref T, .ref 9]) rfl rfl ?_
  refine r_s (pc' := 1) dX4_readInto_0 rfl rfl ?_
  refine r_Vv0 (pc' := 4) dX4_readInto_1 rfl lX4_30 (hl_ rfl) rfl rfl rfl rfl (Nat.le_of_ble_eq_true rfl) (Nat.le_of_ble_eq_true rfl) (ct_X2_clear) (fun h1 e1 => ?_)
  obtain rfl := e1
  have hT0 : isT x (sm_up (sm_up (sm_up (sm_up (sm_up I 9 0 0) 9 3 0) 9 6 0) 9 9 0) 9 10 (-9)) T k f m 0 := ((((hT.up (by decide)).up (by decide)).up (by decide)).up (by decide)).up (by decide)
  have hf0 : frE T I (sm_up (sm_up (sm_up (sm_up (sm_up I 9 0 0) 9 3 0) 9 6 0) 9 9 0) 9 10 (-9)) := ⟨fun t a b => by rw [up_o (by omega), up_o (by omega), up_o (by omega), up_o (by omega), up_o (by omega)], up_s⟩
  have hc1 : isC (sm_up (sm_up (sm_up (sm_up (sm_up I 9 0 0) 9 3 0) 9 6 0) 9 9 0) 9 10 (-9)) k f m c := fun j hj => by rw [hf0.1 _ (by have := hT.2.2.1; omega) (by have := hT.2.2.1; have := hT.1; omega)]; exact hc j hj
  refine r_s (pc' := 5) dX4_readInto_4 rfl rfl ?_
  refine r_c (pc' := 7) dX4_readInto_5 rfl kc_bipush_105 ?_
  refine r_Vi1 (pc' := 10) dX4_readInto_7 rfl lX4_35 hT.2.1 hT.K rfl rfl rfl (Nat.le_of_ble_eq_true rfl) (Nat.le_of_ble_eq_true rfl) (ct_X4_takes hT0 hc1 (ch := 105) (by decide)) (fun r7 h7 e7 => ?_)
  rcases e7 with ⟨rfl, rfl, hlt0, hA⟩ | ⟨rfl, rfl, hA⟩
  · refine r_ifeq_f (pc' := 13) (tgt := 61) dX4_readInto_10 rfl (by decide) (by decide) ?_
    have hc2 : isC (sm_up (sm_up (sm_up (sm_up (sm_up (sm_up I 9 0 0) 9 3 0) 9 6 0) 9 9 0) 9 10 (-9)) T 3 (nI (0 + 1))) k f m c := hc1.fr (frD_T hT.1) hT.2.2.1 hT.1
    refine r_s (pc' := 14) dX4_readInto_13 rfl rfl ?_
    refine r_s (pc' := 15) dX4_readInto_14 rfl rfl ?_
    refine r_Vi1 (pc' := 18) dX4_readInto_15 rfl lX4_39 hT.2.1 hT.K rfl rfl rfl (Nat.le_of_ble_eq_true rfl) (Nat.le_of_ble_eq_true rfl) (ct_X4_readInns (s := (1, zr0)) (hT0.at hlt0) hc2 (isRd.T hT0 isRd_cl) wfP_0 rfl rfl rfl) (fun r15 h15 e15 => ?_)
    rcases e15 with ⟨I2, rfl, rfl, h15, t15, r15, w15, n15, g15, f15⟩ | ⟨I2, rfl, rfl, h15, t15, f15⟩
    · refine r_ifeq_f (pc' := 21) (tgt := 61) dX4_readInto_18 rfl (by decide) (by decide) ?_
      refine r_s (pc' := 22) dX4_readInto_21 rfl rfl ?_
      refine r_c (pc' := 24) dX4_readInto_22 rfl kc_bipush_59 ?_
      refine r_Vi1 (pc' := 27) dX4_readInto_24 rfl lX4_35 hT.2.1 hT.K rfl rfl rfl (Nat.le_of_ble_eq_true rfl) (Nat.le_of_ble_eq_true rfl) (ct_X4_takes t15 (hc2.fr f15 hT.2.2.1 hT.1) (ch := 59) (by decide)) (fun r24 h24 e24 => ?_)
      rcases e24 with ⟨rfl, rfl, hlt1, hS⟩ | ⟨rfl, rfl, hS⟩
      · refine r_ifeq_f (pc' := 30) (tgt := 61) dX4_readInto_27 rfl (by decide) (by decide) ?_
        have f1 := ((hf0.tr (frD_T (v := nI (0 + 1)) hT.1)).tr f15).tr (frD_T (v := nI ((rI (cde c m) 6 (1, zr0)).2.1 + 1)) (j := 3) hT.1)
        refine r_s (pc' := 31) dX4_readInto_30 rfl rfl ?_
        refine r_s (pc' := 32) dX4_readInto_31 rfl rfl ?_
        refine r_Vi1 (pc' := 35) dX4_readInto_32 rfl lX4_43 hT.2.1 hT.K rfl rfl rfl (Nat.le_of_ble_eq_true rfl) (Nat.le_of_ble_eq_true rfl) (ct_X4_readNights (s := ((rI (cde c m) 6 (1, zr0)).2.1 + 1, (rI (cde c m) 6 (1, zr0)).2.2)) (t15.at hlt1) ((hc2.fr f15 hT.2.2.1 hT.1).fr (frD_T hT.1) hT.2.2.1 hT.1) (isRd.T t15 r15) w15 n15 h15.2 g15) (fun r32 h32 e32 => ?_)
        rcases e32 with ⟨I3, rfl, rfl, h32, t32, r32, w32, i32, g32, f32⟩ | ⟨I3, rfl, rfl, h32, t32, f32⟩
        · refine r_ifeq_f (pc' := 38) (tgt := 61) dX4_readInto_35 rfl (by decide) (by decide) ?_
          refine r_s (pc' := 39) dX4_readInto_38 rfl rfl ?_
          refine r_s (pc' := 40) dX4_readInto_39 rfl rfl ?_
          refine r_Vi1 (pc' := 43) dX4_readInto_40 rfl lX4_46 hT.2.1 hT.K rfl rfl rfl (Nat.le_of_ble_eq_true rfl) (Nat.le_of_ble_eq_true rfl) (ct_X4_readGuests (s := (rN (cde c m) 8 ((rI (cde c m) 6 (1, zr0)).2.1 + 1, (rI (cde c m) 6 (1, zr0)).2.2)).2) t32 (((hc2.fr f15 hT.2.2.1 hT.1).fr (frD_T hT.1) hT.2.2.1 hT.1).fr f32 hT.2.2.1 hT.1) r32 w32 g32 i32 h32.2) (fun r40 h40 e40 => ?_)
          rcases e40 with ⟨I4, rfl, rfl, h40, t40, r40, w40, i40, n40, f40⟩ | ⟨I4, rfl, rfl, h40, t40, f40⟩
          · refine r_ifeq_f (pc' := 46) (tgt := 61) dX4_readInto_43 rfl (by decide) (by decide) ?_
            have hb40 := t40.2.2.2.2.1
            refine r_s (pc' := 47) dX4_readInto_46 rfl rfl ?_
            refine h_gi (pc' := 50) dX4_readInto_47 rfl fX4_9 hT.2.1 hT.K ?_
            refine r_top (t40.2.2.2.2.2.2.2.2) ?_
            refine r_s (pc' := 51) dX4_readInto_50 rfl rfl ?_
            refine h_gi (pc' := 54) dX4_readInto_51 rfl fX4_27 hT.2.1 hT.K ?_
            refine r_top (t40.2.2.2.2.2.2.2.1) ?_
            refine r_cne (pc' := 57) (tgt := 61) dX4_readInto_54 rfl (by decide) (fun c54 => ?_) (fun c54 => ?_)
            · refine r_c (pc' := 62) dX4_readInto_61 rfl kc_iconst_0 ?_
              refine r_reti dX4_readInto_62 rfl (rfl) (Nat.le_of_ble_eq_true rfl) (Nat.le_of_ble_eq_true rfl) ⟨_, rfl, ?_⟩
              have e0 : (prs (cde c m) m) = (false, (rG (cde c m) 8 (rN (cde c m) 8 ((rI (cde c m) 6 (1, zr0)).2.1 + 1, (rI (cde c m) 6 (1, zr0)).2.2)).2).2) := by rw [prs_d hA h15 hS, pr2, if_pos h32, pr3, if_neg (fun q => c54 (by rw [q.2]))]
              exact Or.inr ⟨I4, rfl, rfl, by rw [e0], by rw [e0]; exact t40, ((f1.tr f32).tr f40)⟩
            · refine r_c (pc' := 58) dX4_readInto_57 rfl kc_iconst_1 ?_
              refine r_goto (tgt := 62) dX4_readInto_58 (by decide) ?_
              refine r_reti dX4_readInto_62 rfl (rfl) (Nat.le_of_ble_eq_true rfl) (Nat.le_of_ble_eq_true rfl) ⟨_, rfl, ?_⟩
              have e0 : (prs (cde c m) m) = (true, (rG (cde c m) 8 (rN (cde c m) 8 ((rI (cde c m) 6 (1, zr0)).2.1 + 1, (rI (cde c m) 6 (1, zr0)).2.2)).2).2) := by rw [prs_d hA h15 hS, pr2, if_pos h32, pr3, if_pos ⟨h40, (nI_eq (by omega) (by omega)).mp c54⟩]
              exact Or.inl ⟨I4, rfl, rfl, by rw [e0], by rw [e0]; exact t40, by rw [e0]; exact r40, by rw [e0]; exact w40.R i40 n40 h40.2, ((f1.tr f32).tr f40)⟩
          · refine r_ifeq_t (tgt := 61) dX4_readInto_43 (by decide) (by decide) ?_
            refine r_c (pc' := 62) dX4_readInto_61 rfl kc_iconst_0 ?_
            refine r_reti dX4_readInto_62 rfl (rfl) (Nat.le_of_ble_eq_true rfl) (Nat.le_of_ble_eq_true rfl) ⟨_, rfl, ?_⟩
            have e0 : (prs (cde c m) m) = (false, (rG (cde c m) 8 (rN (cde c m) 8 ((rI (cde c m) 6 (1, zr0)).2.1 + 1, (rI (cde c m) 6 (1, zr0)).2.2)).2).2) := by rw [prs_d hA h15 hS, pr2, if_pos h32, pr3, if_neg (fun q => h40 q.1)]
            exact Or.inr ⟨I4, rfl, rfl, by rw [e0], by rw [e0]; exact t40, ((f1.tr f32).tr f40)⟩
        · refine r_ifeq_t (tgt := 61) dX4_readInto_35 (by decide) (by decide) ?_
          refine r_c (pc' := 62) dX4_readInto_61 rfl kc_iconst_0 ?_
          refine r_reti dX4_readInto_62 rfl (rfl) (Nat.le_of_ble_eq_true rfl) (Nat.le_of_ble_eq_true rfl) ⟨_, rfl, ?_⟩
          have e0 : (prs (cde c m) m) = (false, (rN (cde c m) 8 ((rI (cde c m) 6 (1, zr0)).2.1 + 1, (rI (cde c m) 6 (1, zr0)).2.2)).2) := by rw [prs_d hA h15 hS, pr2, if_neg h32]
          exact Or.inr ⟨I3, rfl, rfl, by rw [e0], by rw [e0]; exact t32, (f1.tr f32)⟩
      · refine r_ifeq_t (tgt := 61) dX4_readInto_27 (by decide) (by decide) ?_
        refine r_c (pc' := 62) dX4_readInto_61 rfl kc_iconst_0 ?_
        refine r_reti dX4_readInto_62 rfl (rfl) (Nat.le_of_ble_eq_true rfl) (Nat.le_of_ble_eq_true rfl) ⟨_, rfl, ?_⟩
        have e0 : (prs (cde c m) m) = (false, (rI (cde c m) 6 (1, zr0)).2) := by exact prs_c hA h15 hS
        exact Or.inr ⟨I2, rfl, rfl, by rw [e0], by rw [e0]; exact t15, ((hf0.tr (frD_T hT.1)).tr f15)⟩
    · refine r_ifeq_t (tgt := 61) dX4_readInto_18 (by decide) (by decide) ?_
      refine r_c (pc' := 62) dX4_readInto_61 rfl kc_iconst_0 ?_
      refine r_reti dX4_readInto_62 rfl (rfl) (Nat.le_of_ble_eq_true rfl) (Nat.le_of_ble_eq_true rfl) ⟨_, rfl, ?_⟩
      have e0 : (prs (cde c m) m) = (false, (rI (cde c m) 6 (1, zr0)).2) := by exact prs_b hA h15
      exact Or.inr ⟨I2, rfl, rfl, by rw [e0], by rw [e0]; exact t15, ((hf0.tr (frD_T hT.1)).tr f15)⟩
  · refine r_ifeq_t (tgt := 61) dX4_readInto_10 (by decide) (by decide) ?_
    refine r_c (pc' := 62) dX4_readInto_61 rfl kc_iconst_0 ?_
    refine r_reti dX4_readInto_62 rfl (rfl) (Nat.le_of_ble_eq_true rfl) (Nat.le_of_ble_eq_true rfl) ⟨_, rfl, ?_⟩
    have e0 : (prs (cde c m) m) = (false, 0, zr0) := by exact prs_a hA
    exact Or.inr ⟨_, rfl, rfl, by rw [e0], by rw [e0]; exact hT0, hf0⟩
