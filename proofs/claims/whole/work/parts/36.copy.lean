set_option maxHeartbeats 4000000 in
set_option maxRecDepth 100000 in
theorem pc_copy {d : Nat} {x : hX} {I : Nat → Nat → Int32} {ρ : zR} {δ : zD} {η : zH} {ft tr : Int32} {k i oo j n : Int32} (hC : CI I (ρ, δ, η, ft, tr)) (hW : WF (ρ, δ, η, ft, tr)) : ci (d + 2) MX6_copy [.ref 0, .int k, .int i, .int oo, .int j, .int n] (hp x I) (fun r h' => ∃ I', h' = hp x I' ∧ (∀ q, 80 ≤ q → I' q = I q) ∧ CI I' (ρ, δ, (sp_copy η k i oo j n).1, (sp_copy η k i oo j n).2.1, tr) ∧ r = (sp_copy η k i oo j n).2.2) := by
  have hR : isRd I 2 ρ := hC.R
  have hw : wfR ρ := hW.1
  have b6 : zi ρ ≤ 6 := hw.1
  have b8 : zn ρ ≤ 8 := hw.2.1
  have bg : zg ρ ≤ 8 := hw.2.2.1
  have d8 : δ.1 ≤ 8 := hW.2.1.1
  have hSh : ∀ k, k < 4 → shC I k (η k) := hC.S
  have hWh : ∀ k, k < 4 → okO (η k) := fun k hk a n f e => hW.2.2 k hk a n f e
  have hS1 : CI (sm_up I 0 6 0) (ρ, δ, η, 0, tr) := hC.upf 0
  have hSh1 : ∀ k, k < 4 → shC (sm_up I 0 6 0) k (η k) := hS1.S
  refine c_in (L := [.ref 0, .int k, .int i, .int oo, .int j, .int n, .null, .null]) rfl rfl ?_
  refine r_s (pc' := 1) dX6_copy_0 rfl rfl ?_
  refine r_c (pc' := 2) dX6_copy_1 rfl kc_iconst_0 ?_
  refine h_pi (pc' := 5) dX6_copy_2 rfl fX6_52 rfl (hl_ rfl) rfl ?_
  refine r_s (pc' := 6) dX6_copy_5 rfl rfl ?_
  refine r_Si1 (pc' := 9) dX6_copy_6 rfl lX6_60 rfl (Nat.le_of_ble_eq_true rfl) (Nat.le_of_ble_eq_true rfl) (ct_X6_isSheet) (fun r6 h6 e6 => ?_)
  rcases e6 with ⟨rfl, rfl, j6, hj6, rfl⟩ | ⟨rfl, rfl, hn6⟩
  · refine r_ifeq_f (pc' := 12) (tgt := 19) dX6_copy_9 rfl (by decide) (by decide) ?_
    refine r_s (pc' := 13) dX6_copy_12 rfl rfl ?_
    refine r_Si1 (pc' := 16) dX6_copy_13 rfl lX6_60 rfl (Nat.le_of_ble_eq_true rfl) (Nat.le_of_ble_eq_true rfl) (ct_X6_isSheet) (fun r13 h13 e13 => ?_)
    rcases e13 with ⟨rfl, rfl, j13, hj13, rfl⟩ | ⟨rfl, rfl, hn13⟩
    · refine r_ifne_t (tgt := 21) dX6_copy_16 (by decide) (by decide) ?_
      refine r_s (pc' := 22) dX6_copy_21 rfl rfl ?_
      refine r_gr (pc' := 25) dX6_copy_22 rfl fX6_13 (hl_ rfl) rfl rfl ?_
      refine r_s (pc' := 26) dX6_copy_25 rfl rfl ?_
      refine r_sald (pc' := 27) dX6_copy_26 rfl (hl_ rfl) rfl (vp_in_nI (by omega) (by decide)) (by rw [nI_clamp (by omega : j6 < 2 ^ 31)]; exact isS_r (x := x) (by omega)) ?_
      refine r_st_6_8 (pc' := 29) dX6_copy_27 rfl rfl rfl ?_
      refine r_s (pc' := 30) dX6_copy_29 rfl rfl ?_
      refine r_gr (pc' := 33) dX6_copy_30 rfl fX6_13 (hl_ rfl) rfl rfl ?_
      refine r_s (pc' := 34) dX6_copy_33 rfl rfl ?_
      refine r_sald (pc' := 35) dX6_copy_34 rfl (hl_ rfl) rfl (vp_in_nI (by omega) (by decide)) (by rw [nI_clamp (by omega : j13 < 2 ^ 31)]; exact isS_r (x := x) (by omega)) ?_
      refine r_st_7_8 (pc' := 37) dX6_copy_35 rfl rfl rfl ?_
      refine r_s (pc' := 39) dX6_copy_37 rfl rfl ?_
      refine r_Vi0 (pc' := 42) dX6_copy_39 rfl lX6_205 ((isS_of (by omega : j6 < 4))).l ((isS_of (by omega : j6 < 4))).K rfl rfl rfl (Nat.le_of_ble_eq_true rfl) (Nat.le_of_ble_eq_true rfl) (ct_X3_isThere (isS_of hj6) (hSh1 _ hj6).Q (hWh _ hj6)) (fun r39 h39 e39 => ?_)
      rcases e39 with ⟨rfl, rfl, a, nk, f, ho⟩ | ⟨rfl, rfl, ho⟩
      · refine r_ifeq_f (pc' := 45) (tgt := 53) dX6_copy_42 rfl (by decide) (by decide) ?_
        refine r_s (pc' := 47) dX6_copy_45 rfl rfl ?_
        refine r_Vi0 (pc' := 50) dX6_copy_47 rfl lX6_205 ((isS_of (by omega : j13 < 4))).l ((isS_of (by omega : j13 < 4))).K rfl rfl rfl (Nat.le_of_ble_eq_true rfl) (Nat.le_of_ble_eq_true rfl) (ct_X3_isThere (isS_of hj13) (hSh1 _ hj13).Q (hWh _ hj13)) (fun r47 h47 e47 => ?_)
        rcases e47 with ⟨rfl, rfl, b, no, g, ho2⟩ | ⟨rfl, rfl, ho2⟩
        · refine r_ifne_t (tgt := 59) dX6_copy_50 (by decide) (by decide) ?_
          have hs := (hSh1 _ hj6).Q
          rw [ho] at hs
          have hbd := hWh _ hj6 a nk f ho
          have hs2 := (hSh1 _ hj13).Q
          rw [ho2] at hs2
          have hbd2 := hWh _ hj13 b no g ho2
          refine r_s (pc' := 61) dX6_copy_59 rfl rfl ?_
          refine h_gi (pc' := 64) dX6_copy_61 rfl fX6_221 ((isS_of (by omega : j6 < 4))).l ((isS_of (by omega : j6 < 4))).K ?_
          refine r_top (hs.1) ?_
          refine r_s (pc' := 66) dX6_copy_64 rfl rfl ?_
          refine h_gi (pc' := 69) dX6_copy_66 rfl fX6_221 ((isS_of (by omega : j13 < 4))).l ((isS_of (by omega : j13 < 4))).K ?_
          refine r_top (hs2.1) ?_
          refine r_ceq (pc' := 72) (tgt := 78) dX6_copy_69 rfl (by decide) (fun c69 => ?_) (fun c69 => ?_)
          · refine r_s (pc' := 80) dX6_copy_78 rfl rfl ?_
            refine r_s (pc' := 81) dX6_copy_80 rfl rfl ?_
            refine r_s (pc' := 83) dX6_copy_81 rfl rfl ?_
            refine r_Vi2 (pc' := 86) dX6_copy_83 rfl lX6_224 ((isS_of (by omega : j6 < 4))).l ((isS_of (by omega : j6 < 4))).K rfl rfl rfl (Nat.le_of_ble_eq_true rfl) (Nat.le_of_ble_eq_true rfl) (ct_X3_hasCells (isS_of hj6) hs.2.1 (by omega)) (fun r83 h83 e83 => ?_)
            rcases e83 with ⟨rfl, rfl, i1, m1, him, rfl, rfl⟩ | ⟨rfl, rfl, hn83⟩
            · refine r_ifeq_f (pc' := 89) (tgt := 101) dX6_copy_86 rfl (by decide) (by decide) ?_
              refine r_s (pc' := 91) dX6_copy_89 rfl rfl ?_
              refine r_s (pc' := 93) dX6_copy_91 rfl rfl ?_
              refine r_s (pc' := 95) dX6_copy_93 rfl rfl ?_
              refine r_Vi2 (pc' := 98) dX6_copy_95 rfl lX6_224 ((isS_of (by omega : j13 < 4))).l ((isS_of (by omega : j13 < 4))).K rfl rfl rfl (Nat.le_of_ble_eq_true rfl) (Nat.le_of_ble_eq_true rfl) (ct_X3_hasCells (isS_of hj13) hs2.2.1 (by omega)) (fun r95 h95 e95 => ?_)
              rcases e95 with ⟨rfl, rfl, i2, m2, him2, rfl, hm12⟩ | ⟨rfl, rfl, hn95⟩
              · refine r_ifne_t (tgt := 107) dX6_copy_98 (by decide) (by decide) ?_
                have hm2 : m1 = m2 := (nI_eq (by omega) (by omega)).mp hm12
                refine r_s (pc' := 109) dX6_copy_107 rfl rfl ?_
                refine r_gr (pc' := 112) dX6_copy_109 rfl fX6_218 ((isS_of (by omega : j6 < 4))).l ((isS_of (by omega : j6 < 4))).K ((isS_of (by omega : j6 < 4))).r0 ?_
                refine r_s (pc' := 113) dX6_copy_112 rfl rfl ?_
                refine r_s (pc' := 115) dX6_copy_113 rfl rfl ?_
                refine r_gr (pc' := 118) dX6_copy_115 rfl fX6_218 ((isS_of (by omega : j13 < 4))).l ((isS_of (by omega : j13 < 4))).K ((isS_of (by omega : j13 < 4))).r0 ?_
                refine r_s (pc' := 120) dX6_copy_118 rfl rfl ?_
                refine r_s (pc' := 122) dX6_copy_120 rfl rfl ?_
                refine h_cpy (pc' := 125) dX6_copy_122 rfl jX6_228 ((isS_of (by omega : j6 < 4))).la ((isS_of (by omega : j13 < 4))).la ((isS_of (by omega : j6 < 4))).k1 ((isS_of (by omega : j13 < 4))).k1 (nI_pos (by omega)) (nI_pos (by omega)) (nI_pos (by omega)) (nI_clamp (by omega)) (nI_clamp (by omega)) (nI_clamp (by omega)) (by omega) (by omega) rfl ?_
                refine r_s (pc' := 127) dX6_copy_125 rfl rfl ?_
                refine r_reti dX6_copy_127 rfl (rfl) (Nat.le_of_ble_eq_true rfl) (Nat.le_of_ble_eq_true rfl) ⟨_, rfl, ?_⟩
                have hab : a = b := (nI_eq (by omega) (by omega)).mp c69
                have e2 : sp_copy η (nI j6) (nI i1) (nI j13) (nI i2) (nI m1) = (hup η j13 (some (b, no, va_cpy f g i1 i2 m1)), 0, nI m1) := by
                  rw [sp_copy, if_pos ⟨ok_in hj6 (by decide), ok_in hj13 (by decide)⟩, ix_nI (by omega), ix_nI (by omega), ho, ho2]
                  show (if a = b then (if _ ∧ _ then _ else _) else _) = _
                  rw [if_pos hab, if_pos ⟨rowok_t him (by omega), rowok_t (by omega) (by omega)⟩, ix_nI (by omega), ix_nI (by omega), ix_nI (by omega)]
                rw [e2]
                refine ⟨_, rfl, fun q hq => by rw [if_neg (by omega), up_o (by omega)], hS1.putH j13 hj13 ⟨by dsimp only; rw [if_neg (by omega)]; exact hs2.1, by dsimp only; rw [if_neg (by omega)]; exact hs2.2.1, fun z hz => ?_⟩ (fun r h1 h2 => if_neg h2), rfl⟩
                dsimp only
                rw [if_pos rfl]
                by_cases hin : i2 ≤ z ∧ z < i2 + m1
                · rw [pk_cpy_in hin.1 hin.2, pk_cpy_in hin.1 hin.2]; exact hs.2.2 _ (by omega)
                · rw [pk_cpy_out (by omega), pk_cpy_out (by omega)]; exact hs2.2.2 z hz
              · refine r_ifne_f (pc' := 101) (tgt := 107) dX6_copy_98 rfl (by decide) (by decide) ?_
                refine r_s (pc' := 102) dX6_copy_101 rfl rfl ?_
                refine r_c (pc' := 103) dX6_copy_102 rfl kc_iconst_3 ?_
                refine r_Vi1 (pc' := 106) dX6_copy_103 rfl lX6_71 (hl_ rfl) rfl rfl rfl rfl (Nat.le_of_ble_eq_true rfl) (Nat.le_of_ble_eq_true rfl) (ct_X6_faulted (f := 3)) (fun r103 h103 e103 => ?_)
                obtain ⟨rfl, rfl⟩ := e103
                refine r_reti dX6_copy_106 rfl (rfl) (Nat.le_of_ble_eq_true rfl) (Nat.le_of_ble_eq_true rfl) ⟨_, rfl, ?_⟩
                have hab : a = b := (nI_eq (by omega) (by omega)).mp c69
                have e2 : sp_copy η (nI j6) (nI i1) (nI j13) j (nI m1) = (η, 3, -13) := by
                  rw [sp_copy, if_pos ⟨ok_in hj6 (by decide), ok_in hj13 (by decide)⟩, ix_nI (by omega), ix_nI (by omega), ho, ho2]
                  show (if a = b then (if _ ∧ _ then _ else _) else _) = _
                  rw [if_pos hab, if_neg]
                  intro ⟨u, v⟩
                  rw [hn95] at v; cases v
                rw [e2]
                exact ⟨_, rfl, fun q hq => by rw [up_o (by omega), up_o (by omega)], (hC.upf 0).upf 3, rfl⟩
            · refine r_ifeq_t (tgt := 101) dX6_copy_86 (by decide) (by decide) ?_
              refine r_s (pc' := 102) dX6_copy_101 rfl rfl ?_
              refine r_c (pc' := 103) dX6_copy_102 rfl kc_iconst_3 ?_
              refine r_Vi1 (pc' := 106) dX6_copy_103 rfl lX6_71 (hl_ rfl) rfl rfl rfl rfl (Nat.le_of_ble_eq_true rfl) (Nat.le_of_ble_eq_true rfl) (ct_X6_faulted (f := 3)) (fun r103 h103 e103 => ?_)
              obtain ⟨rfl, rfl⟩ := e103
              refine r_reti dX6_copy_106 rfl (rfl) (Nat.le_of_ble_eq_true rfl) (Nat.le_of_ble_eq_true rfl) ⟨_, rfl, ?_⟩
              have hab : a = b := (nI_eq (by omega) (by omega)).mp c69
              have e2 : sp_copy η (nI j6) i (nI j13) j n = (η, 3, -13) := by
                rw [sp_copy, if_pos ⟨ok_in hj6 (by decide), ok_in hj13 (by decide)⟩, ix_nI (by omega), ix_nI (by omega), ho, ho2]
                show (if a = b then (if _ ∧ _ then _ else _) else _) = _
                rw [if_pos hab, if_neg]
                intro ⟨u, v⟩
                rw [hn83] at u; cases u
              rw [e2]
              exact ⟨_, rfl, fun q hq => by rw [up_o (by omega), up_o (by omega)], (hC.upf 0).upf 3, rfl⟩
          · refine r_s (pc' := 73) dX6_copy_72 rfl rfl ?_
            refine r_c (pc' := 74) dX6_copy_73 rfl kc_iconst_2 ?_
            refine r_Vi1 (pc' := 77) dX6_copy_74 rfl lX6_71 (hl_ rfl) rfl rfl rfl rfl (Nat.le_of_ble_eq_true rfl) (Nat.le_of_ble_eq_true rfl) (ct_X6_faulted (f := 2)) (fun r74 h74 e74 => ?_)
            obtain ⟨rfl, rfl⟩ := e74
            refine r_reti dX6_copy_77 rfl (rfl) (Nat.le_of_ble_eq_true rfl) (Nat.le_of_ble_eq_true rfl) ⟨_, rfl, ?_⟩
            have e2 : sp_copy η (nI j6) i (nI j13) j n = (η, 2, -12) := by rw [sp_copy, if_pos ⟨ok_in hj6 (by decide), ok_in hj13 (by decide)⟩, ix_nI (by omega), ix_nI (by omega), ho, ho2]; show (if a = b then _ else _) = _; rw [if_neg (fun e => c69 (by rw [e]))]
            rw [e2]
            exact ⟨_, rfl, fun q hq => by rw [up_o (by omega), up_o (by omega)], (hC.upf 0).upf 2, rfl⟩
        · refine r_ifne_f (pc' := 53) (tgt := 59) dX6_copy_50 rfl (by decide) (by decide) ?_
          refine r_s (pc' := 54) dX6_copy_53 rfl rfl ?_
          refine r_c (pc' := 55) dX6_copy_54 rfl kc_iconst_1 ?_
          refine r_Vi1 (pc' := 58) dX6_copy_55 rfl lX6_71 (hl_ rfl) rfl rfl rfl rfl (Nat.le_of_ble_eq_true rfl) (Nat.le_of_ble_eq_true rfl) (ct_X6_faulted (f := 1)) (fun r55 h55 e55 => ?_)
          obtain ⟨rfl, rfl⟩ := e55
          refine r_reti dX6_copy_58 rfl (rfl) (Nat.le_of_ble_eq_true rfl) (Nat.le_of_ble_eq_true rfl) ⟨_, rfl, ?_⟩
          have e2 : sp_copy η (nI j6) i (nI j13) j n = (η, 1, -11) := by rw [sp_copy, if_pos ⟨ok_in hj6 (by decide), ok_in hj13 (by decide)⟩, ix_nI (by omega), ix_nI (by omega), ho, ho2]
          rw [e2]
          exact ⟨_, rfl, fun q hq => by rw [up_o (by omega), up_o (by omega)], (hC.upf 0).upf 1, rfl⟩
      · refine r_ifeq_t (tgt := 53) dX6_copy_42 (by decide) (by decide) ?_
        refine r_s (pc' := 54) dX6_copy_53 rfl rfl ?_
        refine r_c (pc' := 55) dX6_copy_54 rfl kc_iconst_1 ?_
        refine r_Vi1 (pc' := 58) dX6_copy_55 rfl lX6_71 (hl_ rfl) rfl rfl rfl rfl (Nat.le_of_ble_eq_true rfl) (Nat.le_of_ble_eq_true rfl) (ct_X6_faulted (f := 1)) (fun r55 h55 e55 => ?_)
        obtain ⟨rfl, rfl⟩ := e55
        refine r_reti dX6_copy_58 rfl (rfl) (Nat.le_of_ble_eq_true rfl) (Nat.le_of_ble_eq_true rfl) ⟨_, rfl, ?_⟩
        have e2 : sp_copy η (nI j6) i (nI j13) j n = (η, 1, -11) := by rw [sp_copy, if_pos ⟨ok_in hj6 (by decide), ok_in hj13 (by decide)⟩, ix_nI (by omega), ix_nI (by omega), ho]
        rw [e2]
        exact ⟨_, rfl, fun q hq => by rw [up_o (by omega), up_o (by omega)], (hC.upf 0).upf 1, rfl⟩
    · refine r_ifne_f (pc' := 19) (tgt := 21) dX6_copy_16 rfl (by decide) (by decide) ?_
      refine r_c (pc' := 20) dX6_copy_19 rfl kc_iconst_m1 ?_
      refine r_reti dX6_copy_20 rfl (rfl) (Nat.le_of_ble_eq_true rfl) (Nat.le_of_ble_eq_true rfl) ⟨_, rfl, ?_⟩
      have e2 : sp_copy η (nI j6) i oo j n = (η, 0, -1) := by
        rw [sp_copy, if_neg]
        intro ⟨a, b⟩
        rw [ok_no (by decide) hn13] at b; cases b
      rw [e2]
      exact ⟨_, rfl, fun q hq => up_o (by omega), hC.upf 0, rfl⟩
  · refine r_ifeq_t (tgt := 19) dX6_copy_9 (by decide) (by decide) ?_
    refine r_c (pc' := 20) dX6_copy_19 rfl kc_iconst_m1 ?_
    refine r_reti dX6_copy_20 rfl (rfl) (Nat.le_of_ble_eq_true rfl) (Nat.le_of_ble_eq_true rfl) ⟨_, rfl, ?_⟩
    have e2 : sp_copy η k i oo j n = (η, 0, -1) := by
      rw [sp_copy, if_neg]
      intro ⟨a, b⟩
      rw [ok_no (by decide) hn6] at a; cases a
    rw [e2]
    exact ⟨_, rfl, fun q hq => up_o (by omega), hC.upf 0, rfl⟩
