def frN (q : Nat) (I0 I : Nat → Nat → Int32) : Prop := ∀ t, (t < q ∨ q + 21 < t) → I t = I0 t
/-- the family M is together in an inn -/
def tog (A : Nat → Nat) (G z M : Nat) : Prop := ∃ k, k < z ∧ mA A G k &&& M = M
def togB (A : Nat → Nat) (G z M : Nat) : Bool := decide (∃ k, k < z ∧ mA A G k &&& M = M)
def fmI (p : Nat → Bool) (n : Nat) : Int32 := if fa_first p n < n then nI (fa_first p n) else -9
set_option maxRecDepth 100000 in
theorem bitI : ∀ t, t < 256 → ∀ g, g < 8 → (nI t >>> (nI g &&& 31)) &&& 1 = (if t.testBit g then 1 else 0) := by decide +kernel
theorem first_at {p : Nat → Bool} {n m : Nat} (hm : m < n) (hp : p m = true) (hb : ∀ j, j < m → p j = false) : fa_first p n = m := by
  have hle := fa_first_le p n
  rcases Nat.lt_trichotomy (fa_first p n) m with h | h | h
  · have := fa_first_yes p n (by omega)
    rw [hb _ h] at this; cases this
  · exact h
  · have := fa_first_no p n m h
    rw [hp] at this; cases this
theorem first_none {p : Nat → Bool} {n : Nat} (hb : ∀ j, j < n → p j = false) : ¬ fa_first p n < n := fun h => by
  have := fa_first_yes p n h
  rw [hb _ h] at this; cases this
theorem fmI_at {p : Nat → Bool} {n m : Nat} (hm : m < n) (hp : p m = true) (hb : ∀ j, j < m → p j = false) : fmI p n = nI m := by
  unfold fmI; rw [first_at hm hp hb, if_pos hm]
theorem fmI_no {p : Nat → Bool} {n : Nat} (hb : ∀ j, j < n → p j = false) : fmI p n = -9 := by
  unfold fmI; rw [if_neg (first_none hb)]

set_option maxHeartbeats 4000000 in
set_option maxRecDepth 100000 in
theorem lp3_X0_begin {call : sm_K} {Q : sm_Q} {x : hX} {q r : Nat} {ρ : zR} {I0 : Nat → Nat → Int32} (hq : isN q r) (hR : isRd I0 r ρ) (hw : wfR ρ) (hQ : ∀ I, (∀ k, k ≤ zi ρ → I (q + 12 + 0) k = nI (mA (zh ρ) (zg ρ) k)) → (∀ t, t ≠ q + 12 + 0 → I t = I0 t) → Q none (hp x I)) : ∀ (m i : Nat) (I : Nat → Nat → Int32), i + m = zg ρ → (∀ k, k ≤ zi ρ → I (q + 12 + 0) k = nI (mA (zh ρ) i k)) → (∀ t, t ≠ q + 12 + 0 → I t = I0 t) → sm_wp call 0 0 MX0_begin Q 73 [.ref q, .int (nI i)] [] (hp x I) 0 0 := by
  have b6 : zi ρ ≤ 6 := hw.1
  have bg : zg ρ ≤ 8 := hw.2.2.1
  intro m
  induction m with
  | zero =>
    intro i I hi h1 h2
    have hi : i = zg ρ := by omega
    refine r_s (pc' := 74) dX0_begin_73 rfl rfl ?_
    refine r_s (pc' := 75) dX0_begin_74 rfl rfl ?_
    refine r_gr (pc' := 78) dX0_begin_75 rfl fX0_23 (hq).l (hq).K (hq).r0 ?_
    refine h_gi (pc' := 81) dX0_begin_78 rfl fX0_45 (hq.R).l (hq.R).K ?_
    refine r_top ((show _ = nI (zg ρ) by rw [h2 _ (by have := hq.sep; omega)]; exact hR.2.2.1)) ?_
    refine r_cge_t (tgt := 112) dX0_begin_81 (by decide) (by rw [hi]; exact Int32.le_refl _) ?_
    refine r_retv dX0_begin_112 rfl (Nat.le_of_ble_eq_true rfl) (Nat.le_of_ble_eq_true rfl) ?_
    rw [show i = zg ρ by omega] at h1
    exact hQ I h1 h2
  | succ m ih =>
    intro i I hi h1 h2
    refine r_s (pc' := 74) dX0_begin_73 rfl rfl ?_
    refine r_s (pc' := 75) dX0_begin_74 rfl rfl ?_
    refine r_gr (pc' := 78) dX0_begin_75 rfl fX0_23 (hq).l (hq).K (hq).r0 ?_
    refine h_gi (pc' := 81) dX0_begin_78 rfl fX0_45 (hq.R).l (hq.R).K ?_
    refine r_top ((show _ = nI (zg ρ) by rw [h2 _ (by have := hq.sep; omega)]; exact hR.2.2.1)) ?_
    refine r_cge_f (pc' := 84) (tgt := 112) dX0_begin_81 rfl (by decide) (nI_ge (by omega) (by omega)) ?_
    refine r_s (pc' := 85) dX0_begin_84 rfl rfl ?_
    refine r_gr (pc' := 88) dX0_begin_85 rfl fX0_16 (hq).l (hq).K (hq).r2 ?_
    refine r_c (pc' := 89) dX0_begin_88 rfl kc_iconst_0 ?_
    refine r_top (show (0 : Int32) = nI 0 from rfl) ?_
    refine r_gald (pc' := 90) dX0_begin_89 rfl ((hq).la 11 rfl) (hq).k11 (vp_in_nI (show 0 < 9 from (by decide)) (by decide)) (by rw [nI_clamp (show 0 < 2 ^ 31 from Nat.lt_trans (show 0 < 9 from (by decide)) (by decide))]; exact (hq).rg (show 0 < 9 from (by decide))) ?_
    refine r_s (pc' := 91) dX0_begin_90 rfl rfl ?_
    refine r_gr (pc' := 94) dX0_begin_91 rfl fX0_23 (hq).l (hq).K (hq).r0 ?_
    refine r_gr (pc' := 97) dX0_begin_94 rfl fX0_47 (hq.R).l (hq.R).K (hq.R).r8 ?_
    refine r_s (pc' := 98) dX0_begin_97 rfl rfl ?_
    refine h_ald (pc' := 99) dX0_begin_98 rfl ((hq.R).la 6 rfl) (hq.R).k6 (vp_in_nI (by omega) (by decide)) (nI_clamp (by omega)) ?_
    refine r_top ((show _ = nI (zh ρ i) by rw [h2 _ (by have := hq.sep; omega)]; exact hR.h i (by omega))) ?_
    have hhi := hw.hi (k := i) (by omega)
    refine r_s (pc' := 100) dX0_begin_99 rfl rfl ?_
    refine h_ald (pc' := 101) dX0_begin_100 rfl ((hq).lb 12 _ rfl (show 0 < 9 from (by decide))) ((hq).kg (show 0 < 9 from (by decide))) (vp_in_nI (by omega) (by decide)) (nI_clamp (by omega)) ?_
    refine r_top (h1 _ (by omega)) ?_
    refine r_c (pc' := 102) dX0_begin_101 rfl kc_iconst_1 ?_
    refine r_s (pc' := 103) dX0_begin_102 rfl rfl ?_
    refine r_s (pc' := 104) dX0_begin_103 rfl rfl ?_
    refine r_top (sh1 (by omega)) ?_
    refine r_s (pc' := 105) dX0_begin_104 rfl rfl ?_
    refine r_top (fa_or _ _) ?_
    refine h_ast (pc' := 106) dX0_begin_105 rfl ((hq).lb 12 _ rfl (show 0 < 9 from (by decide))) ((hq).kg (show 0 < 9 from (by decide))) (vp_in_nI (by omega) (by decide)) (nI_clamp (by omega)) ?_
    refine r_in_1_2 (pc' := 109) dX0_begin_106 rfl rfl (i1 _) ?_
    refine r_goto (tgt := 73) dX0_begin_109 (by decide) ?_
    refine ih (i + 1) _ (by omega) (fun k hk => ?_) (fun t ht => by rw [up_o ht]; exact h2 t ht)
    by_cases e : k = zh ρ i
    · subst e; rw [up_s]; exact congrArg nI (by unfold mA; rw [mk_or, if_pos (decide_eq_true rfl)])
    · rw [up_n e, h1 k hk]; exact congrArg nI (by unfold mA; rw [mk_or, if_neg (by simpa using Ne.symm e), Nat.or_zero])

set_option maxHeartbeats 4000000 in
set_option maxRecDepth 100000 in
theorem lp2_X0_begin {call : sm_K} {Q : sm_Q} {x : hX} {q r : Nat} {ρ : zR} {I0 : Nat → Nat → Int32} (hq : isN q r) (hR : isRd I0 r ρ) (hw : wfR ρ) (hQ : ∀ I, (∀ k, k ≤ zi ρ → I (q + 12 + 0) k = nI (mA (zh ρ) (zg ρ) k)) → (∀ t, t ≠ q + 12 + 0 → I t = I0 t) → Q none (hp x I)) : ∀ (m i : Nat) (I : Nat → Nat → Int32), i + m = zi ρ + 1 → (∀ k, k < i → I (q + 12 + 0) k = 0) → (∀ t, t ≠ q + 12 + 0 → I t = I0 t) → sm_wp call 0 0 MX0_begin Q 45 [.ref q, .int (nI i)] [] (hp x I) 0 0 := by
  have b6 : zi ρ ≤ 6 := hw.1
  have bg : zg ρ ≤ 8 := hw.2.2.1
  intro m
  induction m with
  | zero =>
    intro i I hi h1 h2
    have hi : i = zi ρ + 1 := by omega
    refine r_s (pc' := 46) dX0_begin_45 rfl rfl ?_
    refine r_s (pc' := 47) dX0_begin_46 rfl rfl ?_
    refine r_gr (pc' := 50) dX0_begin_47 rfl fX0_23 (hq).l (hq).K (hq).r0 ?_
    refine h_gi (pc' := 53) dX0_begin_50 rfl fX0_39 (hq.R).l (hq.R).K ?_
    refine r_top ((show _ = nI (zi ρ) by rw [h2 _ (by have := hq.sep; omega)]; exact hR.1)) ?_
    refine r_cgt_t (tgt := 71) dX0_begin_53 (by decide) (by rw [hi]; exact nI_lt (by omega) (by omega)) ?_
    refine r_c (pc' := 72) dX0_begin_71 rfl kc_iconst_0 ?_
    refine r_st_1_2 (pc' := 73) dX0_begin_72 rfl rfl rfl ?_
    exact lp3_X0_begin (I0 := I0) hq hR hw hQ (zg ρ) 0 _ (by omega) (fun k hk => h1 k (by omega)) h2
  | succ m ih =>
    intro i I hi h1 h2
    refine r_s (pc' := 46) dX0_begin_45 rfl rfl ?_
    refine r_s (pc' := 47) dX0_begin_46 rfl rfl ?_
    refine r_gr (pc' := 50) dX0_begin_47 rfl fX0_23 (hq).l (hq).K (hq).r0 ?_
    refine h_gi (pc' := 53) dX0_begin_50 rfl fX0_39 (hq.R).l (hq.R).K ?_
    refine r_top ((show _ = nI (zi ρ) by rw [h2 _ (by have := hq.sep; omega)]; exact hR.1)) ?_
    refine r_cgt_f (pc' := 56) (tgt := 71) dX0_begin_53 rfl (by decide) (nI_nlt (by omega) (by omega)) ?_
    refine r_s (pc' := 57) dX0_begin_56 rfl rfl ?_
    refine r_gr (pc' := 60) dX0_begin_57 rfl fX0_16 (hq).l (hq).K (hq).r2 ?_
    refine r_c (pc' := 61) dX0_begin_60 rfl kc_iconst_0 ?_
    refine r_top (show (0 : Int32) = nI 0 from rfl) ?_
    refine r_gald (pc' := 62) dX0_begin_61 rfl ((hq).la 11 rfl) (hq).k11 (vp_in_nI (show 0 < 9 from (by decide)) (by decide)) (by rw [nI_clamp (show 0 < 2 ^ 31 from Nat.lt_trans (show 0 < 9 from (by decide)) (by decide))]; exact (hq).rg (show 0 < 9 from (by decide))) ?_
    refine r_s (pc' := 63) dX0_begin_62 rfl rfl ?_
    refine r_c (pc' := 64) dX0_begin_63 rfl kc_iconst_0 ?_
    refine h_ast (pc' := 65) dX0_begin_64 rfl ((hq).lb 12 _ rfl (show 0 < 9 from (by decide))) ((hq).kg (show 0 < 9 from (by decide))) (vp_in_nI (by omega) (by decide)) (nI_clamp (by omega)) ?_
    refine r_in_1_2 (pc' := 68) dX0_begin_65 rfl rfl (i1 _) ?_
    refine r_goto (tgt := 45) dX0_begin_68 (by decide) ?_
    refine ih (i + 1) _ (by omega) (fun k hk => ?_) (fun t ht => by rw [up_o ht]; exact h2 t ht)
    by_cases e : k = i
    · subst e; exact up_s
    · rw [up_n e]; exact h1 k (by omega)

set_option maxHeartbeats 4000000 in
set_option maxRecDepth 100000 in
theorem lp1_X0_begin {call : sm_K} {Q : sm_Q} {x : hX} {q r : Nat} {ρ : zR} {I0 : Nat → Nat → Int32} (hq : isN q r) (hR : isRd I0 r ρ) (hw : wfR ρ) (hQ : ∀ I, (∀ k, k < zi ρ → I (q + 2 + 0) k = nI (zs ρ k)) → (∀ k, k ≤ zi ρ → I (q + 12 + 0) k = nI (mA (zh ρ) (zg ρ) k)) → (∀ t, t ≠ q + 2 + 0 → t ≠ q + 12 + 0 → I t = I0 t) → Q none (hp x I)) : ∀ (m i : Nat) (I : Nat → Nat → Int32), i + m = zi ρ → (∀ k, k < i → I (q + 2 + 0) k = nI (zs ρ k)) → (∀ t, t ≠ q + 2 + 0 → I t = I0 t) → sm_wp call 0 0 MX0_begin Q 9 [.ref q, .int (nI i)] [] (hp x I) 0 0 := by
  have b6 : zi ρ ≤ 6 := hw.1
  have bg : zg ρ ≤ 8 := hw.2.2.1
  intro m
  induction m with
  | zero =>
    intro i I hi h1 h2
    have hi : i = zi ρ := by omega
    refine r_s (pc' := 10) dX0_begin_9 rfl rfl ?_
    refine r_s (pc' := 11) dX0_begin_10 rfl rfl ?_
    refine r_gr (pc' := 14) dX0_begin_11 rfl fX0_23 (hq).l (hq).K (hq).r0 ?_
    refine h_gi (pc' := 17) dX0_begin_14 rfl fX0_39 (hq.R).l (hq.R).K ?_
    refine r_top ((show _ = nI (zi ρ) by rw [h2 _ (by have := hq.sep; omega)]; exact hR.1)) ?_
    refine r_cge_t (tgt := 43) dX0_begin_17 (by decide) (by rw [hi]; exact Int32.le_refl _) ?_
    refine r_c (pc' := 44) dX0_begin_43 rfl kc_iconst_0 ?_
    refine r_st_1_2 (pc' := 45) dX0_begin_44 rfl rfl rfl ?_
    exact lp2_X0_begin (I0 := I) hq (hR.same (fun t t1 t2 => h2 t (by have := hq.sep; omega))) hw (fun I2 a1 a2 => hQ I2 (fun k hk => by rw [a2 _ (by omega)]; exact h1 k (by omega)) a1 (fun t t1 t2 => by rw [a2 t t2, h2 t t1])) (zi ρ + 1) 0 _ (by omega) (fun k hk => absurd hk (by omega)) (fun t _ => rfl)
  | succ m ih =>
    intro i I hi h1 h2
    refine r_s (pc' := 10) dX0_begin_9 rfl rfl ?_
    refine r_s (pc' := 11) dX0_begin_10 rfl rfl ?_
    refine r_gr (pc' := 14) dX0_begin_11 rfl fX0_23 (hq).l (hq).K (hq).r0 ?_
    refine h_gi (pc' := 17) dX0_begin_14 rfl fX0_39 (hq.R).l (hq.R).K ?_
    refine r_top ((show _ = nI (zi ρ) by rw [h2 _ (by have := hq.sep; omega)]; exact hR.1)) ?_
    refine r_cge_f (pc' := 20) (tgt := 43) dX0_begin_17 rfl (by decide) (nI_ge (by omega) (by omega)) ?_
    refine r_s (pc' := 21) dX0_begin_20 rfl rfl ?_
    refine r_gr (pc' := 24) dX0_begin_21 rfl fX0_11 (hq).l (hq).K (hq).r1 ?_
    refine r_c (pc' := 25) dX0_begin_24 rfl kc_iconst_0 ?_
    refine r_top (show (0 : Int32) = nI 0 from rfl) ?_
    refine r_gald (pc' := 26) dX0_begin_25 rfl ((hq).la 1 rfl) (hq).k1 (vp_in_nI (show 0 < 9 from (by decide)) (by decide)) (by rw [nI_clamp (show 0 < 2 ^ 31 from Nat.lt_trans (show 0 < 9 from (by decide)) (by decide))]; exact (hq).ri (show 0 < 9 from (by decide))) ?_
    refine r_s (pc' := 27) dX0_begin_26 rfl rfl ?_
    refine r_s (pc' := 28) dX0_begin_27 rfl rfl ?_
    refine r_gr (pc' := 31) dX0_begin_28 rfl fX0_23 (hq).l (hq).K (hq).r0 ?_
    refine r_gr (pc' := 34) dX0_begin_31 rfl fX0_43 (hq.R).l (hq.R).K (hq.R).r2 ?_
    refine r_s (pc' := 35) dX0_begin_34 rfl rfl ?_
    refine h_ald (pc' := 36) dX0_begin_35 rfl ((hq.R).la 2 rfl) (hq.R).k2 (vp_in_nI (by omega) (by decide)) (nI_clamp (by omega)) ?_
    refine r_top ((show _ = nI (zs ρ i) by rw [h2 _ (by have := hq.sep; omega)]; exact hR.s i (by omega))) ?_
    refine h_ast (pc' := 37) dX0_begin_36 rfl ((hq).lb 2 _ rfl (show 0 < 9 from (by decide))) ((hq).ki (show 0 < 9 from (by decide))) (vp_in_nI (by omega) (by decide)) (nI_clamp (by omega)) ?_
    refine r_in_1_2 (pc' := 40) dX0_begin_37 rfl rfl (i1 _) ?_
    refine r_goto (tgt := 9) dX0_begin_40 (by decide) ?_
    refine ih (i + 1) _ (by omega) (fun k hk => ?_) (fun t ht => by rw [up_o ht]; exact h2 t ht)
    by_cases e : k = i
    · subst e; exact up_s
    · rw [up_n e]; exact h1 k (by omega)

set_option maxHeartbeats 4000000 in
set_option maxRecDepth 100000 in
theorem ct_X0_begin {d : Nat} {x : hX} {I : Nat → Nat → Int32} {q r : Nat} {ρ : zR} (hq : isN q r) (hR : isRd I r ρ) (hw : wfR ρ) : cv (d + 1) MX0_begin [.ref q] (hp x I) (fun h' => ∃ I', h' = hp x I' ∧ NR I' q ρ 0 (bgn ρ) ∧ frN q I I') := by
  refine c_in (L := [.ref q, .null]) rfl rfl ?_
  refine r_s (pc' := 1) dX0_begin_0 rfl rfl ?_
  refine r_gr (pc' := 4) dX0_begin_1 rfl fX0_19 (hq).l (hq).K (hq).r3 ?_
  refine r_c (pc' := 5) dX0_begin_4 rfl kc_iconst_0 ?_
  refine r_c (pc' := 6) dX0_begin_5 rfl kc_iconst_0 ?_
  refine h_ast (pc' := 7) dX0_begin_6 rfl ((hq).la 21 rfl) (hq).k21 (show vp_in (nI 0) 9 from vp_in_nI (by decide) (by decide)) (show (nI 0).toNatClampNeg = 0 from nI_clamp (by decide)) ?_
  refine r_c (pc' := 8) dX0_begin_7 rfl kc_iconst_0 ?_
  refine r_st_1_2 (pc' := 9) dX0_begin_8 rfl rfl rfl ?_
  exact lp1_X0_begin (I0 := sm_up I (q + 21) 0 0) hq (hR.same (fun t t1 t2 => up_o (by have := hq.sep; omega))) hw (fun I1 a1 a2 a3 => ⟨rfl, I1, rfl, ⟨a1, a2, by rw [a3 _ (by omega) (by omega), up_s]; rfl⟩, fun t ht => by rw [a3 t (by omega) (by omega), up_o (by omega)]⟩) (zi ρ) 0 _ (by omega) (fun k hk => absurd hk (by omega)) (fun t _ => rfl)

set_option maxHeartbeats 4000000 in
set_option maxRecDepth 100000 in
theorem lp_X0_run {d : Nat} {Q : sm_Q} {x : hX} {q r rm : Nat} {ρ : zR} {I0 : Nat → Nat → Int32} (hq : isN q r) (hR : isRd I0 r ρ) (hw : wfR ρ) (hz : 0 < zi ρ) (hrm : I0 r 10 = rmI rm) {n : Nat} (hn : n ≤ zn ρ) (hQ : ∀ I, (∀ j, j ≤ n → NR I q ρ j (sim ρ rm (zw ρ) j)) → frN q I0 I → Q none (hp x I)) : ∀ (m i : Nat) (I : Nat → Nat → Int32), i + m = n → (∀ j, j ≤ i → NR I q ρ j (sim ρ rm (zw ρ) j)) → frN q I0 I → sm_wp (sm_c (d + 3)) 0 0 MX0_run Q 6 [.ref q, .int (nI n), .int (nI i)] [] (hp x I) 0 0 := by
  have b8 : zn ρ ≤ 8 := hw.2.1
  intro m
  induction m with
  | zero =>
    intro i I hi h1 h2
    have hin : i = n := by omega
    subst hin
    refine r_s (pc' := 7) dX0_run_6 rfl rfl ?_
    refine r_s (pc' := 8) dX0_run_7 rfl rfl ?_
    refine r_cge_t (tgt := 31) dX0_run_8 (by decide) (Int32.le_refl _) ?_
    refine r_retv dX0_run_31 rfl (Nat.le_of_ble_eq_true rfl) (Nat.le_of_ble_eq_true rfl) ?_
    exact hQ I h1 h2
  | succ m ih =>
    intro i I hi h1 h2
    refine r_s (pc' := 7) dX0_run_6 rfl rfl ?_
    refine r_s (pc' := 8) dX0_run_7 rfl rfl ?_
    refine r_cge_f (pc' := 11) (tgt := 31) dX0_run_8 rfl (by decide) (nI_ge (by omega) (by omega)) ?_
    have hsep := hq.sep
    have hR1 : isRd I r ρ := hR.same (fun t t1 t2 => h2 t (by omega))
    have hrm1 : I r 10 = rmI rm := by rw [h2 r (by omega)]; exact hrm
    refine r_s (pc' := 12) dX0_run_11 rfl rfl ?_
    refine r_s (pc' := 13) dX0_run_12 rfl rfl ?_
    refine r_s (pc' := 14) dX0_run_13 rfl rfl ?_
    refine r_gr (pc' := 17) dX0_run_14 rfl fX0_23 (hq).l (hq).K (hq).r0 ?_
    refine r_gr (pc' := 20) dX0_run_17 rfl fX0_30 (hq.R).l (hq.R).K (hq.R).r4 ?_
    refine r_s (pc' := 21) dX0_run_20 rfl rfl ?_
    refine h_ald (pc' := 22) dX0_run_21 rfl ((hq.R).la 3 rfl) (hq.R).k3 (vp_in_nI (by omega) (by decide)) (nI_clamp (by omega)) ?_
    refine r_top (hR1.w i (by omega)) ?_
    refine r_Vv2 (pc' := 25) dX0_run_22 rfl lX0_35 (hq).l (hq).K rfl rfl rfl (Nat.le_of_ble_eq_true rfl) (Nat.le_of_ble_eq_true rfl) (ct_X0_pass (rm := rm) (ρ := ρ) (S := sim ρ rm (zw ρ) i) hq (by omega) (hw.w1 (by omega)) hR1 hw hrm1 (h1 _ (Nat.le_refl _)) (sim_ok hw hz rm (zw ρ) _)) (fun h22 e22 => ?_)
    obtain ⟨I1, rfl, a1, a2, a3⟩ := e22
    have g1 : ∀ j, j ≤ i + 1 → NR I1 q ρ j (sim ρ rm (zw ρ) j) := fun j hj => by
      by_cases e : j = i + 1
      · subst e; exact a1
      · exact (h1 j (by omega)).same (a2 _ (by omega) (by omega) (by omega)) (a2 _ (by omega) (by omega) (by omega)) (a3 j e)
    have g2 : frN q I0 I1 := fun t ht => by rw [a2 t (by omega) (by omega) (by omega)]; exact h2 t ht
    refine r_in_2_3 (pc' := 28) dX0_run_25 rfl rfl (i1 _) ?_
    refine r_goto (tgt := 6) dX0_run_28 (by decide) ?_
    exact ih (i + 1) I1 (by omega) g1 g2

set_option maxHeartbeats 4000000 in
set_option maxRecDepth 100000 in
theorem ct_X0_run {d : Nat} {x : hX} {I : Nat → Nat → Int32} {q r rm n : Nat} {ρ : zR} (hq : isN q r) (hR : isRd I r ρ) (hw : wfR ρ) (hz : 0 < zi ρ) (hrm : I r 10 = rmI rm) (hn : n ≤ zn ρ) : cv (d + 4) MX0_run [.ref q, .int (nI n)] (hp x I) (fun h' => ∃ I', h' = hp x I' ∧ (∀ j, j ≤ n → NR I' q ρ j (sim ρ rm (zw ρ) j)) ∧ frN q I I') := by
  refine c_in (L := [.ref q, .int (nI n), .null]) rfl rfl ?_
  refine r_s (pc' := 1) dX0_run_0 rfl rfl ?_
  refine r_Vv0 (pc' := 4) dX0_run_1 rfl lX0_27 (hq).l (hq).K rfl rfl rfl (Nat.le_of_ble_eq_true rfl) (Nat.le_of_ble_eq_true rfl) (ct_X0_begin hq hR hw) (fun h1 e1 => ?_)
  obtain ⟨I1, rfl, a1, a2⟩ := e1
  refine r_c (pc' := 5) dX0_run_4 rfl kc_iconst_0 ?_
  refine r_st_2_3 (pc' := 6) dX0_run_5 rfl rfl rfl ?_
  exact lp_X0_run (I0 := I) hq hR hw hz hrm hn (fun I2 g1 g2 => ⟨rfl, I2, rfl, g1, g2⟩) n 0 _ (by omega) (fun j hj => (show j = 0 by omega) ▸ a1) a2

set_option maxHeartbeats 4000000 in
set_option maxRecDepth 100000 in
theorem ct_X0_onRoad {d : Nat} {x : hX} {I : Nat → Nat → Int32} {q r n : Nat} {ρ : zR} {S : zN} (hq : isN q r) (hR : isRd I r ρ) (hw : wfR ρ) (hn : n ≤ 8) (hS : NR I q ρ n S) : ci (d + 1) MX0_onRoad [.ref q, .int (nI n)] (hp x I) (fun r h' => h' = hp x I ∧ r = nI (mA S.1 (zg ρ) (zi ρ))) := by
  have b6 : zi ρ ≤ 6 := hw.1
  refine c_in (L := [.ref q, .int (nI n)]) rfl rfl ?_
  refine r_s (pc' := 1) dX0_onRoad_0 rfl rfl ?_
  refine r_gr (pc' := 4) dX0_onRoad_1 rfl fX0_16 (hq).l (hq).K (hq).r2 ?_
  refine r_s (pc' := 5) dX0_onRoad_4 rfl rfl ?_
  refine r_gald (pc' := 6) dX0_onRoad_5 rfl ((hq).la 11 rfl) (hq).k11 (vp_in_nI (show n < 9 from (by omega)) (by decide)) (by rw [nI_clamp (show n < 2 ^ 31 from Nat.lt_trans (show n < 9 from (by omega)) (by decide))]; exact (hq).rg (show n < 9 from (by omega))) ?_
  refine r_s (pc' := 7) dX0_onRoad_6 rfl rfl ?_
  refine r_gr (pc' := 10) dX0_onRoad_7 rfl fX0_23 (hq).l (hq).K (hq).r0 ?_
  refine h_gi (pc' := 13) dX0_onRoad_10 rfl fX0_39 (hq.R).l (hq.R).K ?_
  refine r_top (hR.1) ?_
  refine h_ald (pc' := 14) dX0_onRoad_13 rfl ((hq).lb 12 _ rfl (show n < 9 from (by omega))) ((hq).kg (show n < 9 from (by omega))) (vp_in_nI (by omega) (by decide)) (nI_clamp (by omega)) ?_
  refine r_top (hS.2.1 _ (Nat.le_refl _)) ?_
  refine r_reti dX0_onRoad_14 rfl (rfl) (Nat.le_of_ble_eq_true rfl) (Nat.le_of_ble_eq_true rfl) ⟨_, rfl, ?_⟩
  exact ⟨rfl, rfl⟩

set_option maxHeartbeats 4000000 in
set_option maxRecDepth 100000 in
theorem ct_X0_isAt {d : Nat} {x : hX} {I : Nat → Nat → Int32} {q r n p g t : Nat} (hq : isN q r) (hn : n ≤ 8) (hp7 : p < 7) (hg : g < 8) (ht : t < 256) (hm : I (q + 12 + n) p = nI t) : ci (d + 1) MX0_isAt [.ref q, .int (nI g), .int (nI p), .int (nI n)] (hp x I) (fun r h' => (h' = hp x I ∧ r = 1 ∧ t.testBit g = true) ∨ (h' = hp x I ∧ r = 0 ∧ t.testBit g = false)) := by
  refine c_in (L := [.ref q, .int (nI g), .int (nI p), .int (nI n)]) rfl rfl ?_
  refine r_s (pc' := 1) dX0_isAt_0 rfl rfl ?_
  refine r_gr (pc' := 4) dX0_isAt_1 rfl fX0_16 (hq).l (hq).K (hq).r2 ?_
  refine r_s (pc' := 5) dX0_isAt_4 rfl rfl ?_
  refine r_gald (pc' := 6) dX0_isAt_5 rfl ((hq).la 11 rfl) (hq).k11 (vp_in_nI (show n < 9 from (by omega)) (by decide)) (by rw [nI_clamp (show n < 2 ^ 31 from Nat.lt_trans (show n < 9 from (by omega)) (by decide))]; exact (hq).rg (show n < 9 from (by omega))) ?_
  refine r_s (pc' := 7) dX0_isAt_6 rfl rfl ?_
  refine h_ald (pc' := 8) dX0_isAt_7 rfl ((hq).lb 12 _ rfl (show n < 9 from (by omega))) ((hq).kg (show n < 9 from (by omega))) (vp_in_nI hp7 (by decide)) (nI_clamp (by omega)) ?_
  refine r_top (hm) ?_
  refine r_s (pc' := 9) dX0_isAt_8 rfl rfl ?_
  refine r_s (pc' := 10) dX0_isAt_9 rfl rfl ?_
  refine r_c (pc' := 11) dX0_isAt_10 rfl kc_iconst_1 ?_
  refine r_s (pc' := 12) dX0_isAt_11 rfl rfl ?_
  refine r_c (pc' := 13) dX0_isAt_12 rfl kc_iconst_1 ?_
  refine r_cne (pc' := 16) (tgt := 20) dX0_isAt_13 rfl (by decide) (fun c13 => ?_) (fun c13 => ?_)
  · refine r_c (pc' := 21) dX0_isAt_20 rfl kc_iconst_0 ?_
    refine r_reti dX0_isAt_21 rfl (rfl) (Nat.le_of_ble_eq_true rfl) (Nat.le_of_ble_eq_true rfl) ⟨_, rfl, ?_⟩
    exact Or.inr ⟨rfl, rfl, by have := c13; rw [bitI t ht g hg] at this; by_cases h : t.testBit g = true; (rw [if_pos h] at this; exact absurd rfl this); exact Bool.eq_false_iff.mpr h⟩
  · refine r_c (pc' := 17) dX0_isAt_16 rfl kc_iconst_1 ?_
    refine r_goto (tgt := 21) dX0_isAt_17 (by decide) ?_
    refine r_reti dX0_isAt_21 rfl (rfl) (Nat.le_of_ble_eq_true rfl) (Nat.le_of_ble_eq_true rfl) ⟨_, rfl, ?_⟩
    exact Or.inl ⟨rfl, rfl, by have := c13; rw [bitI t ht g hg] at this; by_cases h : t.testBit g = true; exact h; rw [if_neg h] at this; exact absurd this (by decide)⟩

set_option maxHeartbeats 4000000 in
set_option maxRecDepth 100000 in
theorem lp_X0_placeOf {d : Nat} {Q : sm_Q} {x : hX} {I : Nat → Nat → Int32} {q r n g : Nat} {ρ : zR} {S : zN} (hq : isN q r) (hR : isRd I r ρ) (hw : wfR ρ) (hn : n ≤ 8) (hS : NR I q ρ n S) (hg : g < zg ρ) (hle : S.1 g ≤ zi ρ) (hQ : Q (some (.int (nI (S.1 g)))) (hp x I)) : ∀ (m i : Nat), i + m = S.1 g → sm_wp (sm_c (d + 1)) 0 0 MX0_placeOf Q 2 [.ref q, .int (nI g), .int (nI n), .int (nI i)] [] (hp x I) 0 0 := by
  have b6 : zi ρ ≤ 6 := hw.1
  have bg : zg ρ ≤ 8 := hw.2.2.1
  intro m
  induction m with
  | zero =>
    intro i hi
    have hi : i = S.1 g := by omega
    refine r_s (pc' := 3) dX0_placeOf_2 rfl rfl ?_
    refine r_s (pc' := 4) dX0_placeOf_3 rfl rfl ?_
    refine r_gr (pc' := 7) dX0_placeOf_4 rfl fX0_23 (hq).l (hq).K (hq).r0 ?_
    refine h_gi (pc' := 10) dX0_placeOf_7 rfl fX0_39 (hq.R).l (hq.R).K ?_
    refine r_top (hR.1) ?_
    refine r_cge (pc' := 13) (tgt := 29) dX0_placeOf_10 rfl (by decide) (fun c10 => ?_) (fun c10 => ?_)
    · refine r_s (pc' := 30) dX0_placeOf_29 rfl rfl ?_
      refine r_reti dX0_placeOf_30 rfl (rfl) (Nat.le_of_ble_eq_true rfl) (Nat.le_of_ble_eq_true rfl) ?_
      rw [hi]; exact hQ
    · refine r_s (pc' := 14) dX0_placeOf_13 rfl rfl ?_
      refine r_s (pc' := 15) dX0_placeOf_14 rfl rfl ?_
      refine r_s (pc' := 16) dX0_placeOf_15 rfl rfl ?_
      refine r_s (pc' := 17) dX0_placeOf_16 rfl rfl ?_
      refine r_Vi3 (pc' := 20) dX0_placeOf_17 rfl lX0_84 (hq).l (hq).K rfl rfl rfl (Nat.le_of_ble_eq_true rfl) (Nat.le_of_ble_eq_true rfl) (ct_X0_isAt hq hn (by omega) (by omega) (mA_lt bg) (hS.2.1 _ (by omega))) (fun r17 h17 e17 => ?_)
      rcases e17 with ⟨rfl, rfl, hb17⟩ | ⟨rfl, rfl, hb17⟩
      · refine r_ifne_t (tgt := 29) dX0_placeOf_20 (by decide) (by decide) ?_
        refine r_s (pc' := 30) dX0_placeOf_29 rfl rfl ?_
        refine r_reti dX0_placeOf_30 rfl (rfl) (Nat.le_of_ble_eq_true rfl) (Nat.le_of_ble_eq_true rfl) ?_
        rw [hi]; exact hQ
      · refine r_ifne_f (pc' := 23) (tgt := 29) dX0_placeOf_20 rfl (by decide) (by decide) ?_
        exact absurd hb17 (by rw [mA_bit, decide_eq_true hg, decide_eq_true hi.symm]; decide)
  | succ m ih =>
    intro i hi
    refine r_s (pc' := 3) dX0_placeOf_2 rfl rfl ?_
    refine r_s (pc' := 4) dX0_placeOf_3 rfl rfl ?_
    refine r_gr (pc' := 7) dX0_placeOf_4 rfl fX0_23 (hq).l (hq).K (hq).r0 ?_
    refine h_gi (pc' := 10) dX0_placeOf_7 rfl fX0_39 (hq.R).l (hq.R).K ?_
    refine r_top (hR.1) ?_
    refine r_cge_f (pc' := 13) (tgt := 29) dX0_placeOf_10 rfl (by decide) (nI_ge (by omega) (by omega)) ?_
    refine r_s (pc' := 14) dX0_placeOf_13 rfl rfl ?_
    refine r_s (pc' := 15) dX0_placeOf_14 rfl rfl ?_
    refine r_s (pc' := 16) dX0_placeOf_15 rfl rfl ?_
    refine r_s (pc' := 17) dX0_placeOf_16 rfl rfl ?_
    refine r_Vi3 (pc' := 20) dX0_placeOf_17 rfl lX0_84 (hq).l (hq).K rfl rfl rfl (Nat.le_of_ble_eq_true rfl) (Nat.le_of_ble_eq_true rfl) (ct_X0_isAt hq hn (by omega) (by omega) (mA_lt bg) (hS.2.1 _ (by omega))) (fun r17 h17 e17 => ?_)
    rcases e17 with ⟨rfl, rfl, hb17⟩ | ⟨rfl, rfl, hb17⟩
    · refine r_ifne_t (tgt := 29) dX0_placeOf_20 (by decide) (by decide) ?_
      exact absurd hb17 (by rw [mA_bit, decide_eq_false (show ¬ S.1 g = i by omega), Bool.and_false]; decide)
    · refine r_ifne_f (pc' := 23) (tgt := 29) dX0_placeOf_20 rfl (by decide) (by decide) ?_
      refine r_in_3_4 (pc' := 26) dX0_placeOf_23 rfl rfl (i1 _) ?_
      refine r_goto (tgt := 2) dX0_placeOf_26 (by decide) ?_
      exact ih (i + 1) (by omega)

set_option maxHeartbeats 4000000 in
set_option maxRecDepth 100000 in
theorem ct_X0_placeOf {d : Nat} {x : hX} {I : Nat → Nat → Int32} {q r n g : Nat} {ρ : zR} {S : zN} (hq : isN q r) (hR : isRd I r ρ) (hw : wfR ρ) (hn : n ≤ 8) (hS : NR I q ρ n S) (hg : g < zg ρ) (hle : S.1 g ≤ zi ρ) : ci (d + 2) MX0_placeOf [.ref q, .int (nI g), .int (nI n)] (hp x I) (fun r h' => h' = hp x I ∧ r = nI (S.1 g)) := by
  refine c_in (L := [.ref q, .int (nI g), .int (nI n), .null]) rfl rfl ?_
  refine r_c (pc' := 1) dX0_placeOf_0 rfl kc_iconst_0 ?_
  refine r_st_3_4 (pc' := 2) dX0_placeOf_1 rfl rfl rfl ?_
  exact lp_X0_placeOf hq hR hw hn hS hg hle ⟨_, rfl, rfl, rfl⟩ (S.1 g) 0 (by omega)

set_option maxHeartbeats 4000000 in
set_option maxRecDepth 100000 in
theorem lp_X0_isMeeting {call : sm_K} {Q : sm_Q} {x : hX} {I : Nat → Nat → Int32} {q r n M : Nat} {ρ : zR} {S : zN} (hq : isN q r) (hR : isRd I r ρ) (hw : wfR ρ) (hn : n ≤ 8) (hS : NR I q ρ n S) (hM : M < 256) (hQ1 : togB S.1 (zg ρ) (zi ρ) M = true → Q (some (.int 1)) (hp x I)) (hQ0 : togB S.1 (zg ρ) (zi ρ) M = false → Q (some (.int 0)) (hp x I)) : ∀ (m i : Nat), i + m = zi ρ → (∀ k, k < i → ¬ mA S.1 (zg ρ) k &&& M = M) → sm_wp call 0 0 MX0_isMeeting Q 2 [.ref q, .int (nI M), .int (nI n), .int (nI i)] [] (hp x I) 0 0 := by
  have b6 : zi ρ ≤ 6 := hw.1
  have bg : zg ρ ≤ 8 := hw.2.2.1
  intro m
  induction m with
  | zero =>
    intro i hi h1
    have hi : i = zi ρ := by omega
    refine r_s (pc' := 3) dX0_isMeeting_2 rfl rfl ?_
    refine r_s (pc' := 4) dX0_isMeeting_3 rfl rfl ?_
    refine r_gr (pc' := 7) dX0_isMeeting_4 rfl fX0_23 (hq).l (hq).K (hq).r0 ?_
    refine h_gi (pc' := 10) dX0_isMeeting_7 rfl fX0_39 (hq.R).l (hq.R).K ?_
    refine r_top (hR.1) ?_
    refine r_cge_t (tgt := 35) dX0_isMeeting_10 (by decide) (by rw [hi]; exact Int32.le_refl _) ?_
    refine r_c (pc' := 36) dX0_isMeeting_35 rfl kc_iconst_0 ?_
    refine r_reti dX0_isMeeting_36 rfl (rfl) (Nat.le_of_ble_eq_true rfl) (Nat.le_of_ble_eq_true rfl) ?_
    exact hQ0 (decide_eq_false (fun ⟨k, hk, e⟩ => h1 k (by omega) e))
  | succ m ih =>
    intro i hi h1
    refine r_s (pc' := 3) dX0_isMeeting_2 rfl rfl ?_
    refine r_s (pc' := 4) dX0_isMeeting_3 rfl rfl ?_
    refine r_gr (pc' := 7) dX0_isMeeting_4 rfl fX0_23 (hq).l (hq).K (hq).r0 ?_
    refine h_gi (pc' := 10) dX0_isMeeting_7 rfl fX0_39 (hq.R).l (hq.R).K ?_
    refine r_top (hR.1) ?_
    refine r_cge_f (pc' := 13) (tgt := 35) dX0_isMeeting_10 rfl (by decide) (nI_ge (by omega) (by omega)) ?_
    refine r_s (pc' := 14) dX0_isMeeting_13 rfl rfl ?_
    refine r_gr (pc' := 17) dX0_isMeeting_14 rfl fX0_16 (hq).l (hq).K (hq).r2 ?_
    refine r_s (pc' := 18) dX0_isMeeting_17 rfl rfl ?_
    refine r_gald (pc' := 19) dX0_isMeeting_18 rfl ((hq).la 11 rfl) (hq).k11 (vp_in_nI (show n < 9 from (by omega)) (by decide)) (by rw [nI_clamp (show n < 2 ^ 31 from Nat.lt_trans (show n < 9 from (by omega)) (by decide))]; exact (hq).rg (show n < 9 from (by omega))) ?_
    refine r_s (pc' := 20) dX0_isMeeting_19 rfl rfl ?_
    refine h_ald (pc' := 21) dX0_isMeeting_20 rfl ((hq).lb 12 _ rfl (show n < 9 from (by omega))) ((hq).kg (show n < 9 from (by omega))) (vp_in_nI (by omega) (by decide)) (nI_clamp (by omega)) ?_
    refine r_top (hS.2.1 _ (by omega)) ?_
    refine r_s (pc' := 22) dX0_isMeeting_21 rfl rfl ?_
    refine r_s (pc' := 23) dX0_isMeeting_22 rfl rfl ?_
    refine r_top (fa_and _ _) ?_
    refine r_s (pc' := 24) dX0_isMeeting_23 rfl rfl ?_
    refine r_cne (pc' := 27) (tgt := 29) dX0_isMeeting_24 rfl (by decide) (fun c24 => ?_) (fun c24 => ?_)
    · refine r_in_3_4 (pc' := 32) dX0_isMeeting_29 rfl rfl (i1 _) ?_
      refine r_goto (tgt := 2) dX0_isMeeting_32 (by decide) ?_
      exact ih (i + 1) (by omega) (fun k hk => by
        by_cases e : k = i
        · subst e; exact fun e2 => c24 (by rw [e2])
        · exact h1 k (by omega))
    · refine r_c (pc' := 28) dX0_isMeeting_27 rfl kc_iconst_1 ?_
      refine r_reti dX0_isMeeting_28 rfl (rfl) (Nat.le_of_ble_eq_true rfl) (Nat.le_of_ble_eq_true rfl) ?_
      exact hQ1 (decide_eq_true ⟨i, by omega, (nI_eq (Nat.lt_of_le_of_lt Nat.and_le_right (by omega)) (by omega)).mp c24⟩)

set_option maxHeartbeats 4000000 in
set_option maxRecDepth 100000 in
theorem ct_X0_isMeeting {d : Nat} {x : hX} {I : Nat → Nat → Int32} {q r n M : Nat} {ρ : zR} {S : zN} (hq : isN q r) (hR : isRd I r ρ) (hw : wfR ρ) (hn : n ≤ 8) (hS : NR I q ρ n S) (hM : M < 256) : ci (d + 1) MX0_isMeeting [.ref q, .int (nI M), .int (nI n)] (hp x I) (fun r h' => (h' = hp x I ∧ r = 1 ∧ togB S.1 (zg ρ) (zi ρ) M = true) ∨ (h' = hp x I ∧ r = 0 ∧ togB S.1 (zg ρ) (zi ρ) M = false)) := by
  refine c_in (L := [.ref q, .int (nI M), .int (nI n), .null]) rfl rfl ?_
  refine r_c (pc' := 1) dX0_isMeeting_0 rfl kc_iconst_0 ?_
  refine r_st_3_4 (pc' := 2) dX0_isMeeting_1 rfl rfl rfl ?_
  exact lp_X0_isMeeting hq hR hw hn hS hM (fun e => ⟨_, rfl, Or.inl ⟨rfl, rfl, e⟩⟩) (fun e => ⟨_, rfl, Or.inr ⟨rfl, rfl, e⟩⟩) (zi ρ) 0 (by omega) (fun k hk => absurd hk (by omega))

/-- in which nights the family M is together -/
def mts (ρ : zR) (rm : Nat) (w : Nat → Nat) (M : Nat) : Nat → Bool := fun m => togB (sim ρ rm w (m + 1)).1 (zg ρ) (zi ρ) M
def rds (ρ : zR) (rm : Nat) (w : Nat → Nat) : Nat → Bool := fun m => decide (mA (sim ρ rm w (m + 1)).1 (zg ρ) (zi ρ) = 0)

set_option maxHeartbeats 4000000 in
set_option maxRecDepth 100000 in
theorem lp_X0_fm {d : Nat} {Q : sm_Q} {x : hX} {q r rm : Nat} {ρ : zR} {I0 : Nat → Nat → Int32} (hq : isN q r) (hR : isRd I0 r ρ) (hw : wfR ρ) (hz : 0 < zi ρ) (hrm : I0 r 10 = rmI rm) {n M : Nat} (hn : n ≤ zn ρ) (hM : M < 256) (hQ : ∀ I, frN q I0 I → Q (some (.int (fmI (mts ρ rm (zw ρ) M) n))) (hp x I)) : ∀ (m i : Nat) (I : Nat → Nat → Int32), i + m = n → (∀ j, j < i → mts ρ rm (zw ρ) M j = false) → (∀ j, j ≤ i → NR I q ρ j (sim ρ rm (zw ρ) j)) → frN q I0 I → sm_wp (sm_c (d + 3)) 0 0 MX0_firstMeeting Q 6 [.ref q, .int (nI M), .int (nI n), .int (nI i)] [] (hp x I) 0 0 := by
  have b8 : zn ρ ≤ 8 := hw.2.1
  intro m
  induction m with
  | zero =>
    intro i I hi h0 h1 h2
    have hin : i = n := by omega
    subst hin
    refine r_s (pc' := 7) dX0_firstMeeting_6 rfl rfl ?_
    refine r_s (pc' := 8) dX0_firstMeeting_7 rfl rfl ?_
    refine r_cge_t (tgt := 44) dX0_firstMeeting_8 (by decide) (Int32.le_refl _) ?_
    refine r_c (pc' := 46) dX0_firstMeeting_44 rfl kc_bipush_m9 ?_
    refine r_reti dX0_firstMeeting_46 rfl (rfl) (Nat.le_of_ble_eq_true rfl) (Nat.le_of_ble_eq_true rfl) ?_
    rw [← fmI_no h0]; exact hQ I h2
  | succ m ih =>
    intro i I hi h0 h1 h2
    refine r_s (pc' := 7) dX0_firstMeeting_6 rfl rfl ?_
    refine r_s (pc' := 8) dX0_firstMeeting_7 rfl rfl ?_
    refine r_cge_f (pc' := 11) (tgt := 44) dX0_firstMeeting_8 rfl (by decide) (nI_ge (by omega) (by omega)) ?_
    have hsep := hq.sep
    have hR1 : isRd I r ρ := hR.same (fun t t1 t2 => h2 t (by omega))
    have hrm1 : I r 10 = rmI rm := by rw [h2 r (by omega)]; exact hrm
    refine r_s (pc' := 12) dX0_firstMeeting_11 rfl rfl ?_
    refine r_s (pc' := 13) dX0_firstMeeting_12 rfl rfl ?_
    refine r_s (pc' := 14) dX0_firstMeeting_13 rfl rfl ?_
    refine r_gr (pc' := 17) dX0_firstMeeting_14 rfl fX0_23 (hq).l (hq).K (hq).r0 ?_
    refine r_gr (pc' := 20) dX0_firstMeeting_17 rfl fX0_30 (hq.R).l (hq.R).K (hq.R).r4 ?_
    refine r_s (pc' := 21) dX0_firstMeeting_20 rfl rfl ?_
    refine h_ald (pc' := 22) dX0_firstMeeting_21 rfl ((hq.R).la 3 rfl) (hq.R).k3 (vp_in_nI (by omega) (by decide)) (nI_clamp (by omega)) ?_
    refine r_top (hR1.w i (by omega)) ?_
    refine r_Vv2 (pc' := 25) dX0_firstMeeting_22 rfl lX0_35 (hq).l (hq).K rfl rfl rfl (Nat.le_of_ble_eq_true rfl) (Nat.le_of_ble_eq_true rfl) (ct_X0_pass (rm := rm) (ρ := ρ) (S := sim ρ rm (zw ρ) i) hq (by omega) (hw.w1 (by omega)) hR1 hw hrm1 (h1 _ (Nat.le_refl _)) (sim_ok hw hz rm (zw ρ) _)) (fun h22 e22 => ?_)
    obtain ⟨I1, rfl, a1, a2, a3⟩ := e22
    have g1 : ∀ j, j ≤ i + 1 → NR I1 q ρ j (sim ρ rm (zw ρ) j) := fun j hj => by
      by_cases e : j = i + 1
      · subst e; exact a1
      · exact (h1 j (by omega)).same (a2 _ (by omega) (by omega) (by omega)) (a2 _ (by omega) (by omega) (by omega)) (a3 j e)
    have g2 : frN q I0 I1 := fun t ht => by rw [a2 t (by omega) (by omega) (by omega)]; exact h2 t ht
    refine r_s (pc' := 26) dX0_firstMeeting_25 rfl rfl ?_
    refine r_s (pc' := 27) dX0_firstMeeting_26 rfl rfl ?_
    refine r_s (pc' := 28) dX0_firstMeeting_27 rfl rfl ?_
    refine r_c (pc' := 29) dX0_firstMeeting_28 rfl kc_iconst_1 ?_
    refine r_s (pc' := 30) dX0_firstMeeting_29 rfl rfl ?_
    refine r_top (nI_1 i) ?_
    refine r_Vi2 (pc' := 33) dX0_firstMeeting_30 rfl lX0_88 (hq).l (hq).K rfl rfl rfl (Nat.le_of_ble_eq_true rfl) (Nat.le_of_ble_eq_true rfl) (ct_X0_isMeeting (S := sim ρ rm (zw ρ) (i + 1)) hq (hR.same (fun t t1 t2 => g2 t (by omega))) hw (by omega) (g1 _ (Nat.le_refl _)) hM) (fun r30 h30 e30 => ?_)
    rcases e30 with ⟨rfl, rfl, hb⟩ | ⟨rfl, rfl, hb⟩
    · refine r_ifeq_f (pc' := 36) (tgt := 38) dX0_firstMeeting_33 rfl (by decide) (by decide) ?_
      refine r_s (pc' := 37) dX0_firstMeeting_36 rfl rfl ?_
      refine r_reti dX0_firstMeeting_37 rfl (rfl) (Nat.le_of_ble_eq_true rfl) (Nat.le_of_ble_eq_true rfl) ?_
      rw [← fmI_at (p := mts ρ rm (zw ρ) M) (n := n) (by omega) hb h0]; exact hQ I1 g2
    · refine r_ifeq_t (tgt := 38) dX0_firstMeeting_33 (by decide) (by decide) ?_
      refine r_in_3_4 (pc' := 41) dX0_firstMeeting_38 rfl rfl (i1 _) ?_
      refine r_goto (tgt := 6) dX0_firstMeeting_41 (by decide) ?_
      exact ih (i + 1) I1 (by omega) (fun j hj => by
        by_cases e : j = i
        · subst e; exact hb
        · exact h0 j (by omega)) g1 g2

set_option maxHeartbeats 4000000 in
set_option maxRecDepth 100000 in
theorem ct_X0_firstMeeting {d : Nat} {x : hX} {I : Nat → Nat → Int32} {q r rm n M : Nat} {ρ : zR} (hq : isN q r) (hR : isRd I r ρ) (hw : wfR ρ) (hz : 0 < zi ρ) (hrm : I r 10 = rmI rm) (hn : n ≤ zn ρ) (hM : M < 256) : ci (d + 4) MX0_firstMeeting [.ref q, .int (nI M), .int (nI n)] (hp x I) (fun r h' => ∃ I', h' = hp x I' ∧ frN q I I' ∧ r = fmI (mts ρ rm (zw ρ) M) n) := by
  refine c_in (L := [.ref q, .int (nI M), .int (nI n), .null]) rfl rfl ?_
  refine r_s (pc' := 1) dX0_firstMeeting_0 rfl rfl ?_
  refine r_Vv0 (pc' := 4) dX0_firstMeeting_1 rfl lX0_27 (hq).l (hq).K rfl rfl rfl (Nat.le_of_ble_eq_true rfl) (Nat.le_of_ble_eq_true rfl) (ct_X0_begin hq hR hw) (fun h1 e1 => ?_)
  obtain ⟨I1, rfl, a1, a2⟩ := e1
  refine r_c (pc' := 5) dX0_firstMeeting_4 rfl kc_iconst_0 ?_
  refine r_st_3_4 (pc' := 6) dX0_firstMeeting_5 rfl rfl rfl ?_
  exact lp_X0_fm (I0 := I) hq hR hw hz hrm hn hM (fun I2 g2 => ⟨_, rfl, I2, rfl, g2, rfl⟩) n 0 _ (by omega) (fun j hj => absurd hj (by omega)) (fun j hj => (show j = 0 by omega) ▸ a1) a2

def allB (p : Nat → Bool) (n : Nat) : Bool := decide (∀ j, j < n → p j = true)

set_option maxHeartbeats 4000000 in
set_option maxRecDepth 100000 in
theorem lp_X0_lr {d : Nat} {Q : sm_Q} {x : hX} {q r rm : Nat} {ρ : zR} {I0 : Nat → Nat → Int32} (hq : isN q r) (hR : isRd I0 r ρ) (hw : wfR ρ) (hz : 0 < zi ρ) (hrm : I0 r 10 = rmI rm) {n : Nat} (hn : n ≤ zn ρ) (hQ1 : ∀ I, frN q I0 I → allB (rds ρ rm (zw ρ)) n = true → Q (some (.int 1)) (hp x I)) (hQ0 : ∀ I, frN q I0 I → allB (rds ρ rm (zw ρ)) n = false → Q (some (.int 0)) (hp x I)) : ∀ (m i : Nat) (I : Nat → Nat → Int32), i + m = n → (∀ j, j < i → rds ρ rm (zw ρ) j = true) → (∀ j, j ≤ i → NR I q ρ j (sim ρ rm (zw ρ) j)) → frN q I0 I → sm_wp (sm_c (d + 3)) 0 0 MX0_leaveRoadEmpty Q 6 [.ref q, .int (nI n), .int (nI i)] [] (hp x I) 0 0 := by
  have b8 : zn ρ ≤ 8 := hw.2.1
  intro m
  induction m with
  | zero =>
    intro i I hi h0 h1 h2
    have hin : i = n := by omega
    subst hin
    refine r_s (pc' := 7) dX0_leaveRoadEmpty_6 rfl rfl ?_
    refine r_s (pc' := 8) dX0_leaveRoadEmpty_7 rfl rfl ?_
    refine r_cge_t (tgt := 43) dX0_leaveRoadEmpty_8 (by decide) (Int32.le_refl _) ?_
    refine r_c (pc' := 44) dX0_leaveRoadEmpty_43 rfl kc_iconst_1 ?_
    refine r_reti dX0_leaveRoadEmpty_44 rfl (rfl) (Nat.le_of_ble_eq_true rfl) (Nat.le_of_ble_eq_true rfl) ?_
    exact hQ1 I h2 (decide_eq_true h0)
  | succ m ih =>
    intro i I hi h0 h1 h2
    refine r_s (pc' := 7) dX0_leaveRoadEmpty_6 rfl rfl ?_
    refine r_s (pc' := 8) dX0_leaveRoadEmpty_7 rfl rfl ?_
    refine r_cge_f (pc' := 11) (tgt := 43) dX0_leaveRoadEmpty_8 rfl (by decide) (nI_ge (by omega) (by omega)) ?_
    have hsep := hq.sep
    have hR1 : isRd I r ρ := hR.same (fun t t1 t2 => h2 t (by omega))
    have hrm1 : I r 10 = rmI rm := by rw [h2 r (by omega)]; exact hrm
    refine r_s (pc' := 12) dX0_leaveRoadEmpty_11 rfl rfl ?_
    refine r_s (pc' := 13) dX0_leaveRoadEmpty_12 rfl rfl ?_
    refine r_s (pc' := 14) dX0_leaveRoadEmpty_13 rfl rfl ?_
    refine r_gr (pc' := 17) dX0_leaveRoadEmpty_14 rfl fX0_23 (hq).l (hq).K (hq).r0 ?_
    refine r_gr (pc' := 20) dX0_leaveRoadEmpty_17 rfl fX0_30 (hq.R).l (hq.R).K (hq.R).r4 ?_
    refine r_s (pc' := 21) dX0_leaveRoadEmpty_20 rfl rfl ?_
    refine h_ald (pc' := 22) dX0_leaveRoadEmpty_21 rfl ((hq.R).la 3 rfl) (hq.R).k3 (vp_in_nI (by omega) (by decide)) (nI_clamp (by omega)) ?_
    refine r_top (hR1.w i (by omega)) ?_
    refine r_Vv2 (pc' := 25) dX0_leaveRoadEmpty_22 rfl lX0_35 (hq).l (hq).K rfl rfl rfl (Nat.le_of_ble_eq_true rfl) (Nat.le_of_ble_eq_true rfl) (ct_X0_pass (rm := rm) (ρ := ρ) (S := sim ρ rm (zw ρ) i) hq (by omega) (hw.w1 (by omega)) hR1 hw hrm1 (h1 _ (Nat.le_refl _)) (sim_ok hw hz rm (zw ρ) _)) (fun h22 e22 => ?_)
    obtain ⟨I1, rfl, a1, a2, a3⟩ := e22
    have g1 : ∀ j, j ≤ i + 1 → NR I1 q ρ j (sim ρ rm (zw ρ) j) := fun j hj => by
      by_cases e : j = i + 1
      · subst e; exact a1
      · exact (h1 j (by omega)).same (a2 _ (by omega) (by omega) (by omega)) (a2 _ (by omega) (by omega) (by omega)) (a3 j e)
    have g2 : frN q I0 I1 := fun t ht => by rw [a2 t (by omega) (by omega) (by omega)]; exact h2 t ht
    refine r_s (pc' := 26) dX0_leaveRoadEmpty_25 rfl rfl ?_
    refine r_s (pc' := 27) dX0_leaveRoadEmpty_26 rfl rfl ?_
    refine r_c (pc' := 28) dX0_leaveRoadEmpty_27 rfl kc_iconst_1 ?_
    refine r_s (pc' := 29) dX0_leaveRoadEmpty_28 rfl rfl ?_
    refine r_top (nI_1 i) ?_
    refine r_Vi1 (pc' := 32) dX0_leaveRoadEmpty_29 rfl lX0_92 (hq).l (hq).K rfl rfl rfl (Nat.le_of_ble_eq_true rfl) (Nat.le_of_ble_eq_true rfl) (ct_X0_onRoad (S := sim ρ rm (zw ρ) (i + 1)) hq (hR.same (fun t t1 t2 => g2 t (by omega))) hw (by omega) (g1 _ (Nat.le_refl _))) (fun r29 h29 e29 => ?_)
    obtain ⟨rfl, rfl⟩ := e29
    refine r_ifeq (pc' := 35) (tgt := 37) dX0_leaveRoadEmpty_32 rfl (by decide) (fun c32 => ?_) (fun c32 => ?_)
    · refine r_in_2_3 (pc' := 40) dX0_leaveRoadEmpty_37 rfl rfl (i1 _) ?_
      refine r_goto (tgt := 6) dX0_leaveRoadEmpty_40 (by decide) ?_
      exact ih (i + 1) I1 (by omega) (fun j hj => by
        by_cases e : j = i
        · subst e; exact decide_eq_true ((nI_eq (by have := mA_lt (A := (sim ρ rm (zw ρ) (j + 1)).1) (k := zi ρ) hw.2.2.1; omega) (by decide)).mp c32)
        · exact h0 j (by omega)) g1 g2
    · refine r_c (pc' := 36) dX0_leaveRoadEmpty_35 rfl kc_iconst_0 ?_
      refine r_reti dX0_leaveRoadEmpty_36 rfl (rfl) (Nat.le_of_ble_eq_true rfl) (Nat.le_of_ble_eq_true rfl) ?_
      exact hQ0 I1 g2 (decide_eq_false (fun h => absurd (of_decide_eq_true (h i (by omega))) (fun e => c32 (by rw [e]; rfl))))

set_option maxHeartbeats 4000000 in
set_option maxRecDepth 100000 in
theorem ct_X0_leaveRoadEmpty {d : Nat} {x : hX} {I : Nat → Nat → Int32} {q r rm n : Nat} {ρ : zR} (hq : isN q r) (hR : isRd I r ρ) (hw : wfR ρ) (hz : 0 < zi ρ) (hrm : I r 10 = rmI rm) (hn : n ≤ zn ρ) : ci (d + 4) MX0_leaveRoadEmpty [.ref q, .int (nI n)] (hp x I) (fun r h' => (∃ I', h' = hp x I' ∧ frN q I I' ∧ r = 1 ∧ allB (rds ρ rm (zw ρ)) n = true) ∨ (∃ I', h' = hp x I' ∧ frN q I I' ∧ r = 0 ∧ allB (rds ρ rm (zw ρ)) n = false)) := by
  refine c_in (L := [.ref q, .int (nI n), .null]) rfl rfl ?_
  refine r_s (pc' := 1) dX0_leaveRoadEmpty_0 rfl rfl ?_
  refine r_Vv0 (pc' := 4) dX0_leaveRoadEmpty_1 rfl lX0_27 (hq).l (hq).K rfl rfl rfl (Nat.le_of_ble_eq_true rfl) (Nat.le_of_ble_eq_true rfl) (ct_X0_begin hq hR hw) (fun h1 e1 => ?_)
  obtain ⟨I1, rfl, a1, a2⟩ := e1
  refine r_c (pc' := 5) dX0_leaveRoadEmpty_4 rfl kc_iconst_0 ?_
  refine r_st_2_3 (pc' := 6) dX0_leaveRoadEmpty_5 rfl rfl rfl ?_
  exact lp_X0_lr (I0 := I) hq hR hw hz hrm hn (fun I2 g2 e => ⟨_, rfl, Or.inl ⟨I2, rfl, g2, rfl, e⟩⟩) (fun I2 g2 e => ⟨_, rfl, Or.inr ⟨I2, rfl, g2, rfl, e⟩⟩) n 0 _ (by omega) (fun j hj => absurd hj (by omega)) (fun j hj => (show j = 0 by omega) ▸ a1) a2
