/-- row n of the tables of the Nights at q holds the state S -/
def NR (I : Nat → Nat → Int32) (q : Nat) (ρ : zR) (n : Nat) (S : zN) : Prop := (∀ k, k < zi ρ → I (q + 2 + n) k = nI (S.2.1 k)) ∧ (∀ k, k ≤ zi ρ → I (q + 12 + n) k = nI (mA S.1 (zg ρ) k)) ∧ I (q + 21) n = nI S.2.2
theorem NR.same {I I' : Nat → Nat → Int32} {q : Nat} {ρ : zR} {n : Nat} {S : zN} (h : NR I q ρ n S) (h1 : I' (q + 2 + n) = I (q + 2 + n)) (h2 : I' (q + 12 + n) = I (q + 12 + n)) (h3 : I' (q + 21) n = I (q + 21) n) : NR I' q ρ n S := ⟨fun k hk => by rw [h1]; exact h.1 k hk, fun k hk => by rw [h2]; exact h.2.1 k hk, by rw [h3]; exact h.2.2⟩
def bcE (x : Int32) : Int32 :=
  let a := x - ((x.toUInt32 >>> ((1 : Int32).toUInt32 &&& Int32.toUInt32 31)).toInt32 &&& 1431655765)
  let b := (a &&& 858993459) + ((a.toUInt32 >>> ((2 : Int32).toUInt32 &&& Int32.toUInt32 31)).toInt32 &&& 858993459)
  let c := (b + (b.toUInt32 >>> ((4 : Int32).toUInt32 &&& Int32.toUInt32 31)).toInt32) &&& 252645135
  let d := c + (c.toUInt32 >>> ((8 : Int32).toUInt32 &&& Int32.toUInt32 31)).toInt32
  let e := d + (d.toUInt32 >>> ((16 : Int32).toUInt32 &&& Int32.toUInt32 31)).toInt32
  e &&& 63
set_option maxRecDepth 100000 in
theorem bcE_t : ∀ t, t < 256 → bcE (nI t) = nI (cb0 t 8) := by decide +kernel
set_option maxRecDepth 100000 in
theorem wl_t : ∀ t, t < 256 → nI t &&& (nI t - 1) = nI (t &&& (t - 1)) := by decide +kernel
theorem wlst_lt {t : Nat} (ht : t < 256) : ∀ m, wlst t m < 256
  | 0 => ht
  | m + 1 => Nat.lt_of_le_of_lt Nat.and_le_left (wlst_lt ht m)

set_option maxHeartbeats 4000000 in
set_option maxRecDepth 100000 in
theorem ct_bitCount {d : Nat} {h : sm_H} {t : Nat} (ht : t < 256) : ci (d + 1) MJ6_bitCount_0f7a4 [.int (nI t)] h (fun r h' => h' = h ∧ r = nI (cb0 t 8)) := by
  rw [← bcE_t t ht]
  refine c_in (L := [.int (nI t)]) rfl rfl ?_
  refine r_s (pc' := 1) dJ6_bitCount_0f7a4_0 rfl rfl ?_
  refine r_s (pc' := 2) dJ6_bitCount_0f7a4_1 rfl rfl ?_
  refine r_c (pc' := 3) dJ6_bitCount_0f7a4_2 rfl kc_iconst_1 ?_
  refine r_s (pc' := 4) dJ6_bitCount_0f7a4_3 rfl rfl ?_
  refine r_ldc (pc' := 7) dJ6_bitCount_0f7a4_4 rfl kJ6_265 ?_
  refine r_s (pc' := 8) dJ6_bitCount_0f7a4_7 rfl rfl ?_
  refine r_s (pc' := 9) dJ6_bitCount_0f7a4_8 rfl rfl ?_
  refine r_st_0_1 (pc' := 10) dJ6_bitCount_0f7a4_9 rfl rfl ?_
  refine r_s (pc' := 11) dJ6_bitCount_0f7a4_10 rfl rfl ?_
  refine r_ldc (pc' := 14) dJ6_bitCount_0f7a4_11 rfl kJ6_266 ?_
  refine r_s (pc' := 15) dJ6_bitCount_0f7a4_14 rfl rfl ?_
  refine r_s (pc' := 16) dJ6_bitCount_0f7a4_15 rfl rfl ?_
  refine r_c (pc' := 17) dJ6_bitCount_0f7a4_16 rfl kc_iconst_2 ?_
  refine r_s (pc' := 18) dJ6_bitCount_0f7a4_17 rfl rfl ?_
  refine r_ldc (pc' := 21) dJ6_bitCount_0f7a4_18 rfl kJ6_266 ?_
  refine r_s (pc' := 22) dJ6_bitCount_0f7a4_21 rfl rfl ?_
  refine r_s (pc' := 23) dJ6_bitCount_0f7a4_22 rfl rfl ?_
  refine r_st_0_1 (pc' := 24) dJ6_bitCount_0f7a4_23 rfl rfl ?_
  refine r_s (pc' := 25) dJ6_bitCount_0f7a4_24 rfl rfl ?_
  refine r_s (pc' := 26) dJ6_bitCount_0f7a4_25 rfl rfl ?_
  refine r_c (pc' := 27) dJ6_bitCount_0f7a4_26 rfl kc_iconst_4 ?_
  refine r_s (pc' := 28) dJ6_bitCount_0f7a4_27 rfl rfl ?_
  refine r_s (pc' := 29) dJ6_bitCount_0f7a4_28 rfl rfl ?_
  refine r_ldc (pc' := 32) dJ6_bitCount_0f7a4_29 rfl kJ6_267 ?_
  refine r_s (pc' := 33) dJ6_bitCount_0f7a4_32 rfl rfl ?_
  refine r_st_0_1 (pc' := 34) dJ6_bitCount_0f7a4_33 rfl rfl ?_
  refine r_s (pc' := 35) dJ6_bitCount_0f7a4_34 rfl rfl ?_
  refine r_s (pc' := 36) dJ6_bitCount_0f7a4_35 rfl rfl ?_
  refine r_c (pc' := 38) dJ6_bitCount_0f7a4_36 rfl kc_bipush_8 ?_
  refine r_s (pc' := 39) dJ6_bitCount_0f7a4_38 rfl rfl ?_
  refine r_s (pc' := 40) dJ6_bitCount_0f7a4_39 rfl rfl ?_
  refine r_st_0_1 (pc' := 41) dJ6_bitCount_0f7a4_40 rfl rfl ?_
  refine r_s (pc' := 42) dJ6_bitCount_0f7a4_41 rfl rfl ?_
  refine r_s (pc' := 43) dJ6_bitCount_0f7a4_42 rfl rfl ?_
  refine r_c (pc' := 45) dJ6_bitCount_0f7a4_43 rfl kc_bipush_16 ?_
  refine r_s (pc' := 46) dJ6_bitCount_0f7a4_45 rfl rfl ?_
  refine r_s (pc' := 47) dJ6_bitCount_0f7a4_46 rfl rfl ?_
  refine r_st_0_1 (pc' := 48) dJ6_bitCount_0f7a4_47 rfl rfl ?_
  refine r_s (pc' := 49) dJ6_bitCount_0f7a4_48 rfl rfl ?_
  refine r_c (pc' := 51) dJ6_bitCount_0f7a4_49 rfl kc_bipush_63 ?_
  refine r_s (pc' := 52) dJ6_bitCount_0f7a4_51 rfl rfl ?_
  refine r_reti dJ6_bitCount_0f7a4_52 rfl (rfl) (Nat.le_of_ble_eq_true rfl) (Nat.le_of_ble_eq_true rfl) ⟨_, rfl, ?_⟩
  exact ⟨rfl, rfl⟩

set_option maxHeartbeats 4000000 in
set_option maxRecDepth 100000 in
theorem lp_X0_wl {call : sm_K} {Q : sm_Q} {h : sm_H} {t n : Nat} (ht : t < 256) (hn : n < 2 ^ 31) (hQ : Q (some (.int (nI (wlst t n)))) h) : ∀ (m i : Nat), i + m = n → sm_wp call 0 0 MX0_withoutLeast Q 4 [.int (nI t), .int (nI n), .int (nI (wlst t i)), .int (nI i)] [] h 0 0 := by
  intro m
  induction m with
  | zero =>
    intro i hi
    have hin : i = n := by omega
    subst hin
    refine r_s (pc' := 5) dX0_withoutLeast_4 rfl rfl ?_
    refine r_s (pc' := 6) dX0_withoutLeast_5 rfl rfl ?_
    refine r_cge_t (tgt := 21) dX0_withoutLeast_6 (by decide) (Int32.le_refl _) ?_
    refine r_s (pc' := 22) dX0_withoutLeast_21 rfl rfl ?_
    refine r_reti dX0_withoutLeast_22 rfl (rfl) (Nat.le_of_ble_eq_true rfl) (Nat.le_of_ble_eq_true rfl) ?_
    exact hQ
  | succ m ih =>
    intro i hi
    refine r_s (pc' := 5) dX0_withoutLeast_4 rfl rfl ?_
    refine r_s (pc' := 6) dX0_withoutLeast_5 rfl rfl ?_
    refine r_cge_f (pc' := 9) (tgt := 21) dX0_withoutLeast_6 rfl (by decide) (nI_ge (by omega) hn) ?_
    refine r_s (pc' := 10) dX0_withoutLeast_9 rfl rfl ?_
    refine r_s (pc' := 11) dX0_withoutLeast_10 rfl rfl ?_
    refine r_c (pc' := 12) dX0_withoutLeast_11 rfl kc_iconst_1 ?_
    refine r_s (pc' := 13) dX0_withoutLeast_12 rfl rfl ?_
    refine r_s (pc' := 14) dX0_withoutLeast_13 rfl rfl ?_
    refine r_top (wl_t _ (wlst_lt ht i)) ?_
    refine r_st_2_4 (pc' := 15) dX0_withoutLeast_14 rfl rfl rfl ?_
    refine r_in_3_4 (pc' := 18) dX0_withoutLeast_15 rfl rfl (i1 _) ?_
    refine r_goto (tgt := 4) dX0_withoutLeast_18 (by decide) ?_
    exact ih (i + 1) (by omega)

set_option maxHeartbeats 4000000 in
set_option maxRecDepth 100000 in
theorem ct_X0_wl {d : Nat} {h : sm_H} {t n : Nat} (ht : t < 256) (hn : n < 2 ^ 31) : ci (d + 1) MX0_withoutLeast [.int (nI t), .int (nI n)] h (fun r h' => h' = h ∧ r = nI (wlst t n)) := by
  refine c_in (L := [.int (nI t), .int (nI n), .null, .null]) rfl rfl ?_
  refine r_s (pc' := 1) dX0_withoutLeast_0 rfl rfl ?_
  refine r_st_2_4 (pc' := 2) dX0_withoutLeast_1 rfl rfl rfl ?_
  refine r_c (pc' := 3) dX0_withoutLeast_2 rfl kc_iconst_0 ?_
  refine r_st_3_4 (pc' := 4) dX0_withoutLeast_3 rfl rfl rfl ?_
  exact lp_X0_wl ht hn ⟨_, rfl, rfl, rfl⟩ n 0 (by omega)

set_option maxHeartbeats 4000000 in
set_option maxRecDepth 100000 in
theorem ct_X0_keptOf {d : Nat} {x : hX} {I : Nat → Nat → Int32} {t m l : Nat} {q r : Nat} (hq : isN q r) (ht : t < 256) (hm : m < 2 ^ 31) (hl : I r 9 = nI l) (hl2 : l < 2) : ci (d + 2) MX0_keptOf [.ref q, .int (nI t), .int (nI m)] (hp x I) (fun r h' => h' = hp x I ∧ r = nI (kpt l t m)) := by
  have h8 := (cb0_le8 t ht).1
  refine c_in (L := [.ref q, .int (nI t), .int (nI m), .null, .null]) rfl rfl ?_
  refine r_s (pc' := 1) dX0_keptOf_0 rfl rfl ?_
  refine r_Si1 (pc' := 4) dX0_keptOf_1 rfl lX0_72 rfl (Nat.le_of_ble_eq_true rfl) (Nat.le_of_ble_eq_true rfl) (ct_bitCount ht) (fun r1 h1 e1 => ?_)
  obtain ⟨rfl, rfl⟩ := e1
  refine r_st_3_5 (pc' := 5) dX0_keptOf_4 rfl rfl rfl ?_
  refine r_s (pc' := 6) dX0_keptOf_5 rfl rfl ?_
  refine r_s (pc' := 7) dX0_keptOf_6 rfl rfl ?_
  refine r_min (pc' := 10) dX0_keptOf_7 rfl jX0_64 rfl (Nat.le_of_ble_eq_true rfl) (Nat.le_of_ble_eq_true rfl) ?_
  refine r_top (x_min (a := m) (b := cb0 t 8) (by omega) (by omega)) ?_
  refine r_st_4_5 (pc' := 12) dX0_keptOf_10 rfl rfl rfl ?_
  refine r_s (pc' := 13) dX0_keptOf_12 rfl rfl ?_
  refine r_gr (pc' := 16) dX0_keptOf_13 rfl fX0_23 (hq).l (hq).K (hq).r0 ?_
  refine h_gi (pc' := 19) dX0_keptOf_16 rfl fX0_78 (hq.R).l (hq.R).K ?_
  refine r_top (hl) ?_
  refine r_ifne (pc' := 22) (tgt := 35) dX0_keptOf_19 rfl (by decide) (fun c19 => ?_) (fun c19 => ?_)
  · refine r_s (pc' := 36) dX0_keptOf_35 rfl rfl ?_
    refine r_s (pc' := 37) dX0_keptOf_36 rfl rfl ?_
    refine r_s (pc' := 39) dX0_keptOf_37 rfl rfl ?_
    refine r_s (pc' := 40) dX0_keptOf_39 rfl rfl ?_
    refine r_top (pk_sub (by omega)) ?_
    refine r_Si2 (pc' := 43) dX0_keptOf_40 rfl lX0_81 rfl (Nat.le_of_ble_eq_true rfl) (Nat.le_of_ble_eq_true rfl) (ct_X0_wl ht (by omega)) (fun r40 h40 e40 => ?_)
    obtain ⟨rfl, rfl⟩ := e40
    refine r_reti dX0_keptOf_43 rfl (rfl) (Nat.le_of_ble_eq_true rfl) (Nat.le_of_ble_eq_true rfl) ⟨_, rfl, ?_⟩
    exact ⟨rfl, by rw [kpt, if_neg (fun e => c19 (by rw [e]; rfl))]⟩
  · refine r_s (pc' := 23) dX0_keptOf_22 rfl rfl ?_
    refine r_s (pc' := 24) dX0_keptOf_23 rfl rfl ?_
    refine r_s (pc' := 26) dX0_keptOf_24 rfl rfl ?_
    refine r_Si2 (pc' := 29) dX0_keptOf_26 rfl lX0_81 rfl (Nat.le_of_ble_eq_true rfl) (Nat.le_of_ble_eq_true rfl) (ct_X0_wl ht (by omega)) (fun r26 h26 e26 => ?_)
    obtain ⟨rfl, rfl⟩ := e26
    refine r_c (pc' := 30) dX0_keptOf_29 rfl kc_iconst_m1 ?_
    refine r_s (pc' := 31) dX0_keptOf_30 rfl rfl ?_
    refine r_s (pc' := 32) dX0_keptOf_31 rfl rfl ?_
    refine r_top (nI_andn) ?_
    refine r_goto (tgt := 43) dX0_keptOf_32 (by decide) ?_
    refine r_reti dX0_keptOf_43 rfl (rfl) (Nat.le_of_ble_eq_true rfl) (Nat.le_of_ble_eq_true rfl) ⟨_, rfl, ?_⟩
    exact ⟨rfl, by rw [kpt, if_pos ((nI_eq (by omega) (by decide)).mp c19)]⟩

theorem isN.sep {q r : Nat} (h : isN q r) : r + 6 < q := by unfold isN at h; omega

set_option maxHeartbeats 4000000 in
set_option maxRecDepth 100000 in
theorem lp_X0_snow {call : sm_K} {Q : sm_Q} {x : hX} {q r n z f : Nat} {D : Nat → Nat} {I0 : Nat → Nat → Int32} (hq : isN q r) (hn : n < 8) (hz : I0 r 0 = nI z) (hz6 : z ≤ 6) (hf5 : f ≤ 5) (hD : ∀ k, k < z → I0 (q + 2 + n) k = nI (D k)) (hD9 : ∀ k, k < z → D k ≤ 9) (hQ : ∀ I, (∀ k, k < z → I (q + 2 + (n + 1)) k = nI (snw f D k)) → (∀ s, s ≠ q + 2 + (n + 1) → I s = I0 s) → Q none (hp x I)) : ∀ (m i : Nat) (v4 : Value) (I : Nat → Nat → Int32), i + m = z → (∀ k, k < i → I (q + 2 + (n + 1)) k = nI (snw f D k)) → (∀ s, s ≠ q + 2 + (n + 1) → I s = I0 s) → sm_wp call 0 0 MX0_snow Q 14 [.ref q, .int (nI n), .int (nI f - 2), .int (nI i), v4] [] (hp x I) 0 0 := by
  intro m
  induction m with
  | zero =>
    intro i v4 I hi h1 h2
    have hin : i = z := by omega
    subst hin
    refine r_s (pc' := 15) dX0_snow_14 rfl rfl ?_
    refine r_s (pc' := 16) dX0_snow_15 rfl rfl ?_
    refine r_gr (pc' := 19) dX0_snow_16 rfl fX0_23 (hq).l (hq).K (hq).r0 ?_
    refine h_gi (pc' := 22) dX0_snow_19 rfl fX0_39 (hq.R).l (hq.R).K ?_
    refine r_top ((show _ = nI _ by rw [h2 r (by have := hq.sep; omega)]; exact hz)) ?_
    refine r_cge_t (tgt := 64) dX0_snow_22 (by decide) (Int32.le_refl _) ?_
    refine r_retv dX0_snow_64 rfl (Nat.le_of_ble_eq_true rfl) (Nat.le_of_ble_eq_true rfl) ?_
    exact hQ I h1 h2
  | succ m ih =>
    intro i v4 I hi h1 h2
    refine r_s (pc' := 15) dX0_snow_14 rfl rfl ?_
    refine r_s (pc' := 16) dX0_snow_15 rfl rfl ?_
    refine r_gr (pc' := 19) dX0_snow_16 rfl fX0_23 (hq).l (hq).K (hq).r0 ?_
    refine h_gi (pc' := 22) dX0_snow_19 rfl fX0_39 (hq.R).l (hq.R).K ?_
    refine r_top ((show _ = nI _ by rw [h2 r (by have := hq.sep; omega)]; exact hz)) ?_
    refine r_cge_f (pc' := 25) (tgt := 64) dX0_snow_22 rfl (by decide) (nI_ge (by omega) (by omega)) ?_
    refine r_s (pc' := 26) dX0_snow_25 rfl rfl ?_
    refine r_gr (pc' := 29) dX0_snow_26 rfl fX0_11 (hq).l (hq).K (hq).r1 ?_
    refine r_s (pc' := 30) dX0_snow_29 rfl rfl ?_
    refine r_gald (pc' := 31) dX0_snow_30 rfl ((hq).la 1 rfl) (hq).k1 (vp_in_nI (show n < 9 from (by omega)) (by decide)) (by rw [nI_clamp (show n < 2 ^ 31 from Nat.lt_trans (show n < 9 from (by omega)) (by decide))]; exact (hq).ri (show n < 9 from (by omega))) ?_
    refine r_s (pc' := 32) dX0_snow_31 rfl rfl ?_
    refine h_ald (pc' := 33) dX0_snow_32 rfl ((hq).lb 2 _ rfl (show n < 9 from (by omega))) ((hq).ki (show n < 9 from (by omega))) (vp_in_nI (by omega) (by decide)) (nI_clamp (by omega)) ?_
    refine r_top ((show _ = nI (D i) by rw [h2 _ (by omega)]; exact hD i (by omega))) ?_
    refine r_s (pc' := 34) dX0_snow_33 rfl rfl ?_
    refine r_s (pc' := 35) dX0_snow_34 rfl rfl ?_
    refine r_st_4_5 (pc' := 37) dX0_snow_35 rfl rfl rfl ?_
    refine r_s (pc' := 38) dX0_snow_37 rfl rfl ?_
    refine r_gr (pc' := 41) dX0_snow_38 rfl fX0_11 (hq).l (hq).K (hq).r1 ?_
    refine r_s (pc' := 42) dX0_snow_41 rfl rfl ?_
    refine r_c (pc' := 43) dX0_snow_42 rfl kc_iconst_1 ?_
    refine r_s (pc' := 44) dX0_snow_43 rfl rfl ?_
    refine r_top (nI_1 n) ?_
    refine r_gald (pc' := 45) dX0_snow_44 rfl ((hq).la 1 rfl) (hq).k1 (vp_in_nI (show (n + 1) < 9 from (by omega)) (by decide)) (by rw [nI_clamp (show (n + 1) < 2 ^ 31 from Nat.lt_trans (show (n + 1) < 9 from (by omega)) (by decide))]; exact (hq).ri (show (n + 1) < 9 from (by omega))) ?_
    refine r_s (pc' := 46) dX0_snow_45 rfl rfl ?_
    refine r_c (pc' := 47) dX0_snow_46 rfl kc_iconst_0 ?_
    refine r_c (pc' := 49) dX0_snow_47 rfl kc_bipush_9 ?_
    refine r_s (pc' := 51) dX0_snow_49 rfl rfl ?_
    refine r_min (pc' := 54) dX0_snow_51 rfl jX0_64 rfl (Nat.le_of_ble_eq_true rfl) (Nat.le_of_ble_eq_true rfl) ?_
    refine r_max (pc' := 57) dX0_snow_54 rfl jX0_69 rfl (Nat.le_of_ble_eq_true rfl) (Nat.le_of_ble_eq_true rfl) ?_
    refine r_top (SNW (D i) (by have := hD9 i (by omega); omega) f (by omega)) ?_
    refine h_ast (pc' := 58) dX0_snow_57 rfl ((hq).lb 2 _ rfl (show (n + 1) < 9 from (by omega))) ((hq).ki (show (n + 1) < 9 from (by omega))) (vp_in_nI (by omega) (by decide)) (nI_clamp (by omega)) ?_
    refine r_in_3_5 (pc' := 61) dX0_snow_58 rfl rfl (i1 _) ?_
    refine r_goto (tgt := 14) dX0_snow_61 (by decide) ?_
    refine ih (i + 1) _ _ (by omega) (fun k hk => ?_) (fun s hs => by rw [up_o hs]; exact h2 s hs)
    by_cases e : k = i
    · subst e; exact up_s
    · rw [up_n e]; exact h1 k (by omega)

set_option maxHeartbeats 4000000 in
set_option maxRecDepth 100000 in
theorem ct_X0_snow {d : Nat} {x : hX} {I : Nat → Nat → Int32} {q r n z f : Nat} {D : Nat → Nat} (hq : isN q r) (hn : n < 8) (hz : I r 0 = nI z) (hz6 : z ≤ 6) (hf : I (r + 4) n = nI f) (hf5 : f ≤ 5) (hD : ∀ k, k < z → I (q + 2 + n) k = nI (D k)) (hD9 : ∀ k, k < z → D k ≤ 9) : cv (d + 1) MX0_snow [.ref q, .int (nI n)] (hp x I) (fun h' => ∃ I', h' = hp x I' ∧ (∀ k, k < z → I' (q + 2 + (n + 1)) k = nI (snw f D k)) ∧ (∀ s, s ≠ q + 2 + (n + 1) → I' s = I s)) := by
  refine c_in (L := [.ref q, .int (nI n), .null, .null, .null]) rfl rfl ?_
  refine r_s (pc' := 1) dX0_snow_0 rfl rfl ?_
  refine r_gr (pc' := 4) dX0_snow_1 rfl fX0_23 (hq).l (hq).K (hq).r0 ?_
  refine r_gr (pc' := 7) dX0_snow_4 rfl fX0_61 (hq.R).l (hq.R).K (hq.R).r5 ?_
  refine r_s (pc' := 8) dX0_snow_7 rfl rfl ?_
  refine h_ald (pc' := 9) dX0_snow_8 rfl ((hq.R).la 4 rfl) (hq.R).k4 (vp_in_nI (by omega) (by decide)) (nI_clamp (by omega)) ?_
  refine r_top (hf) ?_
  refine r_c (pc' := 10) dX0_snow_9 rfl kc_iconst_2 ?_
  refine r_s (pc' := 11) dX0_snow_10 rfl rfl ?_
  refine r_st_2_5 (pc' := 12) dX0_snow_11 rfl rfl rfl ?_
  refine r_c (pc' := 13) dX0_snow_12 rfl kc_iconst_0 ?_
  refine r_st_3_5 (pc' := 14) dX0_snow_13 rfl rfl rfl ?_
  exact lp_X0_snow (I0 := I) hq hn hz hz6 hf5 hD hD9 (fun I1 a1 a2 => ⟨rfl, I1, rfl, a1, a2⟩) z 0 _ _ (by omega) (fun k hk => absurd hk (by omega)) (fun s _ => rfl)

/-- the loop of a night: s inns are passed; so: those who are sent on -/
def pL (I : Nat → Nat → Int32) (q n : Nat) (l G w z : Nat) (r A0 : Nat → Nat) (s so : Nat) : Prop :=
  (∀ t, t < s → I (q + 12 + (n + 1)) (kst w z t) = nI (mA (stp l G w z r A0 s) G (kst w z t))) ∧
  (s < z → mA (stp l G w z r A0 s) G (kst w z s) = mA A0 G (kst w z s) ||| so) ∧ (s = z → mA (stp l G w z r A0 s) G z = so) ∧
  (∀ t, s < t → t < z → mA (stp l G w z r A0 s) G (kst w z t) = mA A0 G (kst w z t)) ∧ (s < z → mA (stp l G w z r A0 s) G z = 0) ∧ so < 256
theorem pL_0 {I : Nat → Nat → Int32} {q n l G w z : Nat} {r A0 : Nat → Nat} (hz : 0 < z) (h0 : mA A0 G z = 0) : pL I q n l G w z r A0 0 0 :=
  ⟨fun t ht => absurd ht (by omega), fun _ => (Nat.or_zero _).symm, fun h => absurd h (by omega), fun t _ _ => rfl, fun _ => h0, by decide⟩
theorem pL_s {I : Nat → Nat → Int32} {q n l G w z : Nat} {r A0 : Nat → Nat} {s so t : Nat} (hl : l < 2) (hG : G ≤ 8) (hs : s < z) (h : pL I q n l G w z r A0 s so) (ht : t = mA A0 G (kst w z s) ||| so) : pL (sm_up I (q + 12 + (n + 1)) (kst w z s) (nI (kpt l t (r (kst w z s))))) q n l G w z r A0 (s + 1) (andn t (kpt l t (r (kst w z s)))) := by
  obtain ⟨h1, h2, h3, h4, h5, h6⟩ := h
  have hk := kst_lt (w := w) hs
  have hne := tos_ne (w := w) hk
  have ht' : t = mA (stp l G w z r A0 s) G (kst w z s) := by rw [h2 hs, ht]
  have e0 : stp l G w z r A0 (s + 1) = psk l G (kst w z s) (tos w z (kst w z s)) (r (kst w z s)) (stp l G w z r A0 s) := rfl
  have eK : mA (stp l G w z r A0 (s + 1)) G (kst w z s) = kpt l t (r (kst w z s)) := by rw [e0, psk_k hl hG hne, ht']
  have eT : mA (stp l G w z r A0 (s + 1)) G (tos w z (kst w z s)) = mA (stp l G w z r A0 s) G (tos w z (kst w z s)) ||| andn t (kpt l t (r (kst w z s))) := by rw [e0, psk_to hl hG hne, ht']
  have eO : ∀ j, j ≠ kst w z s → j ≠ tos w z (kst w z s) → mA (stp l G w z r A0 (s + 1)) G j = mA (stp l G w z r A0 s) G j := fun j a b => by rw [e0, psk_o a b]
  have tn : ∀ a, a < z → a ≠ s + 1 → kst w z a ≠ tos w z (kst w z s) := fun a ha hne2 e => by
    by_cases hs1 : s + 1 < z
    · rw [tos_s hs1] at e
      exact hne2 (kst_inj ha hs1 e)
    · have : s = z - 1 := by omega
      rw [this, tos_l (by omega)] at e
      exact absurd (kst_lt (w := w) ha) (by omega)
  refine ⟨fun a ha => ?_, fun hs1 => ?_, fun hs1 => ?_, fun a ha haz => ?_, fun hs1 => ?_, ?_⟩
  · by_cases ea : a = s
    · subst ea; rw [up_s, eK]
    · rw [up_n (fun e => ea (kst_inj (by omega) hs e)), eO _ (fun e => ea (kst_inj (by omega) hs e)) (tn a (by omega) (by omega))]
      exact h1 a (by omega)
  · rw [← tos_s hs1, eT, tos_s hs1, h4 (s + 1) (by omega) hs1]
  · have : s = z - 1 := by omega
    have e : tos w z (kst w z s) = z := by rw [this, tos_l (by omega)]
    rw [e] at eT
    rw [eT, h5 hs, Nat.zero_or]
  · rw [eO _ (fun e => by have := kst_inj (by omega) hs e; omega) (tn a haz (by omega))]
    exact h4 a (by omega) haz
  · rw [eO z (by omega) (by rw [tos_s hs1]; have := kst_lt (w := w) hs1; omega)]
    exact h5 hs
  · rw [ht']; exact andn_lt (mA_lt hG)
theorem kst_all {w z k : Nat} (h : k < z) : ∃ s, s < z ∧ kst w z s = k := ⟨kst w z k, kst_lt h, by unfold kst; split <;> omega⟩

set_option maxHeartbeats 4000000 in
set_option maxRecDepth 100000 in
theorem lp_X0_pass {d : Nat} {Q : sm_Q} {x : hX} {q r n w rm : Nat} {ρ : zR} {S : zN} {I0 : Nat → Nat → Int32} (hq : isN q r) (hn : n < 8) (hw1 : w ≤ 1) (hR : isRd I0 r ρ) (hw : wfR ρ) (hz : 0 < zi ρ) (hrm : I0 r 10 = rmI rm) (hS : NR I0 q ρ n S) (hD : ∀ k, k < zi ρ → I0 (q + 2 + (n + 1)) k = nI (snw (zf ρ n) S.2.1 k)) (hok : okN ρ S) (hQ : ∀ I so, pL I q n (zl ρ) (zg ρ) w (zi ρ) (rom ρ rm (snw (zf ρ n) S.2.1)) (bck (zi ρ) S.2.2 S.1) (zi ρ) so → (∀ t, t ≠ q + 12 + (n + 1) → I t = I0 t) → Q none (hp x (sm_up (sm_up I (q + 12 + (n + 1)) (zi ρ) (nI so)) (q + 21) (n + 1) (nI (gtn w (zi ρ)))))) : ∀ (m s so : Nat) (v8 v9 : Value) (I : Nat → Nat → Int32), s + m = zi ρ → pL I q n (zl ρ) (zg ρ) w (zi ρ) (rom ρ rm (snw (zf ρ n) S.2.1)) (bck (zi ρ) S.2.2 S.1) s so → (∀ t, t ≠ q + 12 + (n + 1) → I t = I0 t) → sm_wp (sm_c (d + 2)) 0 0 MX0_pass Q 37 [.ref q, .int (nI n), .int (nI w), .int (nI (zi ρ)), .ref (q + 12 + n), .ref (q + 12 + (n + 1)), .int (nI so), .int (nI s), v8, v9] [] (hp x I) 0 0 := by
  intro m
  induction m with
  | zero =>
    intro s so v8 v9 I hi h1 h2
    have b6 : zi ρ ≤ 6 := hw.1
    have bg : zg ρ ≤ 8 := hw.2.2.1
    have hgt := hok.2.2
    have hin : s = zi ρ := by omega
    subst hin
    refine r_s (pc' := 39) dX0_pass_37 rfl rfl ?_
    refine r_s (pc' := 40) dX0_pass_39 rfl rfl ?_
    refine r_cge_t (tgt := 139) dX0_pass_40 (by decide) (Int32.le_refl _) ?_
    refine r_s (pc' := 141) dX0_pass_139 rfl rfl ?_
    refine r_s (pc' := 142) dX0_pass_141 rfl rfl ?_
    refine r_s (pc' := 144) dX0_pass_142 rfl rfl ?_
    refine h_ast (pc' := 145) dX0_pass_144 rfl ((hq).lb 12 _ rfl (by omega)) ((hq).kg (by omega)) (vp_in_nI (by omega) (by decide)) (nI_clamp (by omega)) ?_
    refine r_s (pc' := 146) dX0_pass_145 rfl rfl ?_
    refine r_gr (pc' := 149) dX0_pass_146 rfl fX0_19 (hq).l (hq).K (hq).r3 ?_
    refine r_s (pc' := 150) dX0_pass_149 rfl rfl ?_
    refine r_c (pc' := 151) dX0_pass_150 rfl kc_iconst_1 ?_
    refine r_s (pc' := 152) dX0_pass_151 rfl rfl ?_
    refine r_top (nI_1 n) ?_
    refine r_s (pc' := 153) dX0_pass_152 rfl rfl ?_
    refine r_ifne (pc' := 156) (tgt := 162) dX0_pass_153 rfl (by decide) (fun c153 => ?_) (fun c153 => ?_)
    · refine r_c (pc' := 163) dX0_pass_162 rfl kc_iconst_0 ?_
      refine r_top (show _ = nI (gtn w (zi ρ)) from by rw [gtn, if_neg (fun e => c153 (by rw [e]; rfl))]; rfl) ?_
      refine h_ast (pc' := 164) dX0_pass_163 rfl ((hq).la 21 rfl) (hq).k21 (vp_in_nI (by omega) (by decide)) (nI_clamp (by omega)) ?_
      refine r_retv dX0_pass_164 rfl (Nat.le_of_ble_eq_true rfl) (Nat.le_of_ble_eq_true rfl) ?_
      exact hQ I so h1 h2
    · refine r_s (pc' := 157) dX0_pass_156 rfl rfl ?_
      refine r_c (pc' := 158) dX0_pass_157 rfl kc_iconst_1 ?_
      refine r_s (pc' := 159) dX0_pass_158 rfl rfl ?_
      refine r_top ((pk_sub (by omega) : nI (zi ρ) - nI 1 = nI (zi ρ - 1))) ?_
      refine r_goto (tgt := 163) dX0_pass_159 (by decide) ?_
      refine r_top (show _ = nI (gtn w (zi ρ)) from by rw [gtn, if_pos ((nI_eq (by omega) (by decide)).mp c153)]) ?_
      refine h_ast (pc' := 164) dX0_pass_163 rfl ((hq).la 21 rfl) (hq).k21 (vp_in_nI (by omega) (by decide)) (nI_clamp (by omega)) ?_
      refine r_retv dX0_pass_164 rfl (Nat.le_of_ble_eq_true rfl) (Nat.le_of_ble_eq_true rfl) ?_
      exact hQ I so h1 h2
  | succ m ih =>
    intro s so v8 v9 I hi h1 h2
    have b6 : zi ρ ≤ 6 := hw.1
    have bg : zg ρ ≤ 8 := hw.2.2.1
    have hgt := hok.2.2
    have hs : s < zi ρ := by omega
    refine r_s (pc' := 39) dX0_pass_37 rfl rfl ?_
    refine r_s (pc' := 40) dX0_pass_39 rfl rfl ?_
    refine r_cge_f (pc' := 43) (tgt := 139) dX0_pass_40 rfl (by decide) (nI_ge (by omega) (by omega)) ?_
    refine r_s (pc' := 44) dX0_pass_43 rfl rfl ?_
    refine r_ifne (pc' := 47) (tgt := 52) dX0_pass_44 rfl (by decide) (fun c44 => ?_) (fun c44 => ?_)
    · refine r_s (pc' := 53) dX0_pass_52 rfl rfl ?_
      refine r_c (pc' := 54) dX0_pass_53 rfl kc_iconst_1 ?_
      refine r_s (pc' := 55) dX0_pass_54 rfl rfl ?_
      refine r_top ((pk_sub (by omega) : nI (zi ρ) - nI 1 = nI (zi ρ - 1))) ?_
      refine r_s (pc' := 57) dX0_pass_55 rfl rfl ?_
      refine r_s (pc' := 58) dX0_pass_57 rfl rfl ?_
      refine r_top (pk_sub (by omega)) ?_
      refine r_top (show _ = nI (kst w (zi ρ) s) from by rw [kst, if_neg (fun e => c44 (by rw [e]; rfl))]) ?_
      refine r_st_8_10 (pc' := 60) dX0_pass_58 rfl rfl rfl ?_
      have hk8 := kst_lt (w := w) hs
      refine r_s (pc' := 62) dX0_pass_60 rfl rfl ?_
      refine r_s (pc' := 64) dX0_pass_62 rfl rfl ?_
      refine h_ald (pc' := 65) dX0_pass_64 rfl ((hq).lb 12 _ rfl (by omega)) ((hq).kg (by omega)) (vp_in_nI (by omega) (by decide)) (nI_clamp (by omega)) ?_
      refine r_top ((show _ = nI (mA S.1 (zg ρ) (kst w (zi ρ) s)) by rw [h2 _ (by have := hq.sep; omega)]; exact hS.2.1 _ (by omega))) ?_
      refine r_s (pc' := 67) dX0_pass_65 rfl rfl ?_
      refine r_s (pc' := 68) dX0_pass_67 rfl rfl ?_
      refine r_top (fa_or _ _) ?_
      refine r_st_9_10 (pc' := 70) dX0_pass_68 rfl rfl rfl ?_
      refine r_s (pc' := 72) dX0_pass_70 rfl rfl ?_
      refine r_s (pc' := 73) dX0_pass_72 rfl rfl ?_
      refine r_gr (pc' := 76) dX0_pass_73 rfl fX0_19 (hq).l (hq).K (hq).r3 ?_
      refine r_s (pc' := 77) dX0_pass_76 rfl rfl ?_
      refine h_ald (pc' := 78) dX0_pass_77 rfl ((hq).la 21 rfl) (hq).k21 (vp_in_nI (by omega) (by decide)) (nI_clamp (by omega)) ?_
      refine r_top ((show _ = nI S.2.2 by rw [h2 _ (by have := hq.sep; omega)]; exact hS.2.2)) ?_
      refine r_cne (pc' := 81) (tgt := 90) dX0_pass_78 rfl (by decide) (fun c78 => ?_) (fun c78 => ?_)
      · have hth : mA S.1 (zg ρ) (kst w (zi ρ) s) ||| so = mA (bck (zi ρ) S.2.2 S.1) (zg ρ) (kst w (zi ρ) s) ||| so := by
          rw [bck_m hok.2.2 hk8 (by omega), if_neg (fun e => c78 (by rw [e]))]
        have ht8 : mA (bck (zi ρ) S.2.2 S.1) (zg ρ) (kst w (zi ρ) s) ||| so < 256 := or_lt (mA_lt (by omega)) h1.2.2.2.2.2
        rw [hth]
        refine r_s (pc' := 92) dX0_pass_90 rfl rfl ?_
        refine r_s (pc' := 94) dX0_pass_92 rfl rfl ?_
        have hrmb : rom ρ rm (snw (zf ρ n) S.2.1) (kst w (zi ρ) s) < 2 ^ 31 := by
          have a1 : snw (zf ρ n) S.2.1 (kst w (zi ρ) s) ≤ 9 := Nat.min_le_left _ _
          unfold rom keeps rmB
          split <;> (try split) <;> (try split) <;> omega
        refine r_s (pc' := 95) dX0_pass_94 rfl rfl ?_
        refine r_s (pc' := 97) dX0_pass_95 rfl rfl ?_
        refine r_s (pc' := 98) dX0_pass_97 rfl rfl ?_
        refine r_gr (pc' := 101) dX0_pass_98 rfl fX0_23 (hq).l (hq).K (hq).r0 ?_
        refine r_s (pc' := 103) dX0_pass_101 rfl rfl ?_
        refine r_s (pc' := 104) dX0_pass_103 rfl rfl ?_
        refine r_gr (pc' := 107) dX0_pass_104 rfl fX0_11 (hq).l (hq).K (hq).r1 ?_
        refine r_s (pc' := 108) dX0_pass_107 rfl rfl ?_
        refine r_c (pc' := 109) dX0_pass_108 rfl kc_iconst_1 ?_
        refine r_s (pc' := 110) dX0_pass_109 rfl rfl ?_
        refine r_top (nI_1 n) ?_
        refine r_gald (pc' := 111) dX0_pass_110 rfl ((hq).la 1 rfl) (hq).k1 (vp_in_nI (show (n + 1) < 9 from (by omega)) (by decide)) (by rw [nI_clamp (show (n + 1) < 2 ^ 31 from Nat.lt_trans (show (n + 1) < 9 from (by omega)) (by decide))]; exact (hq).ri (show (n + 1) < 9 from (by omega))) ?_
        refine r_s (pc' := 113) dX0_pass_111 rfl rfl ?_
        refine h_ald (pc' := 114) dX0_pass_113 rfl ((hq).lb 2 _ rfl (show (n + 1) < 9 from (by omega))) ((hq).ki (show (n + 1) < 9 from (by omega))) (vp_in_nI (by omega) (by decide)) (nI_clamp (by omega)) ?_
        refine r_top ((show _ = nI (snw (zf ρ n) S.2.1 (kst w (zi ρ) s)) by rw [h2 _ (by have := hq.sep; omega)]; exact hD _ hk8)) ?_
        refine r_Vi2 (pc' := 117) dX0_pass_114 rfl lX0_54 (hq.R).l (hq.R).K rfl rfl rfl (Nat.le_of_ble_eq_true rfl) (Nat.le_of_ble_eq_true rfl) (ct_X2_roomBy (rm := rm) hq.R (by omega) (show _ = nI (zk ρ (kst w (zi ρ) s)) by rw [h2 _ (by have := hq.sep; omega)]; exact hR.k _ hk8) (hw.kd hk8) (show _ = rmI rm by rw [h2 _ (by have := hq.sep; omega)]; exact hrm)) (fun r114 h114 e114 => ?_)
        obtain ⟨rfl, rfl⟩ := e114
        refine r_Vi2 (pc' := 120) dX0_pass_117 rfl lX0_58 (hq).l (hq).K rfl rfl rfl (Nat.le_of_ble_eq_true rfl) (Nat.le_of_ble_eq_true rfl) (ct_X0_keptOf (m := rom ρ rm (snw (zf ρ n) S.2.1) (kst w (zi ρ) s)) (l := zl ρ) hq ht8 hrmb (show _ = nI (zl ρ) by rw [h2 _ (by have := hq.sep; omega)]; exact hR.2.2.2.1) (by have := hw.2.2.2.1; omega)) (fun r117 h117 e117 => ?_)
        obtain ⟨rfl, rfl⟩ := e117
        refine h_ast (pc' := 121) dX0_pass_120 rfl ((hq).lb 12 _ rfl (by omega)) ((hq).kg (by omega)) (vp_in_nI (by omega) (by decide)) (nI_clamp (by omega)) ?_
        refine r_s (pc' := 123) dX0_pass_121 rfl rfl ?_
        refine r_s (pc' := 125) dX0_pass_123 rfl rfl ?_
        refine r_s (pc' := 127) dX0_pass_125 rfl rfl ?_
        refine h_ald (pc' := 128) dX0_pass_127 rfl ((hq).lb 12 _ rfl (by omega)) ((hq).kg (by omega)) (vp_in_nI (by omega) (by decide)) (nI_clamp (by omega)) ?_
        refine r_top ((show _ = nI _ from up_s)) ?_
        refine r_c (pc' := 129) dX0_pass_128 rfl kc_iconst_m1 ?_
        refine r_s (pc' := 130) dX0_pass_129 rfl rfl ?_
        refine r_s (pc' := 131) dX0_pass_130 rfl rfl ?_
        refine r_top (nI_andn) ?_
        refine r_st_6_10 (pc' := 133) dX0_pass_131 rfl rfl rfl ?_
        refine r_in_7_10 (pc' := 136) dX0_pass_133 rfl rfl (i1 _) ?_
        refine r_goto (tgt := 37) dX0_pass_136 (by decide) ?_
        exact ih (s + 1) _ _ _ _ (by omega) (pL_s (by have := hw.2.2.2.1; omega) (by omega) hs h1 rfl) (fun t ht => by rw [up_o ht]; exact h2 t ht)
      · refine r_s (pc' := 83) dX0_pass_81 rfl rfl ?_
        refine r_s (pc' := 85) dX0_pass_83 rfl rfl ?_
        refine r_s (pc' := 86) dX0_pass_85 rfl rfl ?_
        refine h_ald (pc' := 87) dX0_pass_86 rfl ((hq).lb 12 _ rfl (by omega)) ((hq).kg (by omega)) (vp_in_nI (by omega) (by decide)) (nI_clamp (by omega)) ?_
        refine r_top ((show _ = nI (mA S.1 (zg ρ) (zi ρ)) by rw [h2 _ (by have := hq.sep; omega)]; exact hS.2.1 _ (by omega))) ?_
        refine r_s (pc' := 88) dX0_pass_87 rfl rfl ?_
        refine r_top (fa_or _ _) ?_
        refine r_st_9_10 (pc' := 90) dX0_pass_88 rfl rfl rfl ?_
        have hth : mA S.1 (zg ρ) (kst w (zi ρ) s) ||| so ||| mA S.1 (zg ρ) (zi ρ) = mA (bck (zi ρ) S.2.2 S.1) (zg ρ) (kst w (zi ρ) s) ||| so := by
          rw [bck_m hok.2.2 hk8 (by omega), if_pos ((nI_eq (by omega) (by omega)).mp c78), Nat.or_assoc, Nat.or_comm so, Nat.or_assoc]
        have ht8 : mA (bck (zi ρ) S.2.2 S.1) (zg ρ) (kst w (zi ρ) s) ||| so < 256 := or_lt (mA_lt (by omega)) h1.2.2.2.2.2
        rw [hth]
        refine r_s (pc' := 92) dX0_pass_90 rfl rfl ?_
        refine r_s (pc' := 94) dX0_pass_92 rfl rfl ?_
        have hrmb : rom ρ rm (snw (zf ρ n) S.2.1) (kst w (zi ρ) s) < 2 ^ 31 := by
          have a1 : snw (zf ρ n) S.2.1 (kst w (zi ρ) s) ≤ 9 := Nat.min_le_left _ _
          unfold rom keeps rmB
          split <;> (try split) <;> (try split) <;> omega
        refine r_s (pc' := 95) dX0_pass_94 rfl rfl ?_
        refine r_s (pc' := 97) dX0_pass_95 rfl rfl ?_
        refine r_s (pc' := 98) dX0_pass_97 rfl rfl ?_
        refine r_gr (pc' := 101) dX0_pass_98 rfl fX0_23 (hq).l (hq).K (hq).r0 ?_
        refine r_s (pc' := 103) dX0_pass_101 rfl rfl ?_
        refine r_s (pc' := 104) dX0_pass_103 rfl rfl ?_
        refine r_gr (pc' := 107) dX0_pass_104 rfl fX0_11 (hq).l (hq).K (hq).r1 ?_
        refine r_s (pc' := 108) dX0_pass_107 rfl rfl ?_
        refine r_c (pc' := 109) dX0_pass_108 rfl kc_iconst_1 ?_
        refine r_s (pc' := 110) dX0_pass_109 rfl rfl ?_
        refine r_top (nI_1 n) ?_
        refine r_gald (pc' := 111) dX0_pass_110 rfl ((hq).la 1 rfl) (hq).k1 (vp_in_nI (show (n + 1) < 9 from (by omega)) (by decide)) (by rw [nI_clamp (show (n + 1) < 2 ^ 31 from Nat.lt_trans (show (n + 1) < 9 from (by omega)) (by decide))]; exact (hq).ri (show (n + 1) < 9 from (by omega))) ?_
        refine r_s (pc' := 113) dX0_pass_111 rfl rfl ?_
        refine h_ald (pc' := 114) dX0_pass_113 rfl ((hq).lb 2 _ rfl (show (n + 1) < 9 from (by omega))) ((hq).ki (show (n + 1) < 9 from (by omega))) (vp_in_nI (by omega) (by decide)) (nI_clamp (by omega)) ?_
        refine r_top ((show _ = nI (snw (zf ρ n) S.2.1 (kst w (zi ρ) s)) by rw [h2 _ (by have := hq.sep; omega)]; exact hD _ hk8)) ?_
        refine r_Vi2 (pc' := 117) dX0_pass_114 rfl lX0_54 (hq.R).l (hq.R).K rfl rfl rfl (Nat.le_of_ble_eq_true rfl) (Nat.le_of_ble_eq_true rfl) (ct_X2_roomBy (rm := rm) hq.R (by omega) (show _ = nI (zk ρ (kst w (zi ρ) s)) by rw [h2 _ (by have := hq.sep; omega)]; exact hR.k _ hk8) (hw.kd hk8) (show _ = rmI rm by rw [h2 _ (by have := hq.sep; omega)]; exact hrm)) (fun r114 h114 e114 => ?_)
        obtain ⟨rfl, rfl⟩ := e114
        refine r_Vi2 (pc' := 120) dX0_pass_117 rfl lX0_58 (hq).l (hq).K rfl rfl rfl (Nat.le_of_ble_eq_true rfl) (Nat.le_of_ble_eq_true rfl) (ct_X0_keptOf (m := rom ρ rm (snw (zf ρ n) S.2.1) (kst w (zi ρ) s)) (l := zl ρ) hq ht8 hrmb (show _ = nI (zl ρ) by rw [h2 _ (by have := hq.sep; omega)]; exact hR.2.2.2.1) (by have := hw.2.2.2.1; omega)) (fun r117 h117 e117 => ?_)
        obtain ⟨rfl, rfl⟩ := e117
        refine h_ast (pc' := 121) dX0_pass_120 rfl ((hq).lb 12 _ rfl (by omega)) ((hq).kg (by omega)) (vp_in_nI (by omega) (by decide)) (nI_clamp (by omega)) ?_
        refine r_s (pc' := 123) dX0_pass_121 rfl rfl ?_
        refine r_s (pc' := 125) dX0_pass_123 rfl rfl ?_
        refine r_s (pc' := 127) dX0_pass_125 rfl rfl ?_
        refine h_ald (pc' := 128) dX0_pass_127 rfl ((hq).lb 12 _ rfl (by omega)) ((hq).kg (by omega)) (vp_in_nI (by omega) (by decide)) (nI_clamp (by omega)) ?_
        refine r_top ((show _ = nI _ from up_s)) ?_
        refine r_c (pc' := 129) dX0_pass_128 rfl kc_iconst_m1 ?_
        refine r_s (pc' := 130) dX0_pass_129 rfl rfl ?_
        refine r_s (pc' := 131) dX0_pass_130 rfl rfl ?_
        refine r_top (nI_andn) ?_
        refine r_st_6_10 (pc' := 133) dX0_pass_131 rfl rfl rfl ?_
        refine r_in_7_10 (pc' := 136) dX0_pass_133 rfl rfl (i1 _) ?_
        refine r_goto (tgt := 37) dX0_pass_136 (by decide) ?_
        exact ih (s + 1) _ _ _ _ (by omega) (pL_s (by have := hw.2.2.2.1; omega) (by omega) hs h1 rfl) (fun t ht => by rw [up_o ht]; exact h2 t ht)
    · refine r_s (pc' := 49) dX0_pass_47 rfl rfl ?_
      refine r_goto (tgt := 58) dX0_pass_49 (by decide) ?_
      refine r_top (show _ = nI (kst w (zi ρ) s) from by rw [kst, if_pos ((nI_eq (by omega) (by decide)).mp c44)]) ?_
      refine r_st_8_10 (pc' := 60) dX0_pass_58 rfl rfl rfl ?_
      have hk8 := kst_lt (w := w) hs
      refine r_s (pc' := 62) dX0_pass_60 rfl rfl ?_
      refine r_s (pc' := 64) dX0_pass_62 rfl rfl ?_
      refine h_ald (pc' := 65) dX0_pass_64 rfl ((hq).lb 12 _ rfl (by omega)) ((hq).kg (by omega)) (vp_in_nI (by omega) (by decide)) (nI_clamp (by omega)) ?_
      refine r_top ((show _ = nI (mA S.1 (zg ρ) (kst w (zi ρ) s)) by rw [h2 _ (by have := hq.sep; omega)]; exact hS.2.1 _ (by omega))) ?_
      refine r_s (pc' := 67) dX0_pass_65 rfl rfl ?_
      refine r_s (pc' := 68) dX0_pass_67 rfl rfl ?_
      refine r_top (fa_or _ _) ?_
      refine r_st_9_10 (pc' := 70) dX0_pass_68 rfl rfl rfl ?_
      refine r_s (pc' := 72) dX0_pass_70 rfl rfl ?_
      refine r_s (pc' := 73) dX0_pass_72 rfl rfl ?_
      refine r_gr (pc' := 76) dX0_pass_73 rfl fX0_19 (hq).l (hq).K (hq).r3 ?_
      refine r_s (pc' := 77) dX0_pass_76 rfl rfl ?_
      refine h_ald (pc' := 78) dX0_pass_77 rfl ((hq).la 21 rfl) (hq).k21 (vp_in_nI (by omega) (by decide)) (nI_clamp (by omega)) ?_
      refine r_top ((show _ = nI S.2.2 by rw [h2 _ (by have := hq.sep; omega)]; exact hS.2.2)) ?_
      refine r_cne (pc' := 81) (tgt := 90) dX0_pass_78 rfl (by decide) (fun c78 => ?_) (fun c78 => ?_)
      · have hth : mA S.1 (zg ρ) (kst w (zi ρ) s) ||| so = mA (bck (zi ρ) S.2.2 S.1) (zg ρ) (kst w (zi ρ) s) ||| so := by
          rw [bck_m hok.2.2 hk8 (by omega), if_neg (fun e => c78 (by rw [e]))]
        have ht8 : mA (bck (zi ρ) S.2.2 S.1) (zg ρ) (kst w (zi ρ) s) ||| so < 256 := or_lt (mA_lt (by omega)) h1.2.2.2.2.2
        rw [hth]
        refine r_s (pc' := 92) dX0_pass_90 rfl rfl ?_
        refine r_s (pc' := 94) dX0_pass_92 rfl rfl ?_
        have hrmb : rom ρ rm (snw (zf ρ n) S.2.1) (kst w (zi ρ) s) < 2 ^ 31 := by
          have a1 : snw (zf ρ n) S.2.1 (kst w (zi ρ) s) ≤ 9 := Nat.min_le_left _ _
          unfold rom keeps rmB
          split <;> (try split) <;> (try split) <;> omega
        refine r_s (pc' := 95) dX0_pass_94 rfl rfl ?_
        refine r_s (pc' := 97) dX0_pass_95 rfl rfl ?_
        refine r_s (pc' := 98) dX0_pass_97 rfl rfl ?_
        refine r_gr (pc' := 101) dX0_pass_98 rfl fX0_23 (hq).l (hq).K (hq).r0 ?_
        refine r_s (pc' := 103) dX0_pass_101 rfl rfl ?_
        refine r_s (pc' := 104) dX0_pass_103 rfl rfl ?_
        refine r_gr (pc' := 107) dX0_pass_104 rfl fX0_11 (hq).l (hq).K (hq).r1 ?_
        refine r_s (pc' := 108) dX0_pass_107 rfl rfl ?_
        refine r_c (pc' := 109) dX0_pass_108 rfl kc_iconst_1 ?_
        refine r_s (pc' := 110) dX0_pass_109 rfl rfl ?_
        refine r_top (nI_1 n) ?_
        refine r_gald (pc' := 111) dX0_pass_110 rfl ((hq).la 1 rfl) (hq).k1 (vp_in_nI (show (n + 1) < 9 from (by omega)) (by decide)) (by rw [nI_clamp (show (n + 1) < 2 ^ 31 from Nat.lt_trans (show (n + 1) < 9 from (by omega)) (by decide))]; exact (hq).ri (show (n + 1) < 9 from (by omega))) ?_
        refine r_s (pc' := 113) dX0_pass_111 rfl rfl ?_
        refine h_ald (pc' := 114) dX0_pass_113 rfl ((hq).lb 2 _ rfl (show (n + 1) < 9 from (by omega))) ((hq).ki (show (n + 1) < 9 from (by omega))) (vp_in_nI (by omega) (by decide)) (nI_clamp (by omega)) ?_
        refine r_top ((show _ = nI (snw (zf ρ n) S.2.1 (kst w (zi ρ) s)) by rw [h2 _ (by have := hq.sep; omega)]; exact hD _ hk8)) ?_
        refine r_Vi2 (pc' := 117) dX0_pass_114 rfl lX0_54 (hq.R).l (hq.R).K rfl rfl rfl (Nat.le_of_ble_eq_true rfl) (Nat.le_of_ble_eq_true rfl) (ct_X2_roomBy (rm := rm) hq.R (by omega) (show _ = nI (zk ρ (kst w (zi ρ) s)) by rw [h2 _ (by have := hq.sep; omega)]; exact hR.k _ hk8) (hw.kd hk8) (show _ = rmI rm by rw [h2 _ (by have := hq.sep; omega)]; exact hrm)) (fun r114 h114 e114 => ?_)
        obtain ⟨rfl, rfl⟩ := e114
        refine r_Vi2 (pc' := 120) dX0_pass_117 rfl lX0_58 (hq).l (hq).K rfl rfl rfl (Nat.le_of_ble_eq_true rfl) (Nat.le_of_ble_eq_true rfl) (ct_X0_keptOf (m := rom ρ rm (snw (zf ρ n) S.2.1) (kst w (zi ρ) s)) (l := zl ρ) hq ht8 hrmb (show _ = nI (zl ρ) by rw [h2 _ (by have := hq.sep; omega)]; exact hR.2.2.2.1) (by have := hw.2.2.2.1; omega)) (fun r117 h117 e117 => ?_)
        obtain ⟨rfl, rfl⟩ := e117
        refine h_ast (pc' := 121) dX0_pass_120 rfl ((hq).lb 12 _ rfl (by omega)) ((hq).kg (by omega)) (vp_in_nI (by omega) (by decide)) (nI_clamp (by omega)) ?_
        refine r_s (pc' := 123) dX0_pass_121 rfl rfl ?_
        refine r_s (pc' := 125) dX0_pass_123 rfl rfl ?_
        refine r_s (pc' := 127) dX0_pass_125 rfl rfl ?_
        refine h_ald (pc' := 128) dX0_pass_127 rfl ((hq).lb 12 _ rfl (by omega)) ((hq).kg (by omega)) (vp_in_nI (by omega) (by decide)) (nI_clamp (by omega)) ?_
        refine r_top ((show _ = nI _ from up_s)) ?_
        refine r_c (pc' := 129) dX0_pass_128 rfl kc_iconst_m1 ?_
        refine r_s (pc' := 130) dX0_pass_129 rfl rfl ?_
        refine r_s (pc' := 131) dX0_pass_130 rfl rfl ?_
        refine r_top (nI_andn) ?_
        refine r_st_6_10 (pc' := 133) dX0_pass_131 rfl rfl rfl ?_
        refine r_in_7_10 (pc' := 136) dX0_pass_133 rfl rfl (i1 _) ?_
        refine r_goto (tgt := 37) dX0_pass_136 (by decide) ?_
        exact ih (s + 1) _ _ _ _ (by omega) (pL_s (by have := hw.2.2.2.1; omega) (by omega) hs h1 rfl) (fun t ht => by rw [up_o ht]; exact h2 t ht)
      · refine r_s (pc' := 83) dX0_pass_81 rfl rfl ?_
        refine r_s (pc' := 85) dX0_pass_83 rfl rfl ?_
        refine r_s (pc' := 86) dX0_pass_85 rfl rfl ?_
        refine h_ald (pc' := 87) dX0_pass_86 rfl ((hq).lb 12 _ rfl (by omega)) ((hq).kg (by omega)) (vp_in_nI (by omega) (by decide)) (nI_clamp (by omega)) ?_
        refine r_top ((show _ = nI (mA S.1 (zg ρ) (zi ρ)) by rw [h2 _ (by have := hq.sep; omega)]; exact hS.2.1 _ (by omega))) ?_
        refine r_s (pc' := 88) dX0_pass_87 rfl rfl ?_
        refine r_top (fa_or _ _) ?_
        refine r_st_9_10 (pc' := 90) dX0_pass_88 rfl rfl rfl ?_
        have hth : mA S.1 (zg ρ) (kst w (zi ρ) s) ||| so ||| mA S.1 (zg ρ) (zi ρ) = mA (bck (zi ρ) S.2.2 S.1) (zg ρ) (kst w (zi ρ) s) ||| so := by
          rw [bck_m hok.2.2 hk8 (by omega), if_pos ((nI_eq (by omega) (by omega)).mp c78), Nat.or_assoc, Nat.or_comm so, Nat.or_assoc]
        have ht8 : mA (bck (zi ρ) S.2.2 S.1) (zg ρ) (kst w (zi ρ) s) ||| so < 256 := or_lt (mA_lt (by omega)) h1.2.2.2.2.2
        rw [hth]
        refine r_s (pc' := 92) dX0_pass_90 rfl rfl ?_
        refine r_s (pc' := 94) dX0_pass_92 rfl rfl ?_
        have hrmb : rom ρ rm (snw (zf ρ n) S.2.1) (kst w (zi ρ) s) < 2 ^ 31 := by
          have a1 : snw (zf ρ n) S.2.1 (kst w (zi ρ) s) ≤ 9 := Nat.min_le_left _ _
          unfold rom keeps rmB
          split <;> (try split) <;> (try split) <;> omega
        refine r_s (pc' := 95) dX0_pass_94 rfl rfl ?_
        refine r_s (pc' := 97) dX0_pass_95 rfl rfl ?_
        refine r_s (pc' := 98) dX0_pass_97 rfl rfl ?_
        refine r_gr (pc' := 101) dX0_pass_98 rfl fX0_23 (hq).l (hq).K (hq).r0 ?_
        refine r_s (pc' := 103) dX0_pass_101 rfl rfl ?_
        refine r_s (pc' := 104) dX0_pass_103 rfl rfl ?_
        refine r_gr (pc' := 107) dX0_pass_104 rfl fX0_11 (hq).l (hq).K (hq).r1 ?_
        refine r_s (pc' := 108) dX0_pass_107 rfl rfl ?_
        refine r_c (pc' := 109) dX0_pass_108 rfl kc_iconst_1 ?_
        refine r_s (pc' := 110) dX0_pass_109 rfl rfl ?_
        refine r_top (nI_1 n) ?_
        refine r_gald (pc' := 111) dX0_pass_110 rfl ((hq).la 1 rfl) (hq).k1 (vp_in_nI (show (n + 1) < 9 from (by omega)) (by decide)) (by rw [nI_clamp (show (n + 1) < 2 ^ 31 from Nat.lt_trans (show (n + 1) < 9 from (by omega)) (by decide))]; exact (hq).ri (show (n + 1) < 9 from (by omega))) ?_
        refine r_s (pc' := 113) dX0_pass_111 rfl rfl ?_
        refine h_ald (pc' := 114) dX0_pass_113 rfl ((hq).lb 2 _ rfl (show (n + 1) < 9 from (by omega))) ((hq).ki (show (n + 1) < 9 from (by omega))) (vp_in_nI (by omega) (by decide)) (nI_clamp (by omega)) ?_
        refine r_top ((show _ = nI (snw (zf ρ n) S.2.1 (kst w (zi ρ) s)) by rw [h2 _ (by have := hq.sep; omega)]; exact hD _ hk8)) ?_
        refine r_Vi2 (pc' := 117) dX0_pass_114 rfl lX0_54 (hq.R).l (hq.R).K rfl rfl rfl (Nat.le_of_ble_eq_true rfl) (Nat.le_of_ble_eq_true rfl) (ct_X2_roomBy (rm := rm) hq.R (by omega) (show _ = nI (zk ρ (kst w (zi ρ) s)) by rw [h2 _ (by have := hq.sep; omega)]; exact hR.k _ hk8) (hw.kd hk8) (show _ = rmI rm by rw [h2 _ (by have := hq.sep; omega)]; exact hrm)) (fun r114 h114 e114 => ?_)
        obtain ⟨rfl, rfl⟩ := e114
        refine r_Vi2 (pc' := 120) dX0_pass_117 rfl lX0_58 (hq).l (hq).K rfl rfl rfl (Nat.le_of_ble_eq_true rfl) (Nat.le_of_ble_eq_true rfl) (ct_X0_keptOf (m := rom ρ rm (snw (zf ρ n) S.2.1) (kst w (zi ρ) s)) (l := zl ρ) hq ht8 hrmb (show _ = nI (zl ρ) by rw [h2 _ (by have := hq.sep; omega)]; exact hR.2.2.2.1) (by have := hw.2.2.2.1; omega)) (fun r117 h117 e117 => ?_)
        obtain ⟨rfl, rfl⟩ := e117
        refine h_ast (pc' := 121) dX0_pass_120 rfl ((hq).lb 12 _ rfl (by omega)) ((hq).kg (by omega)) (vp_in_nI (by omega) (by decide)) (nI_clamp (by omega)) ?_
        refine r_s (pc' := 123) dX0_pass_121 rfl rfl ?_
        refine r_s (pc' := 125) dX0_pass_123 rfl rfl ?_
        refine r_s (pc' := 127) dX0_pass_125 rfl rfl ?_
        refine h_ald (pc' := 128) dX0_pass_127 rfl ((hq).lb 12 _ rfl (by omega)) ((hq).kg (by omega)) (vp_in_nI (by omega) (by decide)) (nI_clamp (by omega)) ?_
        refine r_top ((show _ = nI _ from up_s)) ?_
        refine r_c (pc' := 129) dX0_pass_128 rfl kc_iconst_m1 ?_
        refine r_s (pc' := 130) dX0_pass_129 rfl rfl ?_
        refine r_s (pc' := 131) dX0_pass_130 rfl rfl ?_
        refine r_top (nI_andn) ?_
        refine r_st_6_10 (pc' := 133) dX0_pass_131 rfl rfl rfl ?_
        refine r_in_7_10 (pc' := 136) dX0_pass_133 rfl rfl (i1 _) ?_
        refine r_goto (tgt := 37) dX0_pass_136 (by decide) ?_
        exact ih (s + 1) _ _ _ _ (by omega) (pL_s (by have := hw.2.2.2.1; omega) (by omega) hs h1 rfl) (fun t ht => by rw [up_o ht]; exact h2 t ht)

set_option maxHeartbeats 4000000 in
set_option maxRecDepth 100000 in
theorem ct_X0_pass {d : Nat} {x : hX} {I : Nat → Nat → Int32} {q r n w rm : Nat} {ρ : zR} {S : zN} (hq : isN q r) (hn : n < zn ρ) (hw1 : w ≤ 1) (hR : isRd I r ρ) (hw : wfR ρ) (hrm : I r 10 = rmI rm) (hS : NR I q ρ n S) (hok : okN ρ S) : cv (d + 3) MX0_pass [.ref q, .int (nI n), .int (nI w)] (hp x I) (fun h' => ∃ I', h' = hp x I' ∧ NR I' q ρ (n + 1) (nig ρ rm w n S) ∧ (∀ t, t ≠ q + 2 + (n + 1) → t ≠ q + 12 + (n + 1) → t ≠ q + 21 → I' t = I t) ∧ (∀ j, j ≠ n + 1 → I' (q + 21) j = I (q + 21) j)) := by
  have b8 : zn ρ ≤ 8 := hw.2.1
  have b6 : zi ρ ≤ 6 := hw.1
  have hz : 0 < zi ρ := Nat.pos_of_ne_zero (fun e => by have := (hw.2.2.2.2.1 e).1; omega)
  have hsep := hq.sep
  have hn : n < 8 := by omega
  have hnz : n < zn ρ := by assumption
  refine c_in (L := [.ref q, .int (nI n), .int (nI w), .null, .null, .null, .null, .null, .null, .null]) rfl rfl ?_
  refine r_s (pc' := 1) dX0_pass_0 rfl rfl ?_
  refine r_s (pc' := 2) dX0_pass_1 rfl rfl ?_
  refine r_Vv1 (pc' := 5) dX0_pass_2 rfl lX0_50 (hq).l (hq).K rfl rfl rfl (Nat.le_of_ble_eq_true rfl) (Nat.le_of_ble_eq_true rfl) (ct_X0_snow (z := zi ρ) (f := zf ρ n) (D := S.2.1) hq hn hR.1 b6 (hR.f n hnz) (hw.f5 hnz) hS.1 hok.2.1) (fun h2 e2 => ?_)
  obtain ⟨I1, rfl, a1, a2⟩ := e2
  have hR1 : isRd I1 r ρ := hR.same (fun t t1 t2 => a2 t (by omega))
  have hS1 : NR I1 q ρ n S := hS.same (a2 _ (by omega)) (a2 _ (by omega)) (by rw [a2 _ (by omega)])
  refine r_s (pc' := 6) dX0_pass_5 rfl rfl ?_
  refine r_gr (pc' := 9) dX0_pass_6 rfl fX0_23 (hq).l (hq).K (hq).r0 ?_
  refine h_gi (pc' := 12) dX0_pass_9 rfl fX0_39 (hq.R).l (hq.R).K ?_
  refine r_top ((show _ = nI (zi ρ) by rw [a2 r (by omega)]; exact hR.1)) ?_
  refine r_st_3_10 (pc' := 13) dX0_pass_12 rfl rfl rfl ?_
  refine r_s (pc' := 14) dX0_pass_13 rfl rfl ?_
  refine r_gr (pc' := 17) dX0_pass_14 rfl fX0_16 (hq).l (hq).K (hq).r2 ?_
  refine r_s (pc' := 18) dX0_pass_17 rfl rfl ?_
  refine r_gald (pc' := 19) dX0_pass_18 rfl ((hq).la 11 rfl) (hq).k11 (vp_in_nI (show n < 9 from (by omega)) (by decide)) (by rw [nI_clamp (show n < 2 ^ 31 from Nat.lt_trans (show n < 9 from (by omega)) (by decide))]; exact (hq).rg (show n < 9 from (by omega))) ?_
  refine r_st_4_10 (pc' := 21) dX0_pass_19 rfl rfl rfl ?_
  refine r_s (pc' := 22) dX0_pass_21 rfl rfl ?_
  refine r_gr (pc' := 25) dX0_pass_22 rfl fX0_16 (hq).l (hq).K (hq).r2 ?_
  refine r_s (pc' := 26) dX0_pass_25 rfl rfl ?_
  refine r_c (pc' := 27) dX0_pass_26 rfl kc_iconst_1 ?_
  refine r_s (pc' := 28) dX0_pass_27 rfl rfl ?_
  refine r_top (nI_1 n) ?_
  refine r_gald (pc' := 29) dX0_pass_28 rfl ((hq).la 11 rfl) (hq).k11 (vp_in_nI (show (n + 1) < 9 from (by omega)) (by decide)) (by rw [nI_clamp (show (n + 1) < 2 ^ 31 from Nat.lt_trans (show (n + 1) < 9 from (by omega)) (by decide))]; exact (hq).rg (show (n + 1) < 9 from (by omega))) ?_
  refine r_st_5_10 (pc' := 31) dX0_pass_29 rfl rfl rfl ?_
  refine r_c (pc' := 32) dX0_pass_31 rfl kc_iconst_0 ?_
  refine r_st_6_10 (pc' := 34) dX0_pass_32 rfl rfl rfl ?_
  refine r_c (pc' := 35) dX0_pass_34 rfl kc_iconst_0 ?_
  refine r_st_7_10 (pc' := 37) dX0_pass_35 rfl rfl rfl ?_
  refine lp_X0_pass (I0 := I1) (S := S) (rm := rm) hq hn hw1 hR1 hw hz (by rw [a2 r (by omega)]; exact hrm) hS1 a1 hok (fun I2 so p1 p2 => ⟨rfl, _, rfl, ⟨fun k hk => ?_, fun k hk => ?_, ?_⟩, fun t t1 t2 t3 => ?_, fun j hj => ?_⟩) (zi ρ) 0 0 _ _ _ (by omega) (pL_0 hz (bck_z hok.2.2)) (fun t _ => rfl)
  · rw [up_o (by omega), up_o (by omega), p2 _ (by omega)]; exact a1 k hk
  · rw [up_o (by omega)]
    by_cases e : k = zi ρ
    · subst e; rw [up_s]; exact congrArg nI (p1.2.2.1 rfl).symm
    · rw [up_n e]
      obtain ⟨s, hs, es⟩ := kst_all (w := w) (show k < zi ρ by omega)
      subst es; exact p1.1 s hs
  · rw [up_s]; rfl
  · rw [up_o t3, up_o t2, p2 t t2, a2 t t1]
  · rw [up_n hj, up_o (by omega), p2 _ (by omega), a2 _ (by omega)]
