set_option maxHeartbeats 4000000 in
set_option maxRecDepth 100000 in
theorem ct_X2_hasInn {d : Nat} {x : hX} {I : Nat → Nat → Int32} {q n : Nat} {k : Int32} (hq : isR q) (hn : I q 0 = nI n) (hb : n < 2 ^ 31) : ci (d + 1) MX2_hasInn [.ref q, .int k] (hp x I) (fun r h' => (h' = hp x I ∧ r = 1 ∧ ∃ j, j < n ∧ k = nI j) ∨ (h' = hp x I ∧ r = 0 ∧ ∀ j, j < n → k ≠ nI j)) := by
  refine c_in (L := [.ref q, .int k]) rfl rfl ?_
  refine r_s (pc' := 1) dX2_hasInn_0 rfl rfl ?_
  refine r_iflt (pc' := 4) (tgt := 16) dX2_hasInn_1 rfl (by decide) (fun c1 => ?_) (fun c1 => ?_)
  · refine r_c (pc' := 17) dX2_hasInn_16 rfl kc_iconst_0 ?_
    refine r_reti dX2_hasInn_17 rfl (rfl) (Nat.le_of_ble_eq_true rfl) (Nat.le_of_ble_eq_true rfl) ⟨_, rfl, ?_⟩
    exact Or.inr ⟨rfl, rfl, by first | exact x_lo ‹_› hb | exact x_hi ‹_› hb⟩
  · refine r_s (pc' := 5) dX2_hasInn_4 rfl rfl ?_
    refine r_s (pc' := 6) dX2_hasInn_5 rfl rfl ?_
    refine h_gi (pc' := 9) dX2_hasInn_6 rfl fX2_9 (hq).l (hq).K ?_
    refine r_top (hn) ?_
    refine r_cge (pc' := 12) (tgt := 16) dX2_hasInn_9 rfl (by decide) (fun c9 => ?_) (fun c9 => ?_)
    · refine r_c (pc' := 17) dX2_hasInn_16 rfl kc_iconst_0 ?_
      refine r_reti dX2_hasInn_17 rfl (rfl) (Nat.le_of_ble_eq_true rfl) (Nat.le_of_ble_eq_true rfl) ⟨_, rfl, ?_⟩
      exact Or.inr ⟨rfl, rfl, by first | exact x_lo ‹_› hb | exact x_hi ‹_› hb⟩
    · refine r_c (pc' := 13) dX2_hasInn_12 rfl kc_iconst_1 ?_
      refine r_goto (tgt := 17) dX2_hasInn_13 (by decide) ?_
      refine r_reti dX2_hasInn_17 rfl (rfl) (Nat.le_of_ble_eq_true rfl) (Nat.le_of_ble_eq_true rfl) ⟨_, rfl, ?_⟩
      exact Or.inl ⟨rfl, rfl, x_in ‹_› (x_nle ‹_›) hb⟩

set_option maxHeartbeats 4000000 in
set_option maxRecDepth 100000 in
theorem ct_X2_hasGuest {d : Nat} {x : hX} {I : Nat → Nat → Int32} {q n : Nat} {k : Int32} (hq : isR q) (hn : I q 6 = nI n) (hb : n < 2 ^ 31) : ci (d + 1) MX2_hasGuest [.ref q, .int k] (hp x I) (fun r h' => (h' = hp x I ∧ r = 1 ∧ ∃ j, j < n ∧ k = nI j) ∨ (h' = hp x I ∧ r = 0 ∧ ∀ j, j < n → k ≠ nI j)) := by
  refine c_in (L := [.ref q, .int k]) rfl rfl ?_
  refine r_s (pc' := 1) dX2_hasGuest_0 rfl rfl ?_
  refine r_iflt (pc' := 4) (tgt := 16) dX2_hasGuest_1 rfl (by decide) (fun c1 => ?_) (fun c1 => ?_)
  · refine r_c (pc' := 17) dX2_hasGuest_16 rfl kc_iconst_0 ?_
    refine r_reti dX2_hasGuest_17 rfl (rfl) (Nat.le_of_ble_eq_true rfl) (Nat.le_of_ble_eq_true rfl) ⟨_, rfl, ?_⟩
    exact Or.inr ⟨rfl, rfl, by first | exact x_lo ‹_› hb | exact x_hi ‹_› hb⟩
  · refine r_s (pc' := 5) dX2_hasGuest_4 rfl rfl ?_
    refine r_s (pc' := 6) dX2_hasGuest_5 rfl rfl ?_
    refine h_gi (pc' := 9) dX2_hasGuest_6 rfl fX2_31 (hq).l (hq).K ?_
    refine r_top (hn) ?_
    refine r_cge (pc' := 12) (tgt := 16) dX2_hasGuest_9 rfl (by decide) (fun c9 => ?_) (fun c9 => ?_)
    · refine r_c (pc' := 17) dX2_hasGuest_16 rfl kc_iconst_0 ?_
      refine r_reti dX2_hasGuest_17 rfl (rfl) (Nat.le_of_ble_eq_true rfl) (Nat.le_of_ble_eq_true rfl) ⟨_, rfl, ?_⟩
      exact Or.inr ⟨rfl, rfl, by first | exact x_lo ‹_› hb | exact x_hi ‹_› hb⟩
    · refine r_c (pc' := 13) dX2_hasGuest_12 rfl kc_iconst_1 ?_
      refine r_goto (tgt := 17) dX2_hasGuest_13 (by decide) ?_
      refine r_reti dX2_hasGuest_17 rfl (rfl) (Nat.le_of_ble_eq_true rfl) (Nat.le_of_ble_eq_true rfl) ⟨_, rfl, ?_⟩
      exact Or.inl ⟨rfl, rfl, x_in ‹_› (x_nle ‹_›) hb⟩

set_option maxHeartbeats 4000000 in
set_option maxRecDepth 100000 in
theorem ct_X2_hasNight {d : Nat} {x : hX} {I : Nat → Nat → Int32} {q n : Nat} {k : Int32} (hq : isR q) (hn : I q 3 = nI n) (hb : n < 2 ^ 31) : ci (d + 1) MX2_hasNight [.ref q, .int k] (hp x I) (fun r h' => (h' = hp x I ∧ r = 1 ∧ ∃ j, j < n ∧ k = nI j) ∨ (h' = hp x I ∧ r = 0 ∧ ∀ j, j < n → k ≠ nI j)) := by
  refine c_in (L := [.ref q, .int k]) rfl rfl ?_
  refine r_s (pc' := 1) dX2_hasNight_0 rfl rfl ?_
  refine r_iflt (pc' := 4) (tgt := 16) dX2_hasNight_1 rfl (by decide) (fun c1 => ?_) (fun c1 => ?_)
  · refine r_c (pc' := 17) dX2_hasNight_16 rfl kc_iconst_0 ?_
    refine r_reti dX2_hasNight_17 rfl (rfl) (Nat.le_of_ble_eq_true rfl) (Nat.le_of_ble_eq_true rfl) ⟨_, rfl, ?_⟩
    exact Or.inr ⟨rfl, rfl, by first | exact x_lo ‹_› hb | exact x_hi ‹_› hb⟩
  · refine r_s (pc' := 5) dX2_hasNight_4 rfl rfl ?_
    refine r_s (pc' := 6) dX2_hasNight_5 rfl rfl ?_
    refine h_gi (pc' := 9) dX2_hasNight_6 rfl fX2_22 (hq).l (hq).K ?_
    refine r_top (hn) ?_
    refine r_cge (pc' := 12) (tgt := 16) dX2_hasNight_9 rfl (by decide) (fun c9 => ?_) (fun c9 => ?_)
    · refine r_c (pc' := 17) dX2_hasNight_16 rfl kc_iconst_0 ?_
      refine r_reti dX2_hasNight_17 rfl (rfl) (Nat.le_of_ble_eq_true rfl) (Nat.le_of_ble_eq_true rfl) ⟨_, rfl, ?_⟩
      exact Or.inr ⟨rfl, rfl, by first | exact x_lo ‹_› hb | exact x_hi ‹_› hb⟩
    · refine r_c (pc' := 13) dX2_hasNight_12 rfl kc_iconst_1 ?_
      refine r_goto (tgt := 17) dX2_hasNight_13 (by decide) ?_
      refine r_reti dX2_hasNight_17 rfl (rfl) (Nat.le_of_ble_eq_true rfl) (Nat.le_of_ble_eq_true rfl) ⟨_, rfl, ?_⟩
      exact Or.inl ⟨rfl, rfl, x_in ‹_› (x_nle ‹_›) hb⟩

set_option maxHeartbeats 4000000 in
set_option maxRecDepth 100000 in
theorem ct_X2_countsNights {d : Nat} {x : hX} {I : Nat → Nat → Int32} {q n : Nat} {k : Int32} (hq : isR q) (hn : I q 3 = nI n) (hb : n + 1 < 2 ^ 31) : ci (d + 1) MX2_countsNights [.ref q, .int k] (hp x I) (fun r h' => (h' = hp x I ∧ r = 1 ∧ ∃ j, j < n + 1 ∧ k = nI j) ∨ (h' = hp x I ∧ r = 0 ∧ ∀ j, j < n + 1 → k ≠ nI j)) := by
  refine c_in (L := [.ref q, .int k]) rfl rfl ?_
  refine r_s (pc' := 1) dX2_countsNights_0 rfl rfl ?_
  refine r_iflt (pc' := 4) (tgt := 16) dX2_countsNights_1 rfl (by decide) (fun c1 => ?_) (fun c1 => ?_)
  · refine r_c (pc' := 17) dX2_countsNights_16 rfl kc_iconst_0 ?_
    refine r_reti dX2_countsNights_17 rfl (rfl) (Nat.le_of_ble_eq_true rfl) (Nat.le_of_ble_eq_true rfl) ⟨_, rfl, ?_⟩
    exact Or.inr ⟨rfl, rfl, by first | exact x_lo ‹_› (by omega) | exact x_hi' ‹_› hb⟩
  · refine r_s (pc' := 5) dX2_countsNights_4 rfl rfl ?_
    refine r_s (pc' := 6) dX2_countsNights_5 rfl rfl ?_
    refine h_gi (pc' := 9) dX2_countsNights_6 rfl fX2_22 (hq).l (hq).K ?_
    refine r_top (hn) ?_
    refine r_cgt (pc' := 12) (tgt := 16) dX2_countsNights_9 rfl (by decide) (fun c9 => ?_) (fun c9 => ?_)
    · refine r_c (pc' := 17) dX2_countsNights_16 rfl kc_iconst_0 ?_
      refine r_reti dX2_countsNights_17 rfl (rfl) (Nat.le_of_ble_eq_true rfl) (Nat.le_of_ble_eq_true rfl) ⟨_, rfl, ?_⟩
      exact Or.inr ⟨rfl, rfl, by first | exact x_lo ‹_› (by omega) | exact x_hi' ‹_› hb⟩
    · refine r_c (pc' := 13) dX2_countsNights_12 rfl kc_iconst_1 ?_
      refine r_goto (tgt := 17) dX2_countsNights_13 (by decide) ?_
      refine r_reti dX2_countsNights_17 rfl (rfl) (Nat.le_of_ble_eq_true rfl) (Nat.le_of_ble_eq_true rfl) ⟨_, rfl, ?_⟩
      exact Or.inl ⟨rfl, rfl, x_in' ‹_› (x_nlt ‹_›) hb⟩

set_option maxHeartbeats 4000000 in
set_option maxRecDepth 100000 in
theorem ct_X2_stands {d : Nat} {x : hX} {I : Nat → Nat → Int32} {q n : Nat} (hq : isR q) (hn : I q 0 = nI n) (hb : n < 2 ^ 31) : ci (d + 1) MX2_stands [.ref q] (hp x I) (fun r h' => (h' = hp x I ∧ r = 1 ∧ 0 < n) ∨ (h' = hp x I ∧ r = 0 ∧ n = 0)) := by
  refine c_in (L := [.ref q]) rfl rfl ?_
  refine r_s (pc' := 1) dX2_stands_0 rfl rfl ?_
  refine h_gi (pc' := 4) dX2_stands_1 rfl fX2_9 (hq).l (hq).K ?_
  refine r_top (hn) ?_
  refine r_ifle (pc' := 7) (tgt := 11) dX2_stands_4 rfl (by decide) (fun c4 => ?_) (fun c4 => ?_)
  · refine r_c (pc' := 12) dX2_stands_11 rfl kc_iconst_0 ?_
    refine r_reti dX2_stands_12 rfl (rfl) (Nat.le_of_ble_eq_true rfl) (Nat.le_of_ble_eq_true rfl) ⟨_, rfl, ?_⟩
    exact Or.inr ⟨rfl, rfl, Nat.eq_zero_of_not_pos (fun e => nI_nle e hb c4)⟩
  · refine r_c (pc' := 8) dX2_stands_7 rfl kc_iconst_1 ?_
    refine r_goto (tgt := 12) dX2_stands_8 (by decide) ?_
    refine r_reti dX2_stands_12 rfl (rfl) (Nat.le_of_ble_eq_true rfl) (Nat.le_of_ble_eq_true rfl) ⟨_, rfl, ?_⟩
    exact Or.inl ⟨rfl, rfl, Nat.pos_of_ne_zero (fun e => c4 (by subst e; decide))⟩

set_option maxHeartbeats 4000000 in
set_option maxRecDepth 100000 in
theorem ct_X2_hasInnOrRoad {d : Nat} {x : hX} {I : Nat → Nat → Int32} {q n : Nat} {k : Int32} (hq : isR q) (hn : I q 0 = nI n) (hb : n + 1 < 2 ^ 31) : ci (d + 2) MX2_hasInnOrRoad [.ref q, .int k] (hp x I) (fun r h' => (h' = hp x I ∧ r = 1 ∧ 0 < n ∧ ∃ j, j < n + 1 ∧ k = nI j) ∨ (h' = hp x I ∧ r = 0 ∧ (n = 0 ∨ ∀ j, j < n + 1 → k ≠ nI j))) := by
  refine c_in (L := [.ref q, .int k]) rfl rfl ?_
  refine r_s (pc' := 1) dX2_hasInnOrRoad_0 rfl rfl ?_
  refine r_Vi0 (pc' := 4) dX2_hasInnOrRoad_1 rfl lX2_52 (hq).l (hq).K rfl rfl rfl (Nat.le_of_ble_eq_true rfl) (Nat.le_of_ble_eq_true rfl) (ct_X2_stands hq hn (by omega)) (fun r1 h1 e1 => ?_)
  rcases e1 with ⟨rfl, rfl, hs1⟩ | ⟨rfl, rfl, hs1⟩
  · refine r_ifeq_f (pc' := 7) (tgt := 23) dX2_hasInnOrRoad_4 rfl (by decide) (by decide) ?_
    refine r_s (pc' := 8) dX2_hasInnOrRoad_7 rfl rfl ?_
    refine r_iflt (pc' := 11) (tgt := 23) dX2_hasInnOrRoad_8 rfl (by decide) (fun c8 => ?_) (fun c8 => ?_)
    · refine r_c (pc' := 24) dX2_hasInnOrRoad_23 rfl kc_iconst_0 ?_
      refine r_reti dX2_hasInnOrRoad_24 rfl (rfl) (Nat.le_of_ble_eq_true rfl) (Nat.le_of_ble_eq_true rfl) ⟨_, rfl, ?_⟩
      exact Or.inr ⟨rfl, rfl, by first | exact Or.inl hs1 | exact Or.inr (x_lo ‹_› (by omega)) | exact Or.inr (x_hi' ‹_› hb)⟩
    · refine r_s (pc' := 12) dX2_hasInnOrRoad_11 rfl rfl ?_
      refine r_s (pc' := 13) dX2_hasInnOrRoad_12 rfl rfl ?_
      refine h_gi (pc' := 16) dX2_hasInnOrRoad_13 rfl fX2_9 (hq).l (hq).K ?_
      refine r_top (hn) ?_
      refine r_cgt (pc' := 19) (tgt := 23) dX2_hasInnOrRoad_16 rfl (by decide) (fun c16 => ?_) (fun c16 => ?_)
      · refine r_c (pc' := 24) dX2_hasInnOrRoad_23 rfl kc_iconst_0 ?_
        refine r_reti dX2_hasInnOrRoad_24 rfl (rfl) (Nat.le_of_ble_eq_true rfl) (Nat.le_of_ble_eq_true rfl) ⟨_, rfl, ?_⟩
        exact Or.inr ⟨rfl, rfl, by first | exact Or.inl hs1 | exact Or.inr (x_lo ‹_› (by omega)) | exact Or.inr (x_hi' ‹_› hb)⟩
      · refine r_c (pc' := 20) dX2_hasInnOrRoad_19 rfl kc_iconst_1 ?_
        refine r_goto (tgt := 24) dX2_hasInnOrRoad_20 (by decide) ?_
        refine r_reti dX2_hasInnOrRoad_24 rfl (rfl) (Nat.le_of_ble_eq_true rfl) (Nat.le_of_ble_eq_true rfl) ⟨_, rfl, ?_⟩
        exact Or.inl ⟨rfl, rfl, hs1, x_in' ‹_› (x_nlt ‹_›) hb⟩
  · refine r_ifeq_t (tgt := 23) dX2_hasInnOrRoad_4 (by decide) (by decide) ?_
    refine r_c (pc' := 24) dX2_hasInnOrRoad_23 rfl kc_iconst_0 ?_
    refine r_reti dX2_hasInnOrRoad_24 rfl (rfl) (Nat.le_of_ble_eq_true rfl) (Nat.le_of_ble_eq_true rfl) ⟨_, rfl, ?_⟩
    exact Or.inr ⟨rfl, rfl, by first | exact Or.inl hs1 | exact Or.inr (x_lo ‹_› (by omega)) | exact Or.inr (x_hi' ‹_› hb)⟩

set_option maxHeartbeats 4000000 in
set_option maxRecDepth 100000 in
theorem ct_X2_keepsBy {d : Nat} {x : hX} {I : Nat → Nat → Int32} {q j v kd : Nat} (hq : isR q) (hj : j < 6) (hk : I (q + 1) j = nI kd) (hkd : kd = 0 ∨ kd = 1 ∨ kd = 2) : ci (d + 1) MX2_keepsBy [.ref q, .int (nI j), .int (nI v)] (hp x I) (fun r h' => h' = hp x I ∧ r = nI (keeps kd v)) := by
  refine c_in (L := [.ref q, .int (nI j), .int (nI v)]) rfl rfl ?_
  refine r_s (pc' := 1) dX2_keepsBy_0 rfl rfl ?_
  refine r_gr (pc' := 4) dX2_keepsBy_1 rfl fX2_15 (hq).l (hq).K (hq).r1 ?_
  refine r_s (pc' := 5) dX2_keepsBy_4 rfl rfl ?_
  refine h_ald (pc' := 6) dX2_keepsBy_5 rfl ((hq).la 1 rfl) (hq).k1 (vp_in_nI hj (by decide)) (nI_clamp (by omega)) ?_
  refine r_top (hk) ?_
  rcases hkd with rfl | rfl | rfl
  · refine r_look (off := 36) (tgt := 42) dX2_keepsBy_6 (by decide) (by decide) (by decide) ?_
    refine r_s (pc' := 43) dX2_keepsBy_42 rfl rfl ?_
    refine r_reti dX2_keepsBy_43 rfl (rfl) (Nat.le_of_ble_eq_true rfl) (Nat.le_of_ble_eq_true rfl) ⟨_, rfl, ?_⟩
    exact ⟨rfl, rfl⟩
  · refine r_look (off := 32) (tgt := 38) dX2_keepsBy_6 (by decide) (by decide) (by decide) ?_
    refine r_s (pc' := 39) dX2_keepsBy_38 rfl rfl ?_
    refine r_c (pc' := 40) dX2_keepsBy_39 rfl kc_iconst_1 ?_
    refine r_s (pc' := 41) dX2_keepsBy_40 rfl rfl ?_
    refine r_top (nI_1 v) ?_
    refine r_reti dX2_keepsBy_41 rfl (rfl) (Nat.le_of_ble_eq_true rfl) (Nat.le_of_ble_eq_true rfl) ⟨_, rfl, ?_⟩
    exact ⟨rfl, rfl⟩
  · refine r_look (off := 26) (tgt := 32) dX2_keepsBy_6 (by decide) (by decide) (by decide) ?_
    refine r_c (pc' := 33) dX2_keepsBy_32 rfl kc_iconst_2 ?_
    refine r_s (pc' := 34) dX2_keepsBy_33 rfl rfl ?_
    refine r_c (pc' := 35) dX2_keepsBy_34 rfl kc_iconst_1 ?_
    refine r_s (pc' := 36) dX2_keepsBy_35 rfl rfl ?_
    refine r_top (nI_1 v) ?_
    refine r_s (pc' := 37) dX2_keepsBy_36 rfl rfl ?_
    refine r_top ((pk_mul 2 (v + 1) : nI 2 * nI (v + 1) = nI (2 * (v + 1)))) ?_
    refine r_reti dX2_keepsBy_37 rfl (rfl) (Nat.le_of_ble_eq_true rfl) (Nat.le_of_ble_eq_true rfl) ⟨_, rfl, ?_⟩
    exact ⟨rfl, rfl⟩

set_option maxHeartbeats 4000000 in
set_option maxRecDepth 100000 in
theorem ct_X2_roomBy {d : Nat} {x : hX} {I : Nat → Nat → Int32} {q j v kd rm : Nat} (hq : isR q) (hj : j < 6) (hk : I (q + 1) j = nI kd) (hkd : kd = 0 ∨ kd = 1 ∨ kd = 2) (hr : I q 10 = rmI rm) : ci (d + 2) MX2_roomBy [.ref q, .int (nI j), .int (nI v)] (hp x I) (fun r h' => h' = hp x I ∧ r = nI (keeps kd v + rmB rm j)) := by
  refine c_in (L := [.ref q, .int (nI j), .int (nI v), .null]) rfl rfl ?_
  refine r_s (pc' := 1) dX2_roomBy_0 rfl rfl ?_
  refine r_s (pc' := 2) dX2_roomBy_1 rfl rfl ?_
  refine r_s (pc' := 3) dX2_roomBy_2 rfl rfl ?_
  refine r_Vi2 (pc' := 6) dX2_roomBy_3 rfl lX2_56 (hq).l (hq).K rfl rfl rfl (Nat.le_of_ble_eq_true rfl) (Nat.le_of_ble_eq_true rfl) (ct_X2_keepsBy hq hj hk hkd) (fun r3 h3 e3 => ?_)
  obtain ⟨rfl, rfl⟩ := e3
  refine r_st_3_4 (pc' := 7) dX2_roomBy_6 rfl rfl rfl ?_
  refine r_s (pc' := 8) dX2_roomBy_7 rfl rfl ?_
  refine r_s (pc' := 9) dX2_roomBy_8 rfl rfl ?_
  refine h_gi (pc' := 12) dX2_roomBy_9 rfl fX2_43 (hq).l (hq).K ?_
  refine r_top (hr) ?_
  refine r_cne (pc' := 15) (tgt := 21) dX2_roomBy_12 rfl (by decide) (fun c12 => ?_) (fun c12 => ?_)
  · refine r_s (pc' := 22) dX2_roomBy_21 rfl rfl ?_
    refine r_reti dX2_roomBy_22 rfl (rfl) (Nat.le_of_ble_eq_true rfl) (Nat.le_of_ble_eq_true rfl) ⟨_, rfl, ?_⟩
    first | exact ⟨rfl, by rw [rmB, if_neg (fun e => c12 ((rmI_eq hj).mpr e)), Nat.add_zero]⟩ | exact ⟨rfl, by rw [rmB, if_pos ((rmI_eq hj).mp c12)]⟩
  · refine r_s (pc' := 16) dX2_roomBy_15 rfl rfl ?_
    refine r_c (pc' := 17) dX2_roomBy_16 rfl kc_iconst_1 ?_
    refine r_s (pc' := 18) dX2_roomBy_17 rfl rfl ?_
    refine r_top (nI_1 _) ?_
    refine r_goto (tgt := 22) dX2_roomBy_18 (by decide) ?_
    refine r_reti dX2_roomBy_22 rfl (rfl) (Nat.le_of_ble_eq_true rfl) (Nat.le_of_ble_eq_true rfl) ⟨_, rfl, ?_⟩
    first | exact ⟨rfl, by rw [rmB, if_neg (fun e => c12 ((rmI_eq hj).mpr e)), Nat.add_zero]⟩ | exact ⟨rfl, by rw [rmB, if_pos ((rmI_eq hj).mp c12)]⟩

set_option maxHeartbeats 4000000 in
set_option maxRecDepth 100000 in
theorem ct_X2_sweepOver {d : Nat} {x : hX} {I : Nat → Nat → Int32} {q i j v a b : Nat} (hq : isR q) (hi : i < 6) (hj : j < 6) (hne : i ≠ j) (ha : I (q + 2) i = nI a) (hb : I (q + 2) j = nI b) (ha9 : a ≤ 9) (hb9 : b ≤ 9) (hv : v ≤ 9) : ci (d + 1) MX2_sweepOver [.ref q, .int (nI i), .int (nI j), .int (nI v)] (hp x I) (fun r h' => h' = hp x (sm_up (sm_up I (q + 2) i (nI (a - min v a))) (q + 2) j (nI (b + min (min v a) (9 - b)))) ∧ r = nI (min (min v a) (9 - b))) := by
  refine c_in (L := [.ref q, .int (nI i), .int (nI j), .int (nI v), .null, .null]) rfl rfl ?_
  refine r_s (pc' := 1) dX2_sweepOver_0 rfl rfl ?_
  refine r_s (pc' := 2) dX2_sweepOver_1 rfl rfl ?_
  refine r_gr (pc' := 5) dX2_sweepOver_2 rfl fX2_19 (hq).l (hq).K (hq).r2 ?_
  refine r_s (pc' := 6) dX2_sweepOver_5 rfl rfl ?_
  refine h_ald (pc' := 7) dX2_sweepOver_6 rfl ((hq).la 2 rfl) (hq).k2 (vp_in_nI (by omega) (by decide)) (nI_clamp (by omega)) ?_
  refine r_top (ha) ?_
  refine r_min (pc' := 10) dX2_sweepOver_7 rfl jX2_60 rfl (Nat.le_of_ble_eq_true rfl) (Nat.le_of_ble_eq_true rfl) ?_
  refine r_top (x_min (by omega) (by omega)) ?_
  refine r_st_4_6 (pc' := 12) dX2_sweepOver_10 rfl rfl rfl ?_
  refine r_s (pc' := 14) dX2_sweepOver_12 rfl rfl ?_
  refine r_c (pc' := 16) dX2_sweepOver_14 rfl kc_bipush_9 ?_
  refine r_s (pc' := 17) dX2_sweepOver_16 rfl rfl ?_
  refine r_gr (pc' := 20) dX2_sweepOver_17 rfl fX2_19 (hq).l (hq).K (hq).r2 ?_
  refine r_s (pc' := 21) dX2_sweepOver_20 rfl rfl ?_
  refine h_ald (pc' := 22) dX2_sweepOver_21 rfl ((hq).la 2 rfl) (hq).k2 (vp_in_nI (by omega) (by decide)) (nI_clamp (by omega)) ?_
  refine r_top (hb) ?_
  refine r_s (pc' := 23) dX2_sweepOver_22 rfl rfl ?_
  refine r_top ((pk_sub hb9 : nI 9 - nI b = nI (9 - b))) ?_
  refine r_min (pc' := 26) dX2_sweepOver_23 rfl jX2_60 rfl (Nat.le_of_ble_eq_true rfl) (Nat.le_of_ble_eq_true rfl) ?_
  refine r_top (x_min (by omega) (by omega)) ?_
  refine r_st_5_6 (pc' := 28) dX2_sweepOver_26 rfl rfl rfl ?_
  refine r_s (pc' := 29) dX2_sweepOver_28 rfl rfl ?_
  refine r_gr (pc' := 32) dX2_sweepOver_29 rfl fX2_19 (hq).l (hq).K (hq).r2 ?_
  refine r_s (pc' := 33) dX2_sweepOver_32 rfl rfl ?_
  refine r_s (pc' := 34) dX2_sweepOver_33 rfl rfl ?_
  refine h_ald (pc' := 35) dX2_sweepOver_34 rfl ((hq).la 2 rfl) (hq).k2 (vp_in_nI (by omega) (by decide)) (nI_clamp (by omega)) ?_
  refine r_top (ha) ?_
  refine r_s (pc' := 37) dX2_sweepOver_35 rfl rfl ?_
  refine r_s (pc' := 38) dX2_sweepOver_37 rfl rfl ?_
  refine r_top (pk_sub (by omega)) ?_
  refine h_ast (pc' := 39) dX2_sweepOver_38 rfl ((hq).la 2 rfl) (hq).k2 (vp_in_nI (by omega) (by decide)) (nI_clamp (by omega)) ?_
  refine r_s (pc' := 40) dX2_sweepOver_39 rfl rfl ?_
  refine r_gr (pc' := 43) dX2_sweepOver_40 rfl fX2_19 (hq).l (hq).K (hq).r2 ?_
  refine r_s (pc' := 44) dX2_sweepOver_43 rfl rfl ?_
  refine r_s (pc' := 45) dX2_sweepOver_44 rfl rfl ?_
  refine h_ald (pc' := 46) dX2_sweepOver_45 rfl ((hq).la 2 rfl) (hq).k2 (vp_in_nI (by omega) (by decide)) (nI_clamp (by omega)) ?_
  refine r_top (show sm_up I (q + 2) i _ (q + 2) j = nI b by unfold sm_up; rw [if_pos rfl, if_neg (Ne.symm hne)]; exact hb) ?_
  refine r_s (pc' := 48) dX2_sweepOver_46 rfl rfl ?_
  refine r_s (pc' := 49) dX2_sweepOver_48 rfl rfl ?_
  refine r_top (nI_add _ _) ?_
  refine h_ast (pc' := 50) dX2_sweepOver_49 rfl ((hq).la 2 rfl) (hq).k2 (vp_in_nI (by omega) (by decide)) (nI_clamp (by omega)) ?_
  refine r_s (pc' := 52) dX2_sweepOver_50 rfl rfl ?_
  refine r_reti dX2_sweepOver_52 rfl (rfl) (Nat.le_of_ble_eq_true rfl) (Nat.le_of_ble_eq_true rfl) ⟨_, rfl, ?_⟩
  exact ⟨rfl, rfl⟩

set_option maxHeartbeats 4000000 in
set_option maxRecDepth 100000 in
theorem lp_X2_membersOf {call : sm_K} {Q : sm_Q} {x : hX} {I : Nat → Nat → Int32} {f : Int32} {n : Nat} (hn : I 2 6 = nI n) (hb : n ≤ 8) (hQ : Q (some (.int (nI (mk (fun g => decide (I 7 g = f)) n)))) (hp x I)) : ∀ (m i : Nat), i + m = n → sm_wp call 0 0 MX2_membersOf Q 4 [.ref 2, .int f, .int (nI (mk (fun g => decide (I 7 g = f)) i)), .int (nI i)] [] (hp x I) 0 0 := by
  intro m
  induction m with
  | zero =>
    intro i hi
    have hin : i = n := by omega
    subst hin
    refine r_s (pc' := 5) dX2_membersOf_4 rfl rfl ?_
    refine r_s (pc' := 6) dX2_membersOf_5 rfl rfl ?_
    refine h_gi (pc' := 9) dX2_membersOf_6 rfl fX2_31 (hl_ rfl) rfl ?_
    refine r_top (hn) ?_
    refine r_cge_t (tgt := 34) dX2_membersOf_9 (by decide) (Int32.le_refl _) ?_
    refine r_s (pc' := 35) dX2_membersOf_34 rfl rfl ?_
    refine r_reti dX2_membersOf_35 rfl (rfl) (Nat.le_of_ble_eq_true rfl) (Nat.le_of_ble_eq_true rfl) ?_
    exact hQ
  | succ m ih =>
    intro i hi
    refine r_s (pc' := 5) dX2_membersOf_4 rfl rfl ?_
    refine r_s (pc' := 6) dX2_membersOf_5 rfl rfl ?_
    refine h_gi (pc' := 9) dX2_membersOf_6 rfl fX2_31 (hl_ rfl) rfl ?_
    refine r_top (hn) ?_
    refine r_cge_f (pc' := 12) (tgt := 34) dX2_membersOf_9 rfl (by decide) (nI_ge (by omega) (by omega)) ?_
    refine r_s (pc' := 13) dX2_membersOf_12 rfl rfl ?_
    refine r_gr (pc' := 16) dX2_membersOf_13 rfl fX2_34 (hl_ rfl) rfl rfl ?_
    refine r_s (pc' := 17) dX2_membersOf_16 rfl rfl ?_
    refine h_ald (pc' := 18) dX2_membersOf_17 rfl (hl_ rfl) rfl (vp_in_nI (by omega) (by decide)) (nI_clamp (by omega)) ?_
    refine r_s (pc' := 19) dX2_membersOf_18 rfl rfl ?_
    refine r_cne (pc' := 22) (tgt := 28) dX2_membersOf_19 rfl (by decide) (fun c19 => ?_) (fun c19 => ?_)
    · (try rw [show mk (fun g => decide (I 7 g = f)) i = mk (fun g => decide (I 7 g = f)) (i + 1) from by rw [mk_or, if_neg (by simpa using c19), Nat.or_zero]])
      refine r_in_3_4 (pc' := 31) dX2_membersOf_28 rfl rfl (i1 _) ?_
      refine r_goto (tgt := 4) dX2_membersOf_31 (by decide) ?_
      exact ih (i + 1) (by omega)
    · refine r_s (pc' := 23) dX2_membersOf_22 rfl rfl ?_
      refine r_c (pc' := 24) dX2_membersOf_23 rfl kc_iconst_1 ?_
      refine r_s (pc' := 25) dX2_membersOf_24 rfl rfl ?_
      refine r_s (pc' := 26) dX2_membersOf_25 rfl rfl ?_
      refine r_top (sh1 (by omega)) ?_
      refine r_s (pc' := 27) dX2_membersOf_26 rfl rfl ?_
      refine r_top ((fa_or _ _).trans (congrArg nI (show mk (fun g => decide (I 7 g = f)) i ||| 2 ^ i = mk (fun g => decide (I 7 g = f)) (i + 1) from by rw [mk_or, if_pos (decide_eq_true c19)]))) ?_
      refine r_st_2_4 (pc' := 28) dX2_membersOf_27 rfl rfl rfl ?_
      (try rw [show mk (fun g => decide (I 7 g = f)) i = mk (fun g => decide (I 7 g = f)) (i + 1) from by rw [mk_or, if_neg (by simpa using c19), Nat.or_zero]])
      refine r_in_3_4 (pc' := 31) dX2_membersOf_28 rfl rfl (i1 _) ?_
      refine r_goto (tgt := 4) dX2_membersOf_31 (by decide) ?_
      exact ih (i + 1) (by omega)

set_option maxHeartbeats 4000000 in
set_option maxRecDepth 100000 in
theorem ct_X2_membersOf {d : Nat} {x : hX} {I : Nat → Nat → Int32} {f : Int32} {n : Nat} (hn : I 2 6 = nI n) (hb : n ≤ 8) : ci (d + 1) MX2_membersOf [.ref 2, .int f] (hp x I) (fun r h' => h' = hp x I ∧ r = nI (mk (fun g => decide (I 7 g = f)) n)) := by
  refine c_in (L := [.ref 2, .int f, .null, .null]) rfl rfl ?_
  refine r_c (pc' := 1) dX2_membersOf_0 rfl kc_iconst_0 ?_
  refine r_st_2_4 (pc' := 2) dX2_membersOf_1 rfl rfl rfl ?_
  refine r_c (pc' := 3) dX2_membersOf_2 rfl kc_iconst_0 ?_
  refine r_st_3_4 (pc' := 4) dX2_membersOf_3 rfl rfl rfl ?_
  exact lp_X2_membersOf hn hb ⟨_, rfl, rfl, rfl⟩ n 0 (by omega)

set_option maxHeartbeats 4000000 in
set_option maxRecDepth 100000 in
theorem ct_X2_clear {d : Nat} {x : hX} {I : Nat → Nat → Int32} : cv (d + 1) MX2_clear [.ref 9] (hp x I) (fun h' => h' = hp x (sm_up (sm_up (sm_up (sm_up (sm_up I 9 0 0) 9 3 0) 9 6 0) 9 9 0) 9 10 (-9))) := by
  refine c_in (L := [.ref 9]) rfl rfl ?_
  refine r_s (pc' := 1) dX2_clear_0 rfl rfl ?_
  refine r_c (pc' := 2) dX2_clear_1 rfl kc_iconst_0 ?_
  refine h_pi (pc' := 5) dX2_clear_2 rfl fX2_9 rfl (hl_ rfl) rfl ?_
  refine r_s (pc' := 6) dX2_clear_5 rfl rfl ?_
  refine r_c (pc' := 7) dX2_clear_6 rfl kc_iconst_0 ?_
  refine h_pi (pc' := 10) dX2_clear_7 rfl fX2_22 rfl (hl_ rfl) rfl ?_
  refine r_s (pc' := 11) dX2_clear_10 rfl rfl ?_
  refine r_c (pc' := 12) dX2_clear_11 rfl kc_iconst_0 ?_
  refine h_pi (pc' := 15) dX2_clear_12 rfl fX2_31 rfl (hl_ rfl) rfl ?_
  refine r_s (pc' := 16) dX2_clear_15 rfl rfl ?_
  refine r_c (pc' := 17) dX2_clear_16 rfl kc_iconst_0 ?_
  refine h_pi (pc' := 20) dX2_clear_17 rfl fX2_40 rfl (hl_ rfl) rfl ?_
  refine r_s (pc' := 21) dX2_clear_20 rfl rfl ?_
  refine r_c (pc' := 23) dX2_clear_21 rfl kc_bipush_m9 ?_
  refine h_pi (pc' := 26) dX2_clear_23 rfl fX2_43 rfl (hl_ rfl) rfl ?_
  refine r_retv dX2_clear_26 rfl (Nat.le_of_ble_eq_true rfl) (Nat.le_of_ble_eq_true rfl) ⟨rfl, ?_⟩
  exact rfl

set_option maxHeartbeats 4000000 in
set_option maxRecDepth 100000 in
theorem ct_X2_become_2 {d : Nat} {x : hX} {I : Nat → Nat → Int32} {ρ : zR} (hR : isRd I 9 ρ) (hw : wfR ρ) : cv (d + 1) MX2_become [.ref 2, .ref 9] (hp x I) (fun h' => ∃ I', h' = hp x I' ∧ (∀ r, (r < 2 ∨ 8 < r) → I' r = I r) ∧ isRd I' 2 ρ ∧ I' 2 10 = I 9 10) := by
  refine c_in (L := [.ref 2, .ref 9]) rfl rfl ?_
  refine r_s (pc' := 1) dX2_become_0 rfl rfl ?_
  refine r_s (pc' := 2) dX2_become_1 rfl rfl ?_
  refine h_gi (pc' := 5) dX2_become_2 rfl fX2_9 (hl_ rfl) rfl ?_
  refine h_pi (pc' := 8) dX2_become_5 rfl fX2_9 rfl (hl_ rfl) rfl ?_
  refine r_s (pc' := 9) dX2_become_8 rfl rfl ?_
  refine r_s (pc' := 10) dX2_become_9 rfl rfl ?_
  refine h_gi (pc' := 13) dX2_become_10 rfl fX2_22 (hl_ rfl) rfl ?_
  refine h_pi (pc' := 16) dX2_become_13 rfl fX2_22 rfl (hl_ rfl) rfl ?_
  refine r_s (pc' := 17) dX2_become_16 rfl rfl ?_
  refine r_s (pc' := 18) dX2_become_17 rfl rfl ?_
  refine h_gi (pc' := 21) dX2_become_18 rfl fX2_31 (hl_ rfl) rfl ?_
  refine h_pi (pc' := 24) dX2_become_21 rfl fX2_31 rfl (hl_ rfl) rfl ?_
  refine r_s (pc' := 25) dX2_become_24 rfl rfl ?_
  refine r_s (pc' := 26) dX2_become_25 rfl rfl ?_
  refine h_gi (pc' := 29) dX2_become_26 rfl fX2_40 (hl_ rfl) rfl ?_
  refine h_pi (pc' := 32) dX2_become_29 rfl fX2_40 rfl (hl_ rfl) rfl ?_
  refine r_s (pc' := 33) dX2_become_32 rfl rfl ?_
  refine r_s (pc' := 34) dX2_become_33 rfl rfl ?_
  refine h_gi (pc' := 37) dX2_become_34 rfl fX2_43 (hl_ rfl) rfl ?_
  refine h_pi (pc' := 40) dX2_become_37 rfl fX2_43 rfl (hl_ rfl) rfl ?_
  refine r_s (pc' := 41) dX2_become_40 rfl rfl ?_
  refine r_gr (pc' := 44) dX2_become_41 rfl fX2_15 (hl_ rfl) rfl rfl ?_
  refine r_c (pc' := 45) dX2_become_44 rfl kc_iconst_0 ?_
  refine r_s (pc' := 46) dX2_become_45 rfl rfl ?_
  refine r_gr (pc' := 49) dX2_become_46 rfl fX2_15 (hl_ rfl) rfl rfl ?_
  refine r_c (pc' := 50) dX2_become_49 rfl kc_iconst_0 ?_
  refine r_c (pc' := 52) dX2_become_50 rfl kc_bipush_6 ?_
  refine h_cp0 (m := 6) (pc' := 55) dX2_become_52 rfl jX2_46 (hl_ rfl) (hl_ rfl) rfl rfl (by decide) (by decide) (by decide) (by decide) rfl (fun I52 f52 g52 => ?_)
  refine r_s (pc' := 56) dX2_become_55 rfl rfl ?_
  refine r_gr (pc' := 59) dX2_become_56 rfl fX2_19 (hl_ rfl) rfl rfl ?_
  refine r_c (pc' := 60) dX2_become_59 rfl kc_iconst_0 ?_
  refine r_s (pc' := 61) dX2_become_60 rfl rfl ?_
  refine r_gr (pc' := 64) dX2_become_61 rfl fX2_19 (hl_ rfl) rfl rfl ?_
  refine r_c (pc' := 65) dX2_become_64 rfl kc_iconst_0 ?_
  refine r_c (pc' := 67) dX2_become_65 rfl kc_bipush_6 ?_
  refine h_cp0 (m := 6) (pc' := 70) dX2_become_67 rfl jX2_46 (hl_ rfl) (hl_ rfl) rfl rfl (by decide) (by decide) (by decide) (by decide) rfl (fun I67 f67 g67 => ?_)
  refine r_s (pc' := 71) dX2_become_70 rfl rfl ?_
  refine r_gr (pc' := 74) dX2_become_71 rfl fX2_25 (hl_ rfl) rfl rfl ?_
  refine r_c (pc' := 75) dX2_become_74 rfl kc_iconst_0 ?_
  refine r_s (pc' := 76) dX2_become_75 rfl rfl ?_
  refine r_gr (pc' := 79) dX2_become_76 rfl fX2_25 (hl_ rfl) rfl rfl ?_
  refine r_c (pc' := 80) dX2_become_79 rfl kc_iconst_0 ?_
  refine r_c (pc' := 82) dX2_become_80 rfl kc_bipush_8 ?_
  refine h_cp0 (m := 8) (pc' := 85) dX2_become_82 rfl jX2_46 (hl_ rfl) (hl_ rfl) rfl rfl (by decide) (by decide) (by decide) (by decide) rfl (fun I82 f82 g82 => ?_)
  refine r_s (pc' := 86) dX2_become_85 rfl rfl ?_
  refine r_gr (pc' := 89) dX2_become_86 rfl fX2_28 (hl_ rfl) rfl rfl ?_
  refine r_c (pc' := 90) dX2_become_89 rfl kc_iconst_0 ?_
  refine r_s (pc' := 91) dX2_become_90 rfl rfl ?_
  refine r_gr (pc' := 94) dX2_become_91 rfl fX2_28 (hl_ rfl) rfl rfl ?_
  refine r_c (pc' := 95) dX2_become_94 rfl kc_iconst_0 ?_
  refine r_c (pc' := 97) dX2_become_95 rfl kc_bipush_8 ?_
  refine h_cp0 (m := 8) (pc' := 100) dX2_become_97 rfl jX2_46 (hl_ rfl) (hl_ rfl) rfl rfl (by decide) (by decide) (by decide) (by decide) rfl (fun I97 f97 g97 => ?_)
  refine r_s (pc' := 101) dX2_become_100 rfl rfl ?_
  refine r_gr (pc' := 104) dX2_become_101 rfl fX2_34 (hl_ rfl) rfl rfl ?_
  refine r_c (pc' := 105) dX2_become_104 rfl kc_iconst_0 ?_
  refine r_s (pc' := 106) dX2_become_105 rfl rfl ?_
  refine r_gr (pc' := 109) dX2_become_106 rfl fX2_34 (hl_ rfl) rfl rfl ?_
  refine r_c (pc' := 110) dX2_become_109 rfl kc_iconst_0 ?_
  refine r_c (pc' := 112) dX2_become_110 rfl kc_bipush_8 ?_
  refine h_cp0 (m := 8) (pc' := 115) dX2_become_112 rfl jX2_46 (hl_ rfl) (hl_ rfl) rfl rfl (by decide) (by decide) (by decide) (by decide) rfl (fun I112 f112 g112 => ?_)
  refine r_s (pc' := 116) dX2_become_115 rfl rfl ?_
  refine r_gr (pc' := 119) dX2_become_116 rfl fX2_37 (hl_ rfl) rfl rfl ?_
  refine r_c (pc' := 120) dX2_become_119 rfl kc_iconst_0 ?_
  refine r_s (pc' := 121) dX2_become_120 rfl rfl ?_
  refine r_gr (pc' := 124) dX2_become_121 rfl fX2_37 (hl_ rfl) rfl rfl ?_
  refine r_c (pc' := 125) dX2_become_124 rfl kc_iconst_0 ?_
  refine r_c (pc' := 127) dX2_become_125 rfl kc_bipush_8 ?_
  refine h_cp0 (m := 8) (pc' := 130) dX2_become_127 rfl jX2_46 (hl_ rfl) (hl_ rfl) rfl rfl (by decide) (by decide) (by decide) (by decide) rfl (fun I127 f127 g127 => ?_)
  refine r_retv dX2_become_130 rfl (Nat.le_of_ble_eq_true rfl) (Nat.le_of_ble_eq_true rfl) ⟨rfl, ?_⟩
  refine ⟨_, rfl, fun r hr => ?_, ?_, ?_⟩
  · rw [f127 r (by omega), f112 r (by omega), f97 r (by omega), f82 r (by omega), f67 r (by omega), f52 r (by omega)]
    funext z
    have h0 : r ≠ 2 := by omega
    simp [sm_up, h0]
  · obtain ⟨e0, e3, e6, e9, e1, e2, e4, e5, e7, e8⟩ := hR
    obtain ⟨w0, w1, w2, -⟩ := hw
    refine ⟨by rw [f127 2 (by decide), f112 2 (by decide), f97 2 (by decide), f82 2 (by decide), f67 2 (by decide), f52 2 (by decide)]; simpa [sm_up] using e0, by rw [f127 2 (by decide), f112 2 (by decide), f97 2 (by decide), f82 2 (by decide), f67 2 (by decide), f52 2 (by decide)]; simpa [sm_up] using e3, by rw [f127 2 (by decide), f112 2 (by decide), f97 2 (by decide), f82 2 (by decide), f67 2 (by decide), f52 2 (by decide)]; simpa [sm_up] using e6, by rw [f127 2 (by decide), f112 2 (by decide), f97 2 (by decide), f82 2 (by decide), f67 2 (by decide), f52 2 (by decide)]; simpa [sm_up] using e9, fun k hk => ?_, fun k hk => ?_, fun k hk => ?_, fun k hk => ?_, fun k hk => ?_, fun k hk => ?_⟩
    · have e : ∀ j, j < 6 → I127 (2 + 1) j = I (9 + 1) j := fun j hj => by
        rw [f127 (2 + 1) (by decide), f112 (2 + 1) (by decide), f97 (2 + 1) (by decide), f82 (2 + 1) (by decide), f67 (2 + 1) (by decide)]
        refine (g52 j hj).trans ?_
        simp [sm_up]
      rw [e k (by omega)]
      exact e1 k hk
    · have e : ∀ j, j < 6 → I127 (2 + 2) j = I (9 + 2) j := fun j hj => by
        rw [f127 (2 + 2) (by decide), f112 (2 + 2) (by decide), f97 (2 + 2) (by decide), f82 (2 + 2) (by decide)]
        refine (g67 j hj).trans ?_
        refine (congrFun (show _ = _ from by rw [f52 11 (by decide)]) j).trans ?_
        simp [sm_up]
      rw [e k (by omega)]
      exact e2 k hk
    · have e : ∀ j, j < 8 → I127 (2 + 3) j = I (9 + 3) j := fun j hj => by
        rw [f127 (2 + 3) (by decide), f112 (2 + 3) (by decide), f97 (2 + 3) (by decide)]
        refine (g82 j hj).trans ?_
        refine (congrFun (show _ = _ from by rw [f67 12 (by decide), f52 12 (by decide)]) j).trans ?_
        simp [sm_up]
      rw [e k (by omega)]
      exact e4 k hk
    · have e : ∀ j, j < 8 → I127 (2 + 4) j = I (9 + 4) j := fun j hj => by
        rw [f127 (2 + 4) (by decide), f112 (2 + 4) (by decide)]
        refine (g97 j hj).trans ?_
        refine (congrFun (show _ = _ from by rw [f82 13 (by decide), f67 13 (by decide), f52 13 (by decide)]) j).trans ?_
        simp [sm_up]
      rw [e k (by omega)]
      exact e5 k hk
    · have e : ∀ j, j < 8 → I127 (2 + 5) j = I (9 + 5) j := fun j hj => by
        rw [f127 (2 + 5) (by decide)]
        refine (g112 j hj).trans ?_
        refine (congrFun (show _ = _ from by rw [f97 14 (by decide), f82 14 (by decide), f67 14 (by decide), f52 14 (by decide)]) j).trans ?_
        simp [sm_up]
      rw [e k (by omega)]
      exact e7 k hk
    · have e : ∀ j, j < 8 → I127 (2 + 6) j = I (9 + 6) j := fun j hj => by
        refine (g127 j hj).trans ?_
        refine (congrFun (show _ = _ from by rw [f112 15 (by decide), f97 15 (by decide), f82 15 (by decide), f67 15 (by decide), f52 15 (by decide)]) j).trans ?_
        simp [sm_up]
      rw [e k (by omega)]
      exact e8 k hk
  · rw [f127 2 (by decide), f112 2 (by decide), f97 2 (by decide), f82 2 (by decide), f67 2 (by decide), f52 2 (by decide)]; simp [sm_up]

set_option maxHeartbeats 4000000 in
set_option maxRecDepth 100000 in
theorem ct_X2_become_43 {d : Nat} {x : hX} {I : Nat → Nat → Int32} {ρ : zR} (hR : isRd I 2 ρ) (hw : wfR ρ) : cv (d + 1) MX2_become [.ref 43, .ref 2] (hp x I) (fun h' => ∃ I', h' = hp x I' ∧ (∀ r, (r < 43 ∨ 49 < r) → I' r = I r) ∧ isRd I' 43 ρ ∧ I' 43 10 = I 2 10) := by
  refine c_in (L := [.ref 43, .ref 2]) rfl rfl ?_
  refine r_s (pc' := 1) dX2_become_0 rfl rfl ?_
  refine r_s (pc' := 2) dX2_become_1 rfl rfl ?_
  refine h_gi (pc' := 5) dX2_become_2 rfl fX2_9 (hl_ rfl) rfl ?_
  refine h_pi (pc' := 8) dX2_become_5 rfl fX2_9 rfl (hl_ rfl) rfl ?_
  refine r_s (pc' := 9) dX2_become_8 rfl rfl ?_
  refine r_s (pc' := 10) dX2_become_9 rfl rfl ?_
  refine h_gi (pc' := 13) dX2_become_10 rfl fX2_22 (hl_ rfl) rfl ?_
  refine h_pi (pc' := 16) dX2_become_13 rfl fX2_22 rfl (hl_ rfl) rfl ?_
  refine r_s (pc' := 17) dX2_become_16 rfl rfl ?_
  refine r_s (pc' := 18) dX2_become_17 rfl rfl ?_
  refine h_gi (pc' := 21) dX2_become_18 rfl fX2_31 (hl_ rfl) rfl ?_
  refine h_pi (pc' := 24) dX2_become_21 rfl fX2_31 rfl (hl_ rfl) rfl ?_
  refine r_s (pc' := 25) dX2_become_24 rfl rfl ?_
  refine r_s (pc' := 26) dX2_become_25 rfl rfl ?_
  refine h_gi (pc' := 29) dX2_become_26 rfl fX2_40 (hl_ rfl) rfl ?_
  refine h_pi (pc' := 32) dX2_become_29 rfl fX2_40 rfl (hl_ rfl) rfl ?_
  refine r_s (pc' := 33) dX2_become_32 rfl rfl ?_
  refine r_s (pc' := 34) dX2_become_33 rfl rfl ?_
  refine h_gi (pc' := 37) dX2_become_34 rfl fX2_43 (hl_ rfl) rfl ?_
  refine h_pi (pc' := 40) dX2_become_37 rfl fX2_43 rfl (hl_ rfl) rfl ?_
  refine r_s (pc' := 41) dX2_become_40 rfl rfl ?_
  refine r_gr (pc' := 44) dX2_become_41 rfl fX2_15 (hl_ rfl) rfl rfl ?_
  refine r_c (pc' := 45) dX2_become_44 rfl kc_iconst_0 ?_
  refine r_s (pc' := 46) dX2_become_45 rfl rfl ?_
  refine r_gr (pc' := 49) dX2_become_46 rfl fX2_15 (hl_ rfl) rfl rfl ?_
  refine r_c (pc' := 50) dX2_become_49 rfl kc_iconst_0 ?_
  refine r_c (pc' := 52) dX2_become_50 rfl kc_bipush_6 ?_
  refine h_cp0 (m := 6) (pc' := 55) dX2_become_52 rfl jX2_46 (hl_ rfl) (hl_ rfl) rfl rfl (by decide) (by decide) (by decide) (by decide) rfl (fun I52 f52 g52 => ?_)
  refine r_s (pc' := 56) dX2_become_55 rfl rfl ?_
  refine r_gr (pc' := 59) dX2_become_56 rfl fX2_19 (hl_ rfl) rfl rfl ?_
  refine r_c (pc' := 60) dX2_become_59 rfl kc_iconst_0 ?_
  refine r_s (pc' := 61) dX2_become_60 rfl rfl ?_
  refine r_gr (pc' := 64) dX2_become_61 rfl fX2_19 (hl_ rfl) rfl rfl ?_
  refine r_c (pc' := 65) dX2_become_64 rfl kc_iconst_0 ?_
  refine r_c (pc' := 67) dX2_become_65 rfl kc_bipush_6 ?_
  refine h_cp0 (m := 6) (pc' := 70) dX2_become_67 rfl jX2_46 (hl_ rfl) (hl_ rfl) rfl rfl (by decide) (by decide) (by decide) (by decide) rfl (fun I67 f67 g67 => ?_)
  refine r_s (pc' := 71) dX2_become_70 rfl rfl ?_
  refine r_gr (pc' := 74) dX2_become_71 rfl fX2_25 (hl_ rfl) rfl rfl ?_
  refine r_c (pc' := 75) dX2_become_74 rfl kc_iconst_0 ?_
  refine r_s (pc' := 76) dX2_become_75 rfl rfl ?_
  refine r_gr (pc' := 79) dX2_become_76 rfl fX2_25 (hl_ rfl) rfl rfl ?_
  refine r_c (pc' := 80) dX2_become_79 rfl kc_iconst_0 ?_
  refine r_c (pc' := 82) dX2_become_80 rfl kc_bipush_8 ?_
  refine h_cp0 (m := 8) (pc' := 85) dX2_become_82 rfl jX2_46 (hl_ rfl) (hl_ rfl) rfl rfl (by decide) (by decide) (by decide) (by decide) rfl (fun I82 f82 g82 => ?_)
  refine r_s (pc' := 86) dX2_become_85 rfl rfl ?_
  refine r_gr (pc' := 89) dX2_become_86 rfl fX2_28 (hl_ rfl) rfl rfl ?_
  refine r_c (pc' := 90) dX2_become_89 rfl kc_iconst_0 ?_
  refine r_s (pc' := 91) dX2_become_90 rfl rfl ?_
  refine r_gr (pc' := 94) dX2_become_91 rfl fX2_28 (hl_ rfl) rfl rfl ?_
  refine r_c (pc' := 95) dX2_become_94 rfl kc_iconst_0 ?_
  refine r_c (pc' := 97) dX2_become_95 rfl kc_bipush_8 ?_
  refine h_cp0 (m := 8) (pc' := 100) dX2_become_97 rfl jX2_46 (hl_ rfl) (hl_ rfl) rfl rfl (by decide) (by decide) (by decide) (by decide) rfl (fun I97 f97 g97 => ?_)
  refine r_s (pc' := 101) dX2_become_100 rfl rfl ?_
  refine r_gr (pc' := 104) dX2_become_101 rfl fX2_34 (hl_ rfl) rfl rfl ?_
  refine r_c (pc' := 105) dX2_become_104 rfl kc_iconst_0 ?_
  refine r_s (pc' := 106) dX2_become_105 rfl rfl ?_
  refine r_gr (pc' := 109) dX2_become_106 rfl fX2_34 (hl_ rfl) rfl rfl ?_
  refine r_c (pc' := 110) dX2_become_109 rfl kc_iconst_0 ?_
  refine r_c (pc' := 112) dX2_become_110 rfl kc_bipush_8 ?_
  refine h_cp0 (m := 8) (pc' := 115) dX2_become_112 rfl jX2_46 (hl_ rfl) (hl_ rfl) rfl rfl (by decide) (by decide) (by decide) (by decide) rfl (fun I112 f112 g112 => ?_)
  refine r_s (pc' := 116) dX2_become_115 rfl rfl ?_
  refine r_gr (pc' := 119) dX2_become_116 rfl fX2_37 (hl_ rfl) rfl rfl ?_
  refine r_c (pc' := 120) dX2_become_119 rfl kc_iconst_0 ?_
  refine r_s (pc' := 121) dX2_become_120 rfl rfl ?_
  refine r_gr (pc' := 124) dX2_become_121 rfl fX2_37 (hl_ rfl) rfl rfl ?_
  refine r_c (pc' := 125) dX2_become_124 rfl kc_iconst_0 ?_
  refine r_c (pc' := 127) dX2_become_125 rfl kc_bipush_8 ?_
  refine h_cp0 (m := 8) (pc' := 130) dX2_become_127 rfl jX2_46 (hl_ rfl) (hl_ rfl) rfl rfl (by decide) (by decide) (by decide) (by decide) rfl (fun I127 f127 g127 => ?_)
  refine r_retv dX2_become_130 rfl (Nat.le_of_ble_eq_true rfl) (Nat.le_of_ble_eq_true rfl) ⟨rfl, ?_⟩
  refine ⟨_, rfl, fun r hr => ?_, ?_, ?_⟩
  · rw [f127 r (by omega), f112 r (by omega), f97 r (by omega), f82 r (by omega), f67 r (by omega), f52 r (by omega)]
    funext z
    have h0 : r ≠ 43 := by omega
    simp [sm_up, h0]
  · obtain ⟨e0, e3, e6, e9, e1, e2, e4, e5, e7, e8⟩ := hR
    obtain ⟨w0, w1, w2, -⟩ := hw
    refine ⟨by rw [f127 43 (by decide), f112 43 (by decide), f97 43 (by decide), f82 43 (by decide), f67 43 (by decide), f52 43 (by decide)]; simpa [sm_up] using e0, by rw [f127 43 (by decide), f112 43 (by decide), f97 43 (by decide), f82 43 (by decide), f67 43 (by decide), f52 43 (by decide)]; simpa [sm_up] using e3, by rw [f127 43 (by decide), f112 43 (by decide), f97 43 (by decide), f82 43 (by decide), f67 43 (by decide), f52 43 (by decide)]; simpa [sm_up] using e6, by rw [f127 43 (by decide), f112 43 (by decide), f97 43 (by decide), f82 43 (by decide), f67 43 (by decide), f52 43 (by decide)]; simpa [sm_up] using e9, fun k hk => ?_, fun k hk => ?_, fun k hk => ?_, fun k hk => ?_, fun k hk => ?_, fun k hk => ?_⟩
    · have e : ∀ j, j < 6 → I127 (43 + 1) j = I (2 + 1) j := fun j hj => by
        rw [f127 (43 + 1) (by decide), f112 (43 + 1) (by decide), f97 (43 + 1) (by decide), f82 (43 + 1) (by decide), f67 (43 + 1) (by decide)]
        refine (g52 j hj).trans ?_
        simp [sm_up]
      rw [e k (by omega)]
      exact e1 k hk
    · have e : ∀ j, j < 6 → I127 (43 + 2) j = I (2 + 2) j := fun j hj => by
        rw [f127 (43 + 2) (by decide), f112 (43 + 2) (by decide), f97 (43 + 2) (by decide), f82 (43 + 2) (by decide)]
        refine (g67 j hj).trans ?_
        refine (congrFun (show _ = _ from by rw [f52 4 (by decide)]) j).trans ?_
        simp [sm_up]
      rw [e k (by omega)]
      exact e2 k hk
    · have e : ∀ j, j < 8 → I127 (43 + 3) j = I (2 + 3) j := fun j hj => by
        rw [f127 (43 + 3) (by decide), f112 (43 + 3) (by decide), f97 (43 + 3) (by decide)]
        refine (g82 j hj).trans ?_
        refine (congrFun (show _ = _ from by rw [f67 5 (by decide), f52 5 (by decide)]) j).trans ?_
        simp [sm_up]
      rw [e k (by omega)]
      exact e4 k hk
    · have e : ∀ j, j < 8 → I127 (43 + 4) j = I (2 + 4) j := fun j hj => by
        rw [f127 (43 + 4) (by decide), f112 (43 + 4) (by decide)]
        refine (g97 j hj).trans ?_
        refine (congrFun (show _ = _ from by rw [f82 6 (by decide), f67 6 (by decide), f52 6 (by decide)]) j).trans ?_
        simp [sm_up]
      rw [e k (by omega)]
      exact e5 k hk
    · have e : ∀ j, j < 8 → I127 (43 + 5) j = I (2 + 5) j := fun j hj => by
        rw [f127 (43 + 5) (by decide)]
        refine (g112 j hj).trans ?_
        refine (congrFun (show _ = _ from by rw [f97 7 (by decide), f82 7 (by decide), f67 7 (by decide), f52 7 (by decide)]) j).trans ?_
        simp [sm_up]
      rw [e k (by omega)]
      exact e7 k hk
    · have e : ∀ j, j < 8 → I127 (43 + 6) j = I (2 + 6) j := fun j hj => by
        refine (g127 j hj).trans ?_
        refine (congrFun (show _ = _ from by rw [f112 8 (by decide), f97 8 (by decide), f82 8 (by decide), f67 8 (by decide), f52 8 (by decide)]) j).trans ?_
        simp [sm_up]
      rw [e k (by omega)]
      exact e8 k hk
  · rw [f127 43 (by decide), f112 43 (by decide), f97 43 (by decide), f82 43 (by decide), f67 43 (by decide), f52 43 (by decide)]; simp [sm_up]
