set_option maxHeartbeats 4000000 in
set_option maxRecDepth 100000 in
theorem ct_X2_hasInn {d : Nat} {x : hX} {I : Nat → Nat → Int32} {q n : Nat} {k : Int32} (hq : isR q) (hn : I q 0 = nI n) (hb : n < 2 ^ 31) : ci (d + 1) MX2_hasInn [.ref q, .int k] (hp x I) (fun r h' => (h' = hp x I ∧ r = 1 ∧ ∃ j, j < n ∧ k = nI j) ∨ (h' = hp x I ∧ r = 0 ∧ ∀ j, j < n → k ≠ nI j)) := by
  refine c_in rfl rfl ?_
  refine r_s (pc' := 1) dX2_hasInn_0 rfl rfl ?_
  refine r_iflt (pc' := 4) (tgt := 16) dX2_hasInn_1 rfl (by decide) (fun c1 => ?_) (fun c1 => ?_)
  · refine r_c (pc' := 17) dX2_hasInn_16 rfl kc_iconst_0 ?_
    refine r_reti dX2_hasInn_17 rfl (rfl) (Nat.le_of_ble_eq_true rfl) (Nat.le_of_ble_eq_true rfl) ⟨_, rfl, ?_⟩
    exact Or.inr ⟨rfl, rfl, by first | exact x_lo ‹_› hb | exact x_hi (hn ▸ ‹_›) hb⟩
  · refine r_s (pc' := 5) dX2_hasInn_4 rfl rfl ?_
    refine r_s (pc' := 6) dX2_hasInn_5 rfl rfl ?_
    refine r_gi (pc' := 9) dX2_hasInn_6 rfl fX2_9 (hq).l (hq).K ?_
    refine r_cge (pc' := 12) (tgt := 16) dX2_hasInn_9 rfl (by decide) (fun c9_2 => ?_) (fun c9_2 => ?_)
    · refine r_c (pc' := 17) dX2_hasInn_16 rfl kc_iconst_0 ?_
      refine r_reti dX2_hasInn_17 rfl (rfl) (Nat.le_of_ble_eq_true rfl) (Nat.le_of_ble_eq_true rfl) ⟨_, rfl, ?_⟩
      exact Or.inr ⟨rfl, rfl, by first | exact x_lo ‹_› hb | exact x_hi (hn ▸ ‹_›) hb⟩
    · refine r_c (pc' := 13) dX2_hasInn_12 rfl kc_iconst_1 ?_
      refine r_goto (tgt := 17) dX2_hasInn_13 (by decide) ?_
      refine r_reti dX2_hasInn_17 rfl (rfl) (Nat.le_of_ble_eq_true rfl) (Nat.le_of_ble_eq_true rfl) ⟨_, rfl, ?_⟩
      exact Or.inl ⟨rfl, rfl, x_in ‹_› (x_nle (hn ▸ ‹_›)) hb⟩

set_option maxHeartbeats 4000000 in
set_option maxRecDepth 100000 in
theorem ct_X2_hasGuest {d : Nat} {x : hX} {I : Nat → Nat → Int32} {q n : Nat} {k : Int32} (hq : isR q) (hn : I q 6 = nI n) (hb : n < 2 ^ 31) : ci (d + 1) MX2_hasGuest [.ref q, .int k] (hp x I) (fun r h' => (h' = hp x I ∧ r = 1 ∧ ∃ j, j < n ∧ k = nI j) ∨ (h' = hp x I ∧ r = 0 ∧ ∀ j, j < n → k ≠ nI j)) := by
  refine c_in rfl rfl ?_
  refine r_s (pc' := 1) dX2_hasGuest_0 rfl rfl ?_
  refine r_iflt (pc' := 4) (tgt := 16) dX2_hasGuest_1 rfl (by decide) (fun c1 => ?_) (fun c1 => ?_)
  · refine r_c (pc' := 17) dX2_hasGuest_16 rfl kc_iconst_0 ?_
    refine r_reti dX2_hasGuest_17 rfl (rfl) (Nat.le_of_ble_eq_true rfl) (Nat.le_of_ble_eq_true rfl) ⟨_, rfl, ?_⟩
    exact Or.inr ⟨rfl, rfl, by first | exact x_lo ‹_› hb | exact x_hi (hn ▸ ‹_›) hb⟩
  · refine r_s (pc' := 5) dX2_hasGuest_4 rfl rfl ?_
    refine r_s (pc' := 6) dX2_hasGuest_5 rfl rfl ?_
    refine r_gi (pc' := 9) dX2_hasGuest_6 rfl fX2_31 (hq).l (hq).K ?_
    refine r_cge (pc' := 12) (tgt := 16) dX2_hasGuest_9 rfl (by decide) (fun c9_2 => ?_) (fun c9_2 => ?_)
    · refine r_c (pc' := 17) dX2_hasGuest_16 rfl kc_iconst_0 ?_
      refine r_reti dX2_hasGuest_17 rfl (rfl) (Nat.le_of_ble_eq_true rfl) (Nat.le_of_ble_eq_true rfl) ⟨_, rfl, ?_⟩
      exact Or.inr ⟨rfl, rfl, by first | exact x_lo ‹_› hb | exact x_hi (hn ▸ ‹_›) hb⟩
    · refine r_c (pc' := 13) dX2_hasGuest_12 rfl kc_iconst_1 ?_
      refine r_goto (tgt := 17) dX2_hasGuest_13 (by decide) ?_
      refine r_reti dX2_hasGuest_17 rfl (rfl) (Nat.le_of_ble_eq_true rfl) (Nat.le_of_ble_eq_true rfl) ⟨_, rfl, ?_⟩
      exact Or.inl ⟨rfl, rfl, x_in ‹_› (x_nle (hn ▸ ‹_›)) hb⟩

set_option maxHeartbeats 4000000 in
set_option maxRecDepth 100000 in
theorem ct_X2_hasNight {d : Nat} {x : hX} {I : Nat → Nat → Int32} {q n : Nat} {k : Int32} (hq : isR q) (hn : I q 3 = nI n) (hb : n < 2 ^ 31) : ci (d + 1) MX2_hasNight [.ref q, .int k] (hp x I) (fun r h' => (h' = hp x I ∧ r = 1 ∧ ∃ j, j < n ∧ k = nI j) ∨ (h' = hp x I ∧ r = 0 ∧ ∀ j, j < n → k ≠ nI j)) := by
  refine c_in rfl rfl ?_
  refine r_s (pc' := 1) dX2_hasNight_0 rfl rfl ?_
  refine r_iflt (pc' := 4) (tgt := 16) dX2_hasNight_1 rfl (by decide) (fun c1 => ?_) (fun c1 => ?_)
  · refine r_c (pc' := 17) dX2_hasNight_16 rfl kc_iconst_0 ?_
    refine r_reti dX2_hasNight_17 rfl (rfl) (Nat.le_of_ble_eq_true rfl) (Nat.le_of_ble_eq_true rfl) ⟨_, rfl, ?_⟩
    exact Or.inr ⟨rfl, rfl, by first | exact x_lo ‹_› hb | exact x_hi (hn ▸ ‹_›) hb⟩
  · refine r_s (pc' := 5) dX2_hasNight_4 rfl rfl ?_
    refine r_s (pc' := 6) dX2_hasNight_5 rfl rfl ?_
    refine r_gi (pc' := 9) dX2_hasNight_6 rfl fX2_22 (hq).l (hq).K ?_
    refine r_cge (pc' := 12) (tgt := 16) dX2_hasNight_9 rfl (by decide) (fun c9_2 => ?_) (fun c9_2 => ?_)
    · refine r_c (pc' := 17) dX2_hasNight_16 rfl kc_iconst_0 ?_
      refine r_reti dX2_hasNight_17 rfl (rfl) (Nat.le_of_ble_eq_true rfl) (Nat.le_of_ble_eq_true rfl) ⟨_, rfl, ?_⟩
      exact Or.inr ⟨rfl, rfl, by first | exact x_lo ‹_› hb | exact x_hi (hn ▸ ‹_›) hb⟩
    · refine r_c (pc' := 13) dX2_hasNight_12 rfl kc_iconst_1 ?_
      refine r_goto (tgt := 17) dX2_hasNight_13 (by decide) ?_
      refine r_reti dX2_hasNight_17 rfl (rfl) (Nat.le_of_ble_eq_true rfl) (Nat.le_of_ble_eq_true rfl) ⟨_, rfl, ?_⟩
      exact Or.inl ⟨rfl, rfl, x_in ‹_› (x_nle (hn ▸ ‹_›)) hb⟩

set_option maxHeartbeats 4000000 in
set_option maxRecDepth 100000 in
theorem ct_X2_countsNights {d : Nat} {x : hX} {I : Nat → Nat → Int32} {q n : Nat} {k : Int32} (hq : isR q) (hn : I q 3 = nI n) (hb : n + 1 < 2 ^ 31) : ci (d + 1) MX2_countsNights [.ref q, .int k] (hp x I) (fun r h' => (h' = hp x I ∧ r = 1 ∧ ∃ j, j < n + 1 ∧ k = nI j) ∨ (h' = hp x I ∧ r = 0 ∧ ∀ j, j < n + 1 → k ≠ nI j)) := by
  refine c_in rfl rfl ?_
  refine r_s (pc' := 1) dX2_countsNights_0 rfl rfl ?_
  refine r_iflt (pc' := 4) (tgt := 16) dX2_countsNights_1 rfl (by decide) (fun c1 => ?_) (fun c1 => ?_)
  · refine r_c (pc' := 17) dX2_countsNights_16 rfl kc_iconst_0 ?_
    refine r_reti dX2_countsNights_17 rfl (rfl) (Nat.le_of_ble_eq_true rfl) (Nat.le_of_ble_eq_true rfl) ⟨_, rfl, ?_⟩
    exact Or.inr ⟨rfl, rfl, by first | exact x_lo ‹_› hb | exact x_hi' (hn ▸ ‹_›) hb⟩
  · refine r_s (pc' := 5) dX2_countsNights_4 rfl rfl ?_
    refine r_s (pc' := 6) dX2_countsNights_5 rfl rfl ?_
    refine r_gi (pc' := 9) dX2_countsNights_6 rfl fX2_22 (hq).l (hq).K ?_
    refine r_cgt (pc' := 12) (tgt := 16) dX2_countsNights_9 rfl (by decide) (fun c9_2 => ?_) (fun c9_2 => ?_)
    · refine r_c (pc' := 17) dX2_countsNights_16 rfl kc_iconst_0 ?_
      refine r_reti dX2_countsNights_17 rfl (rfl) (Nat.le_of_ble_eq_true rfl) (Nat.le_of_ble_eq_true rfl) ⟨_, rfl, ?_⟩
      exact Or.inr ⟨rfl, rfl, by first | exact x_lo ‹_› hb | exact x_hi' (hn ▸ ‹_›) hb⟩
    · refine r_c (pc' := 13) dX2_countsNights_12 rfl kc_iconst_1 ?_
      refine r_goto (tgt := 17) dX2_countsNights_13 (by decide) ?_
      refine r_reti dX2_countsNights_17 rfl (rfl) (Nat.le_of_ble_eq_true rfl) (Nat.le_of_ble_eq_true rfl) ⟨_, rfl, ?_⟩
      exact Or.inl ⟨rfl, rfl, x_in' ‹_› (x_nlt (hn ▸ ‹_›)) hb⟩

set_option maxHeartbeats 4000000 in
set_option maxRecDepth 100000 in
theorem ct_X2_stands {d : Nat} {x : hX} {I : Nat → Nat → Int32} {q n : Nat} (hq : isR q) (hn : I q 0 = nI n) (hb : n < 2 ^ 31) : ci (d + 1) MX2_stands [.ref q] (hp x I) (fun r h' => (h' = hp x I ∧ r = 1 ∧ 0 < n) ∨ (h' = hp x I ∧ r = 0 ∧ n = 0)) := by
  refine c_in rfl rfl ?_
  refine r_s (pc' := 1) dX2_stands_0 rfl rfl ?_
  refine r_gi (pc' := 4) dX2_stands_1 rfl fX2_9 (hq).l (hq).K ?_
  refine r_ifle (pc' := 7) (tgt := 11) dX2_stands_4 rfl (by decide) (fun c4 => ?_) (fun c4 => ?_)
  · refine r_c (pc' := 12) dX2_stands_11 rfl kc_iconst_0 ?_
    refine r_reti dX2_stands_12 rfl (rfl) (Nat.le_of_ble_eq_true rfl) (Nat.le_of_ble_eq_true rfl) ⟨_, rfl, ?_⟩
    exact Or.inr ⟨rfl, rfl, Nat.eq_zero_of_not_pos (fun e => nI_nle e hb (hn ▸ ‹_›))⟩
  · refine r_c (pc' := 8) dX2_stands_7 rfl kc_iconst_1 ?_
    refine r_goto (tgt := 12) dX2_stands_8 (by decide) ?_
    refine r_reti dX2_stands_12 rfl (rfl) (Nat.le_of_ble_eq_true rfl) (Nat.le_of_ble_eq_true rfl) ⟨_, rfl, ?_⟩
    exact Or.inl ⟨rfl, rfl, Nat.pos_of_ne_zero (fun e => by subst e; rw [hn] at *; exact absurd ‹¬ _› (by decide))⟩
