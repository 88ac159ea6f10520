theorem lc_lt (x y : Int64) : lg_cmp x y < 0 ↔ x.toInt < y.toInt := by
  unfold lg_cmp
  by_cases h1 : x > y
  · rw [if_pos h1]
    have := (fa_lt64 y x).mp h1
    exact ⟨fun h => absurd h (by decide), fun h => by omega⟩
  · rw [if_neg h1]
    have h2 : ¬ y.toInt < x.toInt := fun h => h1 ((fa_lt64 y x).mpr h)
    by_cases h3 : x = y
    · rw [if_pos h3, h3]
      exact ⟨fun h => absurd h (by decide), fun h => by omega⟩
    · rw [if_neg h3]
      have h4 : ¬ x.toInt = y.toInt := fun h => h3 ((fa_eq64 x y).mpr h)
      exact ⟨fun _ => by omega, fun _ => by decide⟩
theorem lc_gt (x y : Int64) : 0 < lg_cmp x y ↔ y.toInt < x.toInt := by
  unfold lg_cmp
  by_cases h1 : x > y
  · rw [if_pos h1]
    exact ⟨fun _ => (fa_lt64 y x).mp h1, fun _ => by decide⟩
  · rw [if_neg h1]
    have h2 : ¬ y.toInt < x.toInt := fun h => h1 ((fa_lt64 y x).mpr h)
    by_cases h3 : x = y
    · rw [if_pos h3]
      exact ⟨fun h => absurd h (by decide), fun h => absurd h h2⟩
    · rw [if_neg h3]
      exact ⟨fun h => absurd h (by decide), fun h => absurd h h2⟩
theorem l_k (k : Int32) : k.toInt64.toInt = k.toInt := Int32.toInt_toInt64 k
theorem l_n {n : Nat} (h : n < 2 ^ 31) : (lN n).toInt = (n : Int) := lN_toInt h
theorem l_m1 {n : Nat} (h : n < 2 ^ 31) : (lN n - lN 1).toInt = (n : Int) - 1 := by
  match n with
  | 0 => decide
  | n + 1 => rw [lN_sub (by omega), Nat.add_sub_cancel, lN_toInt (by omega)]; omega
theorem k_in {k : Int32} {n : Nat} (h1 : (0 : Int) ≤ k.toInt) (h2 : k.toInt < (n : Int)) (hn : n < 2 ^ 31) : ∃ j, j < n ∧ k = nI j := vp_in_of (vp_in_iff.mpr ⟨h1, h2⟩) hn
theorem k_no {k : Int32} {n : Nat} (h : ¬ ((0 : Int) ≤ k.toInt ∧ k.toInt < (n : Int))) (hn : n < 2 ^ 31) : ∀ j, j < n → k ≠ nI j := fun j hj e => h (by subst e; rw [nI_toInt (by omega)]; omega)

set_option maxHeartbeats 4000000 in
set_option maxRecDepth 100000 in
theorem ct_in {d : Nat} {h : sm_H} {v l u : Int64} : ci (d + 1) MX7_in [.long v, .long l, .long u] h (fun r h' => (h' = h ∧ r = 1 ∧ l.toInt ≤ v.toInt ∧ v.toInt ≤ u.toInt) ∨ (h' = h ∧ r = 0 ∧ ¬ (l.toInt ≤ v.toInt ∧ v.toInt ≤ u.toInt))) := by
  refine c_in (L := [.long v, .null, .long l, .null, .long u, .null]) rfl rfl ?_
  refine r_s (pc' := 1) dX7_in_0 rfl rfl ?_
  refine r_s (pc' := 2) dX7_in_1 rfl rfl ?_
  refine r_s (pc' := 3) dX7_in_2 rfl rfl ?_
  refine r_iflt (pc' := 6) (tgt := 17) dX7_in_3 rfl (by decide) (fun c3 => ?_) (fun c3 => ?_)
  · refine r_c (pc' := 18) dX7_in_17 rfl kc_iconst_0 ?_
    refine r_reti dX7_in_18 rfl (rfl) (Nat.le_of_ble_eq_true rfl) (Nat.le_of_ble_eq_true rfl) ⟨_, rfl, ?_⟩
    exact Or.inr ⟨rfl, rfl, by have := (lc_lt _ _).mp c3; omega⟩
  · refine r_s (pc' := 7) dX7_in_6 rfl rfl ?_
    refine r_s (pc' := 9) dX7_in_7 rfl rfl ?_
    refine r_s (pc' := 10) dX7_in_9 rfl rfl ?_
    refine r_ifgt (pc' := 13) (tgt := 17) dX7_in_10 rfl (by decide) (fun c10 => ?_) (fun c10 => ?_)
    · refine r_c (pc' := 18) dX7_in_17 rfl kc_iconst_0 ?_
      refine r_reti dX7_in_18 rfl (rfl) (Nat.le_of_ble_eq_true rfl) (Nat.le_of_ble_eq_true rfl) ⟨_, rfl, ?_⟩
      exact Or.inr ⟨rfl, rfl, by have := (lc_gt _ _).mp c10; omega⟩
    · refine r_c (pc' := 14) dX7_in_13 rfl kc_iconst_1 ?_
      refine r_goto (tgt := 18) dX7_in_14 (by decide) ?_
      refine r_reti dX7_in_18 rfl (rfl) (Nat.le_of_ble_eq_true rfl) (Nat.le_of_ble_eq_true rfl) ⟨_, rfl, ?_⟩
      exact Or.inl ⟨rfl, rfl, by have := mt (lc_lt _ _).mpr c3; omega, by have := mt (lc_gt _ _).mpr c10; omega⟩

/-- in (k, 0, n - 1) -/
theorem ct_in_n {d : Nat} {h : sm_H} {k : Int32} {n : Nat} (hn : n < 2 ^ 31) : ci (d + 1) MX7_in [.long k.toInt64, .long 0, .long (lN n - lN 1)] h (fun r h' => (h' = h ∧ r = 1 ∧ ∃ j, j < n ∧ k = nI j) ∨ (h' = h ∧ r = 0 ∧ ∀ j, j < n → k ≠ nI j)) := ci_mono ct_in (fun r h' q => by
  rw [l_k, l_m1 hn, show (0 : Int64).toInt = 0 from rfl] at q
  rcases q with ⟨a, b, e1, e2⟩ | ⟨a, b, e⟩
  · exact Or.inl ⟨a, b, k_in e1 (by omega) hn⟩
  · exact Or.inr ⟨a, b, k_no (by omega) hn⟩)
/-- in (k, 0, n) -/
theorem ct_in_m {d : Nat} {h : sm_H} {k : Int32} {n : Nat} (hn : n + 1 < 2 ^ 31) : ci (d + 1) MX7_in [.long k.toInt64, .long 0, .long (lN n)] h (fun r h' => (h' = h ∧ r = 1 ∧ ∃ j, j < n + 1 ∧ k = nI j) ∨ (h' = h ∧ r = 0 ∧ ∀ j, j < n + 1 → k ≠ nI j)) := ci_mono ct_in (fun r h' q => by
  rw [l_k, l_n (by omega), show (0 : Int64).toInt = 0 from rfl] at q
  rcases q with ⟨a, b, e1, e2⟩ | ⟨a, b, e⟩
  · exact Or.inl ⟨a, b, k_in e1 (by omega) hn⟩
  · exact Or.inr ⟨a, b, k_no (by omega) hn⟩)

set_option maxHeartbeats 4000000 in
set_option maxRecDepth 100000 in
theorem ct_X7_noInn {d : Nat} {x : hX} {I : Nat → Nat → Int32} {k : Int32} {n : Nat} (hn : I 80 1 = nI n) (hb : n < 2 ^ 31) : ci (d + 2) MX7_noInn [.ref 80, .int k] (hp x I) (fun r h' => (h' = hp x I ∧ r = 0 ∧ ∃ j, j < n ∧ k = nI j) ∨ (h' = hp x I ∧ r = 1 ∧ ∀ j, j < n → k ≠ nI j)) := by
  refine c_in (L := [.ref 80, .int k]) rfl rfl ?_
  refine r_s (pc' := 1) dX7_noInn_0 rfl rfl ?_
  refine r_s (pc' := 2) dX7_noInn_1 rfl rfl ?_
  refine r_c (pc' := 3) dX7_noInn_2 rfl kc_lconst_0 ?_
  refine r_s (pc' := 4) dX7_noInn_3 rfl rfl ?_
  refine h_gi (pc' := 7) dX7_noInn_4 rfl fX7_86 (hl_ rfl) rfl ?_
  refine r_top (hn) ?_
  refine r_s (pc' := 8) dX7_noInn_7 rfl rfl ?_
  refine r_c (pc' := 9) dX7_noInn_8 rfl kc_lconst_1 ?_
  refine r_s (pc' := 10) dX7_noInn_9 rfl rfl ?_
  refine r_topl ((show (nI n).toInt64 - 1 = lN n - lN 1 by rw [nI_l hb]; rfl)) ?_
  refine r_Si3 (pc' := 13) dX7_noInn_10 rfl lX7_89 rfl (Nat.le_of_ble_eq_true rfl) (Nat.le_of_ble_eq_true rfl) (ct_in_n hb) (fun r10 h10 e10 => ?_)
  rcases e10 with ⟨rfl, rfl, j10, hj10, rfl⟩ | ⟨rfl, rfl, hn10⟩
  · refine r_ifne_t (tgt := 20) dX7_noInn_13 (by decide) (by decide) ?_
    refine r_c (pc' := 21) dX7_noInn_20 rfl kc_iconst_0 ?_
    refine r_reti dX7_noInn_21 rfl (rfl) (Nat.le_of_ble_eq_true rfl) (Nat.le_of_ble_eq_true rfl) ⟨_, rfl, ?_⟩
    exact Or.inl ⟨rfl, rfl, j10, hj10, rfl⟩
  · refine r_ifne_f (pc' := 16) (tgt := 20) dX7_noInn_13 rfl (by decide) (by decide) ?_
    refine r_c (pc' := 17) dX7_noInn_16 rfl kc_iconst_1 ?_
    refine r_goto (tgt := 21) dX7_noInn_17 (by decide) ?_
    refine r_reti dX7_noInn_21 rfl (rfl) (Nat.le_of_ble_eq_true rfl) (Nat.le_of_ble_eq_true rfl) ⟨_, rfl, ?_⟩
    exact Or.inr ⟨rfl, rfl, hn10⟩

set_option maxHeartbeats 4000000 in
set_option maxRecDepth 100000 in
theorem ct_X7_noGuest {d : Nat} {x : hX} {I : Nat → Nat → Int32} {k : Int32} {n : Nat} (hn : I 80 7 = nI n) (hb : n < 2 ^ 31) : ci (d + 2) MX7_noGuest [.ref 80, .int k] (hp x I) (fun r h' => (h' = hp x I ∧ r = 0 ∧ ∃ j, j < n ∧ k = nI j) ∨ (h' = hp x I ∧ r = 1 ∧ ∀ j, j < n → k ≠ nI j)) := by
  refine c_in (L := [.ref 80, .int k]) rfl rfl ?_
  refine r_s (pc' := 1) dX7_noGuest_0 rfl rfl ?_
  refine r_s (pc' := 2) dX7_noGuest_1 rfl rfl ?_
  refine r_c (pc' := 3) dX7_noGuest_2 rfl kc_lconst_0 ?_
  refine r_s (pc' := 4) dX7_noGuest_3 rfl rfl ?_
  refine h_gi (pc' := 7) dX7_noGuest_4 rfl fX7_93 (hl_ rfl) rfl ?_
  refine r_top (hn) ?_
  refine r_s (pc' := 8) dX7_noGuest_7 rfl rfl ?_
  refine r_c (pc' := 9) dX7_noGuest_8 rfl kc_lconst_1 ?_
  refine r_s (pc' := 10) dX7_noGuest_9 rfl rfl ?_
  refine r_topl ((show (nI n).toInt64 - 1 = lN n - lN 1 by rw [nI_l hb]; rfl)) ?_
  refine r_Si3 (pc' := 13) dX7_noGuest_10 rfl lX7_89 rfl (Nat.le_of_ble_eq_true rfl) (Nat.le_of_ble_eq_true rfl) (ct_in_n hb) (fun r10 h10 e10 => ?_)
  rcases e10 with ⟨rfl, rfl, j10, hj10, rfl⟩ | ⟨rfl, rfl, hn10⟩
  · refine r_ifne_t (tgt := 20) dX7_noGuest_13 (by decide) (by decide) ?_
    refine r_c (pc' := 21) dX7_noGuest_20 rfl kc_iconst_0 ?_
    refine r_reti dX7_noGuest_21 rfl (rfl) (Nat.le_of_ble_eq_true rfl) (Nat.le_of_ble_eq_true rfl) ⟨_, rfl, ?_⟩
    exact Or.inl ⟨rfl, rfl, j10, hj10, rfl⟩
  · refine r_ifne_f (pc' := 16) (tgt := 20) dX7_noGuest_13 rfl (by decide) (by decide) ?_
    refine r_c (pc' := 17) dX7_noGuest_16 rfl kc_iconst_1 ?_
    refine r_goto (tgt := 21) dX7_noGuest_17 (by decide) ?_
    refine r_reti dX7_noGuest_21 rfl (rfl) (Nat.le_of_ble_eq_true rfl) (Nat.le_of_ble_eq_true rfl) ⟨_, rfl, ?_⟩
    exact Or.inr ⟨rfl, rfl, hn10⟩

set_option maxHeartbeats 4000000 in
set_option maxRecDepth 100000 in
theorem ct_X7_noNight {d : Nat} {x : hX} {I : Nat → Nat → Int32} {k : Int32} {n : Nat} (hn : I 80 4 = nI n) (hb : n < 2 ^ 31) : ci (d + 2) MX7_noNight [.ref 80, .int k] (hp x I) (fun r h' => (h' = hp x I ∧ r = 0 ∧ ∃ j, j < n ∧ k = nI j) ∨ (h' = hp x I ∧ r = 1 ∧ ∀ j, j < n → k ≠ nI j)) := by
  refine c_in (L := [.ref 80, .int k]) rfl rfl ?_
  refine r_s (pc' := 1) dX7_noNight_0 rfl rfl ?_
  refine r_s (pc' := 2) dX7_noNight_1 rfl rfl ?_
  refine r_c (pc' := 3) dX7_noNight_2 rfl kc_lconst_0 ?_
  refine r_s (pc' := 4) dX7_noNight_3 rfl rfl ?_
  refine h_gi (pc' := 7) dX7_noNight_4 rfl fX7_96 (hl_ rfl) rfl ?_
  refine r_top (hn) ?_
  refine r_s (pc' := 8) dX7_noNight_7 rfl rfl ?_
  refine r_c (pc' := 9) dX7_noNight_8 rfl kc_lconst_1 ?_
  refine r_s (pc' := 10) dX7_noNight_9 rfl rfl ?_
  refine r_topl ((show (nI n).toInt64 - 1 = lN n - lN 1 by rw [nI_l hb]; rfl)) ?_
  refine r_Si3 (pc' := 13) dX7_noNight_10 rfl lX7_89 rfl (Nat.le_of_ble_eq_true rfl) (Nat.le_of_ble_eq_true rfl) (ct_in_n hb) (fun r10 h10 e10 => ?_)
  rcases e10 with ⟨rfl, rfl, j10, hj10, rfl⟩ | ⟨rfl, rfl, hn10⟩
  · refine r_ifne_t (tgt := 20) dX7_noNight_13 (by decide) (by decide) ?_
    refine r_c (pc' := 21) dX7_noNight_20 rfl kc_iconst_0 ?_
    refine r_reti dX7_noNight_21 rfl (rfl) (Nat.le_of_ble_eq_true rfl) (Nat.le_of_ble_eq_true rfl) ⟨_, rfl, ?_⟩
    exact Or.inl ⟨rfl, rfl, j10, hj10, rfl⟩
  · refine r_ifne_f (pc' := 16) (tgt := 20) dX7_noNight_13 rfl (by decide) (by decide) ?_
    refine r_c (pc' := 17) dX7_noNight_16 rfl kc_iconst_1 ?_
    refine r_goto (tgt := 21) dX7_noNight_17 (by decide) ?_
    refine r_reti dX7_noNight_21 rfl (rfl) (Nat.le_of_ble_eq_true rfl) (Nat.le_of_ble_eq_true rfl) ⟨_, rfl, ?_⟩
    exact Or.inr ⟨rfl, rfl, hn10⟩

set_option maxHeartbeats 4000000 in
set_option maxRecDepth 100000 in
theorem ct_X7_noSheet {d : Nat} {h : sm_H} {k : Int32} : ci (d + 2) MX7_noSheet [.int k] h (fun r h' => (h' = h ∧ r = 0 ∧ ∃ j, j < 4 ∧ k = nI j) ∨ (h' = h ∧ r = 1 ∧ ∀ j, j < 4 → k ≠ nI j)) := by
  refine c_in (L := [.int k]) rfl rfl ?_
  refine r_s (pc' := 1) dX7_noSheet_0 rfl rfl ?_
  refine r_s (pc' := 2) dX7_noSheet_1 rfl rfl ?_
  refine r_c (pc' := 3) dX7_noSheet_2 rfl kc_lconst_0 ?_
  refine r_ldc2 (pc' := 6) dX7_noSheet_3 rfl kX7_229 ?_
  refine r_topl (show (3 : Int64) = lN 3 from rfl) ?_
  refine r_Si3 (pc' := 9) dX7_noSheet_6 rfl lX7_89 rfl (Nat.le_of_ble_eq_true rfl) (Nat.le_of_ble_eq_true rfl) (ct_in_m (n := 3) (by decide)) (fun r6 h6 e6 => ?_)
  rcases e6 with ⟨rfl, rfl, j6, hj6, rfl⟩ | ⟨rfl, rfl, hn6⟩
  · refine r_ifne_t (tgt := 16) dX7_noSheet_9 (by decide) (by decide) ?_
    refine r_c (pc' := 17) dX7_noSheet_16 rfl kc_iconst_0 ?_
    refine r_reti dX7_noSheet_17 rfl (rfl) (Nat.le_of_ble_eq_true rfl) (Nat.le_of_ble_eq_true rfl) ⟨_, rfl, ?_⟩
    exact Or.inl ⟨rfl, rfl, j6, hj6, rfl⟩
  · refine r_ifne_f (pc' := 12) (tgt := 16) dX7_noSheet_9 rfl (by decide) (by decide) ?_
    refine r_c (pc' := 13) dX7_noSheet_12 rfl kc_iconst_1 ?_
    refine r_goto (tgt := 17) dX7_noSheet_13 (by decide) ?_
    refine r_reti dX7_noSheet_17 rfl (rfl) (Nat.le_of_ble_eq_true rfl) (Nat.le_of_ble_eq_true rfl) ⟨_, rfl, ?_⟩
    exact Or.inr ⟨rfl, rfl, hn6⟩

set_option maxHeartbeats 4000000 in
set_option maxRecDepth 100000 in
theorem ct_X7_refused {d : Nat} {x : hX} {I : Nat → Nat → Int32} {v : Int32} : ci (d + 1) MX7_refused [.ref 80, .int v] (hp x I) (fun r h' => h' = hp x (sm_up I 80 0 0) ∧ r = v) := by
  refine c_in (L := [.ref 80, .int v]) rfl rfl ?_
  refine r_s (pc' := 1) dX7_refused_0 rfl rfl ?_
  refine r_c (pc' := 2) dX7_refused_1 rfl kc_iconst_0 ?_
  refine h_pi (pc' := 5) dX7_refused_2 rfl fX7_79 rfl (hl_ rfl) rfl ?_
  refine r_s (pc' := 6) dX7_refused_5 rfl rfl ?_
  refine r_reti dX7_refused_6 rfl (rfl) (Nat.le_of_ble_eq_true rfl) (Nat.le_of_ble_eq_true rfl) ⟨_, rfl, ?_⟩
  exact ⟨rfl, rfl⟩

set_option maxHeartbeats 4000000 in
set_option maxRecDepth 100000 in
theorem ct_X7_failed {d : Nat} {x : hX} {I : Nat → Nat → Int32} {f : Int32} : ci (d + 1) MX7_failed [.ref 80, .int f] (hp x I) (fun r h' => h' = hp x (sm_up I 80 0 f) ∧ r = -10 - f) := by
  refine c_in (L := [.ref 80, .int f]) rfl rfl ?_
  refine r_s (pc' := 1) dX7_failed_0 rfl rfl ?_
  refine r_s (pc' := 2) dX7_failed_1 rfl rfl ?_
  refine h_pi (pc' := 5) dX7_failed_2 rfl fX7_79 rfl (hl_ rfl) rfl ?_
  refine r_c (pc' := 7) dX7_failed_5 rfl kc_bipush_m10 ?_
  refine r_s (pc' := 8) dX7_failed_7 rfl rfl ?_
  refine r_s (pc' := 9) dX7_failed_8 rfl rfl ?_
  refine r_reti dX7_failed_9 rfl (rfl) (Nat.le_of_ble_eq_true rfl) (Nat.le_of_ble_eq_true rfl) ⟨_, rfl, ?_⟩
  exact ⟨rfl, rfl⟩

set_option maxHeartbeats 4000000 in
set_option maxRecDepth 100000 in
theorem ct_X7_lost {d : Nat} {h : sm_H} : cl (d + 1) MX7_lost [] h (fun r h' => h' = h ∧ r = LOSTv) := by
  refine c_in (L := []) rfl rfl ?_
  refine r_ldc2 (pc' := 3) dX7_lost_0 rfl kX7_77 ?_
  refine r_retl dX7_lost_3 rfl (Nat.le_of_ble_eq_true rfl) (Nat.le_of_ble_eq_true rfl) ⟨_, rfl, ?_⟩
  exact ⟨rfl, rfl⟩

set_option maxHeartbeats 4000000 in
set_option maxRecDepth 100000 in
theorem ct_X7_failedLong {d : Nat} {x : hX} {I : Nat → Nat → Int32} {f : Int32} : cl (d + 2) MX7_failedLong [.ref 80, .int f] (hp x I) (fun r h' => h' = hp x (sm_up I 80 0 f) ∧ r = LOSTv) := by
  refine c_in (L := [.ref 80, .int f]) rfl rfl ?_
  refine r_s (pc' := 1) dX7_failedLong_0 rfl rfl ?_
  refine r_s (pc' := 2) dX7_failedLong_1 rfl rfl ?_
  refine h_pi (pc' := 5) dX7_failedLong_2 rfl fX7_79 rfl (hl_ rfl) rfl ?_
  refine r_Sl0 (pc' := 8) dX7_failedLong_5 rfl lX7_82 rfl (Nat.le_of_ble_eq_true rfl) (Nat.le_of_ble_eq_true rfl) (ct_X7_lost) (fun r5 h5 e5 => ?_)
  obtain ⟨rfl, rfl⟩ := e5
  refine r_retl dX7_failedLong_8 rfl (Nat.le_of_ble_eq_true rfl) (Nat.le_of_ble_eq_true rfl) ⟨_, rfl, ?_⟩
  exact ⟨rfl, rfl⟩

set_option maxHeartbeats 4000000 in
set_option maxRecDepth 100000 in
theorem ct_X7_traced {d : Nat} {x : hX} {I : Nat → Nat → Int32} {n : Nat} : cv (d + 1) MX7_traced [.ref 80, .int (nI n)] (hp x I) (fun h' => h' = hp x (sm_up I 80 33 (bt_ n (I 80 33)))) := by
  refine c_in (L := [.ref 80, .int (nI n)]) rfl rfl ?_
  refine r_s (pc' := 1) dX7_traced_0 rfl rfl ?_
  refine r_c (pc' := 3) dX7_traced_1 rfl kc_bipush_31 ?_
  refine r_s (pc' := 4) dX7_traced_3 rfl rfl ?_
  refine h_gi (pc' := 7) dX7_traced_4 rfl fX7_238 (hl_ rfl) rfl ?_
  refine r_s (pc' := 8) dX7_traced_7 rfl rfl ?_
  refine r_s (pc' := 9) dX7_traced_8 rfl rfl ?_
  refine r_s (pc' := 10) dX7_traced_9 rfl rfl ?_
  refine h_pi (pc' := 13) dX7_traced_10 rfl fX7_238 rfl (hl_ rfl) rfl ?_
  refine r_retv dX7_traced_13 rfl (Nat.le_of_ble_eq_true rfl) (Nat.le_of_ble_eq_true rfl) ⟨rfl, ?_⟩
  exact rfl

theorem mnl {u w : Nat} (h : u ≤ w) : nI u = nI (min u w) := by rw [Nat.min_eq_left h]
theorem mnr {u w : Nat} (h : w ≤ u) : nI w = nI (min u w) := by rw [Nat.min_eq_right h]

set_option maxHeartbeats 4000000 in
set_option maxRecDepth 100000 in
theorem ct_X7_keepsBy {d : Nat} {x : hX} {I : Nat → Nat → Int32} {j v kd rm : Nat} (hj : j < 6) (hk : I 81 j = nI kd) (hkd : kd ≤ 2) (hr : I 80 11 = rmI rm) : ci (d + 1) MX7_keepsBy [.ref 80, .int (nI j), .int (nI v)] (hp x I) (fun r h' => h' = hp x I ∧ r = nI (keeps kd v + rmB rm j)) := by
  refine c_in (L := [.ref 80, .int (nI j), .int (nI v), .null]) rfl rfl ?_
  refine r_s (pc' := 1) dX7_keepsBy_0 rfl rfl ?_
  refine r_gr (pc' := 4) dX7_keepsBy_1 rfl fX7_7 (hl_ rfl) rfl rfl ?_
  refine r_s (pc' := 5) dX7_keepsBy_4 rfl rfl ?_
  refine h_ald (pc' := 6) dX7_keepsBy_5 rfl (hl_ rfl) rfl (vp_in_nI (by omega) (by decide)) (nI_clamp (by omega)) ?_
  refine r_top (hk) ?_
  refine r_ifne (pc' := 9) (tgt := 13) dX7_keepsBy_6 rfl (by decide) (fun c6 => ?_) (fun c6 => ?_)
  · refine r_s (pc' := 14) dX7_keepsBy_13 rfl rfl ?_
    refine r_gr (pc' := 17) dX7_keepsBy_14 rfl fX7_7 (hl_ rfl) rfl rfl ?_
    refine r_s (pc' := 18) dX7_keepsBy_17 rfl rfl ?_
    refine h_ald (pc' := 19) dX7_keepsBy_18 rfl (hl_ rfl) rfl (vp_in_nI (by omega) (by decide)) (nI_clamp (by omega)) ?_
    refine r_top (hk) ?_
    refine r_c (pc' := 20) dX7_keepsBy_19 rfl kc_iconst_1 ?_
    refine r_cne (pc' := 23) (tgt := 29) dX7_keepsBy_20 rfl (by decide) (fun c20 => ?_) (fun c20 => ?_)
    · refine r_c (pc' := 30) dX7_keepsBy_29 rfl kc_iconst_2 ?_
      refine r_s (pc' := 31) dX7_keepsBy_30 rfl rfl ?_
      refine r_c (pc' := 32) dX7_keepsBy_31 rfl kc_iconst_1 ?_
      refine r_s (pc' := 33) dX7_keepsBy_32 rfl rfl ?_
      refine r_top (nI_1 v) ?_
      refine r_s (pc' := 34) dX7_keepsBy_33 rfl rfl ?_
      refine r_top ((pk_mul 2 (v + 1) : nI 2 * nI (v + 1) = nI (2 * (v + 1)))) ?_
      refine r_st_3_4 (pc' := 35) dX7_keepsBy_34 rfl rfl rfl ?_
      refine r_s (pc' := 36) dX7_keepsBy_35 rfl rfl ?_
      refine h_gi (pc' := 39) dX7_keepsBy_36 rfl fX7_73 (hl_ rfl) rfl ?_
      refine r_top (hr) ?_
      refine r_s (pc' := 40) dX7_keepsBy_39 rfl rfl ?_
      refine r_cne (pc' := 43) (tgt := 49) dX7_keepsBy_40 rfl (by decide) (fun c40 => ?_) (fun c40 => ?_)
      · refine r_s (pc' := 50) dX7_keepsBy_49 rfl rfl ?_
        refine r_reti dX7_keepsBy_50 rfl (rfl) (Nat.le_of_ble_eq_true rfl) (Nat.le_of_ble_eq_true rfl) ⟨_, rfl, ?_⟩
        exact ⟨rfl, by (rw [keeps, if_neg (fun e => c6 (by rw [e]; rfl)), if_neg (fun e => c20 (by rw [e]; rfl)), rmB, if_neg (fun e => c40 ((rmI_eq hj).mpr e).symm)]) <;> rfl⟩
      · refine r_s (pc' := 44) dX7_keepsBy_43 rfl rfl ?_
        refine r_c (pc' := 45) dX7_keepsBy_44 rfl kc_iconst_1 ?_
        refine r_s (pc' := 46) dX7_keepsBy_45 rfl rfl ?_
        refine r_top (nI_1 _) ?_
        refine r_goto (tgt := 50) dX7_keepsBy_46 (by decide) ?_
        refine r_reti dX7_keepsBy_50 rfl (rfl) (Nat.le_of_ble_eq_true rfl) (Nat.le_of_ble_eq_true rfl) ⟨_, rfl, ?_⟩
        exact ⟨rfl, by rw [keeps, if_neg (fun e => c6 (by rw [e]; rfl)), if_neg (fun e => c20 (by rw [e]; rfl)), rmB, if_pos ((rmI_eq hj).mp c40.symm)]⟩
    · refine r_s (pc' := 24) dX7_keepsBy_23 rfl rfl ?_
      refine r_c (pc' := 25) dX7_keepsBy_24 rfl kc_iconst_1 ?_
      refine r_s (pc' := 26) dX7_keepsBy_25 rfl rfl ?_
      refine r_top (nI_1 v) ?_
      refine r_goto (tgt := 34) dX7_keepsBy_26 (by decide) ?_
      refine r_st_3_4 (pc' := 35) dX7_keepsBy_34 rfl rfl rfl ?_
      refine r_s (pc' := 36) dX7_keepsBy_35 rfl rfl ?_
      refine h_gi (pc' := 39) dX7_keepsBy_36 rfl fX7_73 (hl_ rfl) rfl ?_
      refine r_top (hr) ?_
      refine r_s (pc' := 40) dX7_keepsBy_39 rfl rfl ?_
      refine r_cne (pc' := 43) (tgt := 49) dX7_keepsBy_40 rfl (by decide) (fun c40 => ?_) (fun c40 => ?_)
      · refine r_s (pc' := 50) dX7_keepsBy_49 rfl rfl ?_
        refine r_reti dX7_keepsBy_50 rfl (rfl) (Nat.le_of_ble_eq_true rfl) (Nat.le_of_ble_eq_true rfl) ⟨_, rfl, ?_⟩
        exact ⟨rfl, by (rw [keeps, if_neg (fun e => c6 (by rw [e]; rfl)), if_pos ((nI_eq (by omega) (by decide)).mp c20), rmB, if_neg (fun e => c40 ((rmI_eq hj).mpr e).symm)]) <;> rfl⟩
      · refine r_s (pc' := 44) dX7_keepsBy_43 rfl rfl ?_
        refine r_c (pc' := 45) dX7_keepsBy_44 rfl kc_iconst_1 ?_
        refine r_s (pc' := 46) dX7_keepsBy_45 rfl rfl ?_
        refine r_top (nI_1 _) ?_
        refine r_goto (tgt := 50) dX7_keepsBy_46 (by decide) ?_
        refine r_reti dX7_keepsBy_50 rfl (rfl) (Nat.le_of_ble_eq_true rfl) (Nat.le_of_ble_eq_true rfl) ⟨_, rfl, ?_⟩
        exact ⟨rfl, by rw [keeps, if_neg (fun e => c6 (by rw [e]; rfl)), if_pos ((nI_eq (by omega) (by decide)).mp c20), rmB, if_pos ((rmI_eq hj).mp c40.symm)]⟩
  · refine r_s (pc' := 10) dX7_keepsBy_9 rfl rfl ?_
    refine r_goto (tgt := 34) dX7_keepsBy_10 (by decide) ?_
    refine r_st_3_4 (pc' := 35) dX7_keepsBy_34 rfl rfl rfl ?_
    refine r_s (pc' := 36) dX7_keepsBy_35 rfl rfl ?_
    refine h_gi (pc' := 39) dX7_keepsBy_36 rfl fX7_73 (hl_ rfl) rfl ?_
    refine r_top (hr) ?_
    refine r_s (pc' := 40) dX7_keepsBy_39 rfl rfl ?_
    refine r_cne (pc' := 43) (tgt := 49) dX7_keepsBy_40 rfl (by decide) (fun c40 => ?_) (fun c40 => ?_)
    · refine r_s (pc' := 50) dX7_keepsBy_49 rfl rfl ?_
      refine r_reti dX7_keepsBy_50 rfl (rfl) (Nat.le_of_ble_eq_true rfl) (Nat.le_of_ble_eq_true rfl) ⟨_, rfl, ?_⟩
      exact ⟨rfl, by (rw [keeps, if_pos ((nI_eq (by omega) (by decide)).mp c6), rmB, if_neg (fun e => c40 ((rmI_eq hj).mpr e).symm)]) <;> rfl⟩
    · refine r_s (pc' := 44) dX7_keepsBy_43 rfl rfl ?_
      refine r_c (pc' := 45) dX7_keepsBy_44 rfl kc_iconst_1 ?_
      refine r_s (pc' := 46) dX7_keepsBy_45 rfl rfl ?_
      refine r_top (nI_1 _) ?_
      refine r_goto (tgt := 50) dX7_keepsBy_46 (by decide) ?_
      refine r_reti dX7_keepsBy_50 rfl (rfl) (Nat.le_of_ble_eq_true rfl) (Nat.le_of_ble_eq_true rfl) ⟨_, rfl, ?_⟩
      exact ⟨rfl, by rw [keeps, if_pos ((nI_eq (by omega) (by decide)).mp c6), rmB, if_pos ((rmI_eq hj).mp c40.symm)]⟩

set_option maxHeartbeats 4000000 in
set_option maxRecDepth 100000 in
theorem ct_X7_swept {d : Nat} {x : hX} {I : Nat → Nat → Int32} {i j v a b : Nat} (hi : i < 6) (hj : j < 6) (hne : i ≠ j) (ha : I 82 i = nI a) (hb : I 82 j = nI b) (ha9 : a ≤ 9) (hb9 : b ≤ 9) (hv : v ≤ 9) : ci (d + 1) MX7_swept [.ref 80, .int (nI i), .int (nI j), .int (nI v)] (hp x I) (fun r h' => h' = hp x (sm_up (sm_up I 82 i (nI (a - min v a))) 82 j (nI (b + min (min v a) (9 - b)))) ∧ r = nI (min (min v a) (9 - b))) := by
  refine c_in (L := [.ref 80, .int (nI i), .int (nI j), .int (nI v), .null, .null]) rfl rfl ?_
  refine r_s (pc' := 1) dX7_swept_0 rfl rfl ?_
  refine r_s (pc' := 2) dX7_swept_1 rfl rfl ?_
  refine r_gr (pc' := 5) dX7_swept_2 rfl fX7_13 (hl_ rfl) rfl rfl ?_
  refine r_s (pc' := 6) dX7_swept_5 rfl rfl ?_
  refine h_ald (pc' := 7) dX7_swept_6 rfl (hl_ rfl) rfl (vp_in_nI (by omega) (by decide)) (nI_clamp (by omega)) ?_
  refine r_top (ha) ?_
  refine r_cge (pc' := 10) (tgt := 14) dX7_swept_7 rfl (by decide) (fun c7 => ?_) (fun c7 => ?_)
  · refine r_s (pc' := 15) dX7_swept_14 rfl rfl ?_
    refine r_gr (pc' := 18) dX7_swept_15 rfl fX7_13 (hl_ rfl) rfl rfl ?_
    refine r_s (pc' := 19) dX7_swept_18 rfl rfl ?_
    refine h_ald (pc' := 20) dX7_swept_19 rfl (hl_ rfl) rfl (vp_in_nI (by omega) (by decide)) (nI_clamp (by omega)) ?_
    refine r_top (ha) ?_
    refine r_top (show _ = nI (min v a) from mnr (by have := (nI_leI (by omega) (by omega)).mp c7; omega)) ?_
    refine r_st_4_6 (pc' := 22) dX7_swept_20 rfl rfl rfl ?_
    refine r_c (pc' := 24) dX7_swept_22 rfl kc_bipush_9 ?_
    refine r_s (pc' := 25) dX7_swept_24 rfl rfl ?_
    refine r_gr (pc' := 28) dX7_swept_25 rfl fX7_13 (hl_ rfl) rfl rfl ?_
    refine r_s (pc' := 29) dX7_swept_28 rfl rfl ?_
    refine h_ald (pc' := 30) dX7_swept_29 rfl (hl_ rfl) rfl (vp_in_nI (by omega) (by decide)) (nI_clamp (by omega)) ?_
    refine r_top (hb) ?_
    refine r_s (pc' := 31) dX7_swept_30 rfl rfl ?_
    refine r_top ((pk_sub hb9 : nI 9 - nI b = nI (9 - b))) ?_
    refine r_st_5_6 (pc' := 33) dX7_swept_31 rfl rfl rfl ?_
    refine r_s (pc' := 34) dX7_swept_33 rfl rfl ?_
    refine r_gr (pc' := 37) dX7_swept_34 rfl fX7_13 (hl_ rfl) rfl rfl ?_
    refine r_s (pc' := 38) dX7_swept_37 rfl rfl ?_
    refine r_s (pc' := 39) dX7_swept_38 rfl rfl ?_
    refine h_ald (pc' := 40) dX7_swept_39 rfl (hl_ rfl) rfl (vp_in_nI (by omega) (by decide)) (nI_clamp (by omega)) ?_
    refine r_top (ha) ?_
    refine r_s (pc' := 42) dX7_swept_40 rfl rfl ?_
    refine r_s (pc' := 43) dX7_swept_42 rfl rfl ?_
    refine r_top (pk_sub (by omega)) ?_
    refine h_ast (pc' := 44) dX7_swept_43 rfl (hl_ rfl) rfl (vp_in_nI (by omega) (by decide)) (nI_clamp (by omega)) ?_
    refine r_s (pc' := 45) dX7_swept_44 rfl rfl ?_
    refine r_gr (pc' := 48) dX7_swept_45 rfl fX7_13 (hl_ rfl) rfl rfl ?_
    refine r_s (pc' := 49) dX7_swept_48 rfl rfl ?_
    refine r_s (pc' := 50) dX7_swept_49 rfl rfl ?_
    refine h_ald (pc' := 51) dX7_swept_50 rfl (hl_ rfl) rfl (vp_in_nI (by omega) (by decide)) (nI_clamp (by omega)) ?_
    refine r_top (show sm_up I 82 i _ 82 j = nI b by rw [up_n (Ne.symm hne)]; exact hb) ?_
    refine r_s (pc' := 53) dX7_swept_51 rfl rfl ?_
    refine r_s (pc' := 55) dX7_swept_53 rfl rfl ?_
    refine r_cge (pc' := 58) (tgt := 63) dX7_swept_55 rfl (by decide) (fun c55 => ?_) (fun c55 => ?_)
    · refine r_s (pc' := 65) dX7_swept_63 rfl rfl ?_
      refine r_top (show _ = nI (min (min v a) (9 - b)) from mnr (by have := (nI_leI (by omega) (by omega)).mp c55; omega)) ?_
      refine r_s (pc' := 66) dX7_swept_65 rfl rfl ?_
      refine r_top (nI_add _ _) ?_
      refine h_ast (pc' := 67) dX7_swept_66 rfl (hl_ rfl) rfl (vp_in_nI (by omega) (by decide)) (nI_clamp (by omega)) ?_
      refine r_s (pc' := 69) dX7_swept_67 rfl rfl ?_
      refine r_s (pc' := 71) dX7_swept_69 rfl rfl ?_
      refine r_cge (pc' := 74) (tgt := 79) dX7_swept_71 rfl (by decide) (fun c71 => ?_) (fun c71 => ?_)
      · refine r_s (pc' := 81) dX7_swept_79 rfl rfl ?_
        refine r_top (show _ = nI (min (min v a) (9 - b)) from mnr (by have := (nI_leI (by omega) (by omega)).mp c71; omega)) ?_
        refine r_reti dX7_swept_81 rfl (rfl) (Nat.le_of_ble_eq_true rfl) (Nat.le_of_ble_eq_true rfl) ⟨_, rfl, ?_⟩
        exact ⟨rfl, rfl⟩
      · refine r_s (pc' := 76) dX7_swept_74 rfl rfl ?_
        refine r_goto (tgt := 81) dX7_swept_76 (by decide) ?_
        refine r_top (show _ = nI (min (min v a) (9 - b)) from mnl (by have := mt (fun h => nI_le (a := 9 - b) (b := min v a) h (by omega)) c71; omega)) ?_
        refine r_reti dX7_swept_81 rfl (rfl) (Nat.le_of_ble_eq_true rfl) (Nat.le_of_ble_eq_true rfl) ⟨_, rfl, ?_⟩
        exact ⟨rfl, rfl⟩
    · refine r_s (pc' := 60) dX7_swept_58 rfl rfl ?_
      refine r_goto (tgt := 65) dX7_swept_60 (by decide) ?_
      refine r_top (show _ = nI (min (min v a) (9 - b)) from mnl (by have := mt (fun h => nI_le (a := 9 - b) (b := min v a) h (by omega)) c55; omega)) ?_
      refine r_s (pc' := 66) dX7_swept_65 rfl rfl ?_
      refine r_top (nI_add _ _) ?_
      refine h_ast (pc' := 67) dX7_swept_66 rfl (hl_ rfl) rfl (vp_in_nI (by omega) (by decide)) (nI_clamp (by omega)) ?_
      refine r_s (pc' := 69) dX7_swept_67 rfl rfl ?_
      refine r_s (pc' := 71) dX7_swept_69 rfl rfl ?_
      refine r_cge (pc' := 74) (tgt := 79) dX7_swept_71 rfl (by decide) (fun c71 => ?_) (fun c71 => ?_)
      · refine r_s (pc' := 81) dX7_swept_79 rfl rfl ?_
        refine r_top (show _ = nI (min (min v a) (9 - b)) from mnr (by have := (nI_leI (by omega) (by omega)).mp c71; omega)) ?_
        refine r_reti dX7_swept_81 rfl (rfl) (Nat.le_of_ble_eq_true rfl) (Nat.le_of_ble_eq_true rfl) ⟨_, rfl, ?_⟩
        exact ⟨rfl, rfl⟩
      · refine r_s (pc' := 76) dX7_swept_74 rfl rfl ?_
        refine r_goto (tgt := 81) dX7_swept_76 (by decide) ?_
        refine r_top (show _ = nI (min (min v a) (9 - b)) from mnl (by have := mt (fun h => nI_le (a := 9 - b) (b := min v a) h (by omega)) c71; omega)) ?_
        refine r_reti dX7_swept_81 rfl (rfl) (Nat.le_of_ble_eq_true rfl) (Nat.le_of_ble_eq_true rfl) ⟨_, rfl, ?_⟩
        exact ⟨rfl, rfl⟩
  · refine r_s (pc' := 11) dX7_swept_10 rfl rfl ?_
    refine r_goto (tgt := 20) dX7_swept_11 (by decide) ?_
    refine r_top (show _ = nI (min v a) from mnl (by have := mt (fun h => nI_le (a := a) (b := v) h (by omega)) c7; omega)) ?_
    refine r_st_4_6 (pc' := 22) dX7_swept_20 rfl rfl rfl ?_
    refine r_c (pc' := 24) dX7_swept_22 rfl kc_bipush_9 ?_
    refine r_s (pc' := 25) dX7_swept_24 rfl rfl ?_
    refine r_gr (pc' := 28) dX7_swept_25 rfl fX7_13 (hl_ rfl) rfl rfl ?_
    refine r_s (pc' := 29) dX7_swept_28 rfl rfl ?_
    refine h_ald (pc' := 30) dX7_swept_29 rfl (hl_ rfl) rfl (vp_in_nI (by omega) (by decide)) (nI_clamp (by omega)) ?_
    refine r_top (hb) ?_
    refine r_s (pc' := 31) dX7_swept_30 rfl rfl ?_
    refine r_top ((pk_sub hb9 : nI 9 - nI b = nI (9 - b))) ?_
    refine r_st_5_6 (pc' := 33) dX7_swept_31 rfl rfl rfl ?_
    refine r_s (pc' := 34) dX7_swept_33 rfl rfl ?_
    refine r_gr (pc' := 37) dX7_swept_34 rfl fX7_13 (hl_ rfl) rfl rfl ?_
    refine r_s (pc' := 38) dX7_swept_37 rfl rfl ?_
    refine r_s (pc' := 39) dX7_swept_38 rfl rfl ?_
    refine h_ald (pc' := 40) dX7_swept_39 rfl (hl_ rfl) rfl (vp_in_nI (by omega) (by decide)) (nI_clamp (by omega)) ?_
    refine r_top (ha) ?_
    refine r_s (pc' := 42) dX7_swept_40 rfl rfl ?_
    refine r_s (pc' := 43) dX7_swept_42 rfl rfl ?_
    refine r_top (pk_sub (by omega)) ?_
    refine h_ast (pc' := 44) dX7_swept_43 rfl (hl_ rfl) rfl (vp_in_nI (by omega) (by decide)) (nI_clamp (by omega)) ?_
    refine r_s (pc' := 45) dX7_swept_44 rfl rfl ?_
    refine r_gr (pc' := 48) dX7_swept_45 rfl fX7_13 (hl_ rfl) rfl rfl ?_
    refine r_s (pc' := 49) dX7_swept_48 rfl rfl ?_
    refine r_s (pc' := 50) dX7_swept_49 rfl rfl ?_
    refine h_ald (pc' := 51) dX7_swept_50 rfl (hl_ rfl) rfl (vp_in_nI (by omega) (by decide)) (nI_clamp (by omega)) ?_
    refine r_top (show sm_up I 82 i _ 82 j = nI b by rw [up_n (Ne.symm hne)]; exact hb) ?_
    refine r_s (pc' := 53) dX7_swept_51 rfl rfl ?_
    refine r_s (pc' := 55) dX7_swept_53 rfl rfl ?_
    refine r_cge (pc' := 58) (tgt := 63) dX7_swept_55 rfl (by decide) (fun c55 => ?_) (fun c55 => ?_)
    · refine r_s (pc' := 65) dX7_swept_63 rfl rfl ?_
      refine r_top (show _ = nI (min (min v a) (9 - b)) from mnr (by have := (nI_leI (by omega) (by omega)).mp c55; omega)) ?_
      refine r_s (pc' := 66) dX7_swept_65 rfl rfl ?_
      refine r_top (nI_add _ _) ?_
      refine h_ast (pc' := 67) dX7_swept_66 rfl (hl_ rfl) rfl (vp_in_nI (by omega) (by decide)) (nI_clamp (by omega)) ?_
      refine r_s (pc' := 69) dX7_swept_67 rfl rfl ?_
      refine r_s (pc' := 71) dX7_swept_69 rfl rfl ?_
      refine r_cge (pc' := 74) (tgt := 79) dX7_swept_71 rfl (by decide) (fun c71 => ?_) (fun c71 => ?_)
      · refine r_s (pc' := 81) dX7_swept_79 rfl rfl ?_
        refine r_top (show _ = nI (min (min v a) (9 - b)) from mnr (by have := (nI_leI (by omega) (by omega)).mp c71; omega)) ?_
        refine r_reti dX7_swept_81 rfl (rfl) (Nat.le_of_ble_eq_true rfl) (Nat.le_of_ble_eq_true rfl) ⟨_, rfl, ?_⟩
        exact ⟨rfl, rfl⟩
      · refine r_s (pc' := 76) dX7_swept_74 rfl rfl ?_
        refine r_goto (tgt := 81) dX7_swept_76 (by decide) ?_
        refine r_top (show _ = nI (min (min v a) (9 - b)) from mnl (by have := mt (fun h => nI_le (a := 9 - b) (b := min v a) h (by omega)) c71; omega)) ?_
        refine r_reti dX7_swept_81 rfl (rfl) (Nat.le_of_ble_eq_true rfl) (Nat.le_of_ble_eq_true rfl) ⟨_, rfl, ?_⟩
        exact ⟨rfl, rfl⟩
    · refine r_s (pc' := 60) dX7_swept_58 rfl rfl ?_
      refine r_goto (tgt := 65) dX7_swept_60 (by decide) ?_
      refine r_top (show _ = nI (min (min v a) (9 - b)) from mnl (by have := mt (fun h => nI_le (a := 9 - b) (b := min v a) h (by omega)) c55; omega)) ?_
      refine r_s (pc' := 66) dX7_swept_65 rfl rfl ?_
      refine r_top (nI_add _ _) ?_
      refine h_ast (pc' := 67) dX7_swept_66 rfl (hl_ rfl) rfl (vp_in_nI (by omega) (by decide)) (nI_clamp (by omega)) ?_
      refine r_s (pc' := 69) dX7_swept_67 rfl rfl ?_
      refine r_s (pc' := 71) dX7_swept_69 rfl rfl ?_
      refine r_cge (pc' := 74) (tgt := 79) dX7_swept_71 rfl (by decide) (fun c71 => ?_) (fun c71 => ?_)
      · refine r_s (pc' := 81) dX7_swept_79 rfl rfl ?_
        refine r_top (show _ = nI (min (min v a) (9 - b)) from mnr (by have := (nI_leI (by omega) (by omega)).mp c71; omega)) ?_
        refine r_reti dX7_swept_81 rfl (rfl) (Nat.le_of_ble_eq_true rfl) (Nat.le_of_ble_eq_true rfl) ⟨_, rfl, ?_⟩
        exact ⟨rfl, rfl⟩
      · refine r_s (pc' := 76) dX7_swept_74 rfl rfl ?_
        refine r_goto (tgt := 81) dX7_swept_76 (by decide) ?_
        refine r_top (show _ = nI (min (min v a) (9 - b)) from mnl (by have := mt (fun h => nI_le (a := 9 - b) (b := min v a) h (by omega)) c71; omega)) ?_
        refine r_reti dX7_swept_81 rfl (rfl) (Nat.le_of_ble_eq_true rfl) (Nat.le_of_ble_eq_true rfl) ⟨_, rfl, ?_⟩
        exact ⟨rfl, rfl⟩

theorem fb_rngL (x : Int32) : -2147483648 ≤ x.toInt ∧ x.toInt < 2147483648 := ⟨Int32.le_toInt x, Int32.toInt_lt x⟩
theorem l_add {i m : Int32} : (i.toInt64 + m.toInt64).toInt = i.toInt + m.toInt := by
  have h1 := fb_rngL i
  have h2 := fb_rngL m
  rw [Int64.toInt_add, l_k, l_k]
  exact Int.bmod_eq_of_le (by omega) (by omega)

set_option maxHeartbeats 4000000 in
set_option maxRecDepth 100000 in
theorem ct_X7_isBeyond {d : Nat} {h : sm_H} {i m : Int32} {n : Nat} (hn : n < 2 ^ 31) : ci (d + 1) MX7_isBeyond [.int i, .long m.toInt64, .int (nI n)] h (fun r h' => (h' = h ∧ r = 0 ∧ rowok n i m = true) ∨ (h' = h ∧ r = 1 ∧ rowok n i m = false)) := by
  refine c_in (L := [.int i, .long m.toInt64, .null, .int (nI n)]) rfl rfl ?_
  refine r_s (pc' := 1) dX7_isBeyond_0 rfl rfl ?_
  refine r_iflt (pc' := 4) (tgt := 20) dX7_isBeyond_1 rfl (by decide) (fun c1 => ?_) (fun c1 => ?_)
  · refine r_c (pc' := 21) dX7_isBeyond_20 rfl kc_iconst_1 ?_
    refine r_goto (tgt := 25) dX7_isBeyond_21 (by decide) ?_
    refine r_reti dX7_isBeyond_25 rfl (rfl) (Nat.le_of_ble_eq_true rfl) (Nat.le_of_ble_eq_true rfl) ⟨_, rfl, ?_⟩
    exact Or.inr ⟨rfl, rfl, by
      have h1 : i.toInt < 0 := (fa_lt i 0).mp c1
      unfold rowok; exact decide_eq_false (by omega)⟩
  · refine r_s (pc' := 5) dX7_isBeyond_4 rfl rfl ?_
    refine r_c (pc' := 6) dX7_isBeyond_5 rfl kc_lconst_0 ?_
    refine r_s (pc' := 7) dX7_isBeyond_6 rfl rfl ?_
    refine r_iflt (pc' := 10) (tgt := 20) dX7_isBeyond_7 rfl (by decide) (fun c7 => ?_) (fun c7 => ?_)
    · refine r_c (pc' := 21) dX7_isBeyond_20 rfl kc_iconst_1 ?_
      refine r_goto (tgt := 25) dX7_isBeyond_21 (by decide) ?_
      refine r_reti dX7_isBeyond_25 rfl (rfl) (Nat.le_of_ble_eq_true rfl) (Nat.le_of_ble_eq_true rfl) ⟨_, rfl, ?_⟩
      exact Or.inr ⟨rfl, rfl, by
        have h2 := (lc_lt _ _).mp c7
        rw [l_k, show (0 : Int64).toInt = 0 from rfl] at h2
        unfold rowok; exact decide_eq_false (by omega)⟩
    · refine r_s (pc' := 11) dX7_isBeyond_10 rfl rfl ?_
      refine r_s (pc' := 12) dX7_isBeyond_11 rfl rfl ?_
      refine r_s (pc' := 13) dX7_isBeyond_12 rfl rfl ?_
      refine r_s (pc' := 14) dX7_isBeyond_13 rfl rfl ?_
      refine r_s (pc' := 15) dX7_isBeyond_14 rfl rfl ?_
      refine r_s (pc' := 16) dX7_isBeyond_15 rfl rfl ?_
      refine r_s (pc' := 17) dX7_isBeyond_16 rfl rfl ?_
      refine r_ifle (pc' := 20) (tgt := 24) dX7_isBeyond_17 rfl (by decide) (fun c17 => ?_) (fun c17 => ?_)
      · refine r_c (pc' := 25) dX7_isBeyond_24 rfl kc_iconst_0 ?_
        refine r_reti dX7_isBeyond_25 rfl (rfl) (Nat.le_of_ble_eq_true rfl) (Nat.le_of_ble_eq_true rfl) ⟨_, rfl, ?_⟩
        exact Or.inl ⟨rfl, rfl, by
          have h1 : ¬ i.toInt < 0 := fun h => c1 ((fa_lt i 0).mpr h)
          have h2 := mt (lc_lt _ _).mpr c7
          have h3 := mt (lc_gt _ _).mpr (Int32.not_lt.mpr c17)
          rw [l_add, l_k, nI_toInt hn] at h3
          rw [l_k, show (0 : Int64).toInt = 0 from rfl] at h2
          unfold rowok; exact decide_eq_true (by omega)⟩
      · refine r_c (pc' := 21) dX7_isBeyond_20 rfl kc_iconst_1 ?_
        refine r_goto (tgt := 25) dX7_isBeyond_21 (by decide) ?_
        refine r_reti dX7_isBeyond_25 rfl (rfl) (Nat.le_of_ble_eq_true rfl) (Nat.le_of_ble_eq_true rfl) ⟨_, rfl, ?_⟩
        exact Or.inr ⟨rfl, rfl, by
          have h3 := (lc_gt _ _).mp (x_nle c17)
          rw [l_add, l_k, nI_toInt hn] at h3
          unfold rowok; exact decide_eq_false (by omega)⟩

theorem rowok_of {n : Nat} {i m : Int32} (h : rowok n i m = true) (hn : n < 2 ^ 31) : ∃ a b, a + b ≤ n ∧ i = nI a ∧ m = nI b := by
  unfold rowok at h
  obtain ⟨h1, h2, h3⟩ := of_decide_eq_true h
  exact ⟨i.toInt.toNat, m.toInt.toNat, by omega, sw_i i _ (by omega) (by omega), sw_i m _ (by omega) (by omega)⟩
