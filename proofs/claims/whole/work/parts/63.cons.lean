/-- a heap that is being made: n places, their kinds as in the end, the references rf, the ints I; beyond them nothing -/
def hA (n : Nat) (rf : Nat → Nat → Option Nat) (I : Nat → Nat → Int32) (h : sm_H) : Prop := h.1 = n ∧ (∀ q, q < n → h.2.1 q = K0 q) ∧ (∀ q, q < n → ∀ j, j < 35 → h.2.2.2 q j = rf q j) ∧ (∀ q, q < n → ∀ j, 35 ≤ j → h.2.2.2 q j = none) ∧ (∀ q, q < n → h.2.2.1 q = I q) ∧ ∀ q, n ≤ q → (∀ j, rf q j = none) ∧ I q = fun _ => 0
theorem hA.k {n q : Nat} {rf : Nat → Nat → Option Nat} {I : Nat → Nat → Int32} {h : sm_H} (g : hA n rf I h) (hq : q < n) : h.2.1 q = K0 q := g.2.1 q hq
theorem hA.lt {n q : Nat} {rf : Nat → Nat → Option Nat} {I : Nat → Nat → Int32} {h : sm_H} (g : hA n rf I h) (hq : q < n) : q < h.1 := by rw [g.1]; exact hq
theorem hA.r {n q j : Nat} {rf : Nat → Nat → Option Nat} {I : Nat → Nat → Int32} {h : sm_H} (g : hA n rf I h) (hq : q < n) (hj : j < 35) : h.2.2.2 q j = rf q j := g.2.2.1 q hq j hj
theorem hA_nw {n : Nat} {rf : Nat → Nat → Option Nat} {I : Nat → Nat → Int32} {h : sm_H} {kd : Nat × Nat} (g : hA n rf I h) (hk : K0 n = kd) : hA (n + 1) rf I (sm_nw h 1 (fun _ => kd) (fun _ _ => none)) := by
  obtain ⟨h1, h2, h3, h4, h5, h6⟩ := g
  refine ⟨by show h.1 + 1 = n + 1; rw [h1], fun q hq => ?_, fun q hq j hj => ?_, fun q hq j hj => ?_, fun q hq => ?_, fun q hq => h6 q (by omega)⟩
  · show (if q < h.1 then h.2.1 q else kd) = K0 q
    rw [h1]
    by_cases e : q < n
    · rw [if_pos e]; exact h2 q e
    · rw [if_neg e, ← hk, show q = n by omega]
  · show (if q < h.1 then h.2.2.2 q j else none) = rf q j
    rw [h1]
    by_cases e : q < n
    · rw [if_pos e]; exact h3 q e j hj
    · rw [if_neg e, (h6 q (by omega)).1 j]
  · show (if q < h.1 then h.2.2.2 q j else none) = none
    rw [h1]
    by_cases e : q < n
    · rw [if_pos e]; exact h4 q e j hj
    · rw [if_neg e]
  · funext j
    show (if q < h.1 then h.2.2.1 q j else 0) = I q j
    rw [h1]
    by_cases e : q < n
    · rw [if_pos e, h5 q e]
    · rw [if_neg e, (h6 q (by omega)).2]
def rfm (rf : Nat → Nat → Option Nat) (n : Nat) : Nat → Nat → Option Nat := fun q j => if q = n ∧ j < 9 then some (n + 1 + j) else rf q j
theorem hA_mna {n K : Nat} {rf : Nat → Nat → Option Nat} {I : Nat → Nat → Int32} {h : sm_H} (g : hA n rf I h) (hk : K0 n = (1, 9)) (hk2 : ∀ i, i < 9 → K0 (n + 1 + i) = (0, K)) : hA (n + 10) (rfm rf n) I (sm_nw h (1 + 9) (fun i => if i = 0 then (1, 9) else (0, K)) (fun i j => if i = 0 ∧ j < 9 then some (h.1 + 1 + j) else none)) := by
  obtain ⟨h1, h2, h3, h4, h5, h6⟩ := g
  refine ⟨by show h.1 + (1 + 9) = n + 10; rw [h1], fun q hq => ?_, fun q hq j hj => ?_, fun q hq j hj => ?_, fun q hq => ?_, fun q hq => ⟨fun j => ?_, (h6 q (by omega)).2⟩⟩
  · show (if q < h.1 then h.2.1 q else (if q - h.1 = 0 then (1, 9) else (0, K))) = K0 q
    rw [h1]
    by_cases e : q < n
    · rw [if_pos e]; exact h2 q e
    · rw [if_neg e]
      by_cases e2 : q - n = 0
      · rw [if_pos e2, show q = n by omega, hk]
      · rw [if_neg e2, ← hk2 (q - n - 1) (by omega), show n + 1 + (q - n - 1) = q by omega]
  · show (if q < h.1 then h.2.2.2 q j else (if q - h.1 = 0 ∧ j < 9 then some (h.1 + 1 + j) else none)) = rfm rf n q j
    rw [h1]
    unfold rfm
    by_cases e : q < n
    · rw [if_pos e, if_neg (by omega)]; exact h3 q e j hj
    · rw [if_neg e]
      by_cases e2 : q = n ∧ j < 9
      · rw [if_pos e2, if_pos ⟨by omega, e2.2⟩]
      · rw [if_neg e2, if_neg (fun q2 => e2 ⟨by omega, q2.2⟩), (h6 q (by omega)).1 j]
  · show (if q < h.1 then h.2.2.2 q j else (if q - h.1 = 0 ∧ j < 9 then some (h.1 + 1 + j) else none)) = none
    rw [h1]
    by_cases e : q < n
    · rw [if_pos e]; exact h4 q e j hj
    · rw [if_neg e, if_neg (by omega)]
  · funext j
    show (if q < h.1 then h.2.2.1 q j else 0) = I q j
    rw [h1]
    by_cases e : q < n
    · rw [if_pos e, h5 q e]
    · rw [if_neg e, (h6 q (by omega)).2]
  · unfold rfm
    rw [if_neg (by omega)]
    exact (h6 q (by omega)).1 j
theorem hA_sr {n q j : Nat} {v : Option Nat} {rf : Nat → Nat → Option Nat} {I : Nat → Nat → Int32} {h : sm_H} (g : hA n rf I h) (hq : q < n) (hj : j < 35) : hA n (sm_up rf q j v) I (sm_sr h q j v) := by
  obtain ⟨h1, h2, h3, h4, h5, h6⟩ := g
  refine ⟨h1, h2, fun a ha i hi => ?_, fun a ha i hi => ?_, h5, fun a ha => ⟨fun i => ?_, (h6 a ha).2⟩⟩
  · show (if a = q then (if i = j then v else h.2.2.2 a i) else h.2.2.2 a i) = (if a = q then (if i = j then v else rf a i) else rf a i)
    rw [h3 a ha i hi]
  · show (if a = q then (if i = j then v else h.2.2.2 a i) else h.2.2.2 a i) = none
    rw [h4 a ha i hi, if_neg (show ¬ i = j by omega)]
    split <;> rfl
  · show (if a = q then (if i = j then v else rf a i) else rf a i) = none
    rw [if_neg (by omega)]; exact (h6 a ha).1 i
theorem hA_si {n q j : Nat} {v : Int32} {rf : Nat → Nat → Option Nat} {I : Nat → Nat → Int32} {h : sm_H} (g : hA n rf I h) (hq : q < n) : hA n rf (sm_up I q j v) (sm_si h q j v) := by
  obtain ⟨h1, h2, h3, h4, h5, h6⟩ := g
  refine ⟨h1, h2, h3, h4, fun a ha => ?_, fun a ha => ⟨(h6 a ha).1, ?_⟩⟩
  · funext i
    show (if a = q then (if i = j then v else h.2.2.1 a i) else h.2.2.1 a i) = (if a = q then (if i = j then v else I a i) else I a i)
    rw [h5 a ha]
  · rw [up_o (by omega)]; exact (h6 a ha).2
theorem nX6_11c : sm_LC RX6 11 3 := ⟨rfl, nX6_11, by decide +kernel, by decide +kernel⟩
theorem vpl {i n : Nat} (h : i < n) (hn : n < 2 ^ 31) : vp_in (nI i) n := vp_in_nI h hn

set_option maxHeartbeats 4000000 in
set_option maxRecDepth 100000 in
theorem ct_X2_init_2 {d : Nat} {rf : Nat → Nat → Option Nat} {I : Nat → Nat → Int32} {h0 : sm_H} (g0 : hA 3 rf I h0) : sm_c (d + 1) 6 44 MX2_init [.ref 2] h0 (qv (hA 9 (sm_up (sm_up (sm_up (sm_up (sm_up (sm_up rf 2 1 (some 3)) 2 2 (some 4)) 2 4 (some 5)) 2 5 (some 6)) 2 7 (some 7)) 2 8 (some 8)) (sm_up (sm_up (sm_up (sm_up (sm_up I 2 0 0) 2 3 0) 2 6 0) 2 9 0) 2 10 (-9)))) := by
  refine c_in (L := [.ref 2]) rfl rfl ?_
  refine r_s (pc' := 1) dX2_init_0 rfl rfl ?_
  refine r_obj (pc' := 4) dX2_init_1 rfl oX2_3 rfl ?_
  refine r_s (pc' := 5) dX2_init_4 rfl rfl ?_
  refine r_c (pc' := 6) dX2_init_5 rfl kc_iconst_0 ?_
  refine r_pi (pc' := 9) dX2_init_6 rfl fX2_9 rfl (g0.lt (by decide)) (by rw [g0.k (by decide)]; rfl) ?_
  have g1 := hA_si (q := 2) (j := 0) (v := 0) g0 (by decide)
  generalize sm_si h0 2 0 0 = h1 at g1 ⊢
  refine r_s (pc' := 10) dX2_init_9 rfl rfl ?_
  refine r_c (pc' := 12) dX2_init_10 rfl kc_bipush_6 ?_
  refine r_newa (N := 6) (pc' := 14) dX2_init_12 rfl (by decide) (by decide) (by decide) (Nat.le_of_ble_eq_true rfl) (Nat.le_of_ble_eq_true rfl) ?_
  rw [g1.1]
  have g2 := hA_nw g1 (kd := (0, 6)) rfl
  generalize sm_nw h1 1 (fun _ => (0, 6)) (fun _ _ => none) = h2 at g2 ⊢
  refine r_pfr (pc' := 17) dX2_init_14 rfl fX2_15 ff_2_1 rfl rfl (g2.lt (by decide)) (by rw [g2.k (by decide)]; rfl) ?_
  have g3 := hA_sr (q := 2) (j := 1) (v := some 3) g2 (by decide) (by decide)
  generalize sm_sr h2 2 1 (some 3) = h3 at g3 ⊢
  refine r_s (pc' := 18) dX2_init_17 rfl rfl ?_
  refine r_c (pc' := 20) dX2_init_18 rfl kc_bipush_6 ?_
  refine r_newa (N := 6) (pc' := 22) dX2_init_20 rfl (by decide) (by decide) (by decide) (Nat.le_of_ble_eq_true rfl) (Nat.le_of_ble_eq_true rfl) ?_
  rw [g3.1]
  have g4 := hA_nw g3 (kd := (0, 6)) rfl
  generalize sm_nw h3 1 (fun _ => (0, 6)) (fun _ _ => none) = h4 at g4 ⊢
  refine r_pfr (pc' := 25) dX2_init_22 rfl fX2_19 ff_2_2 rfl rfl (g4.lt (by decide)) (by rw [g4.k (by decide)]; rfl) ?_
  have g5 := hA_sr (q := 2) (j := 2) (v := some 4) g4 (by decide) (by decide)
  generalize sm_sr h4 2 2 (some 4) = h5 at g5 ⊢
  refine r_s (pc' := 26) dX2_init_25 rfl rfl ?_
  refine r_c (pc' := 27) dX2_init_26 rfl kc_iconst_0 ?_
  refine r_pi (pc' := 30) dX2_init_27 rfl fX2_22 rfl (g5.lt (by decide)) (by rw [g5.k (by decide)]; rfl) ?_
  have g6 := hA_si (q := 2) (j := 3) (v := 0) g5 (by decide)
  generalize sm_si h5 2 3 0 = h6 at g6 ⊢
  refine r_s (pc' := 31) dX2_init_30 rfl rfl ?_
  refine r_c (pc' := 33) dX2_init_31 rfl kc_bipush_8 ?_
  refine r_newa (N := 8) (pc' := 35) dX2_init_33 rfl (by decide) (by decide) (by decide) (Nat.le_of_ble_eq_true rfl) (Nat.le_of_ble_eq_true rfl) ?_
  rw [g6.1]
  have g7 := hA_nw g6 (kd := (0, 8)) rfl
  generalize sm_nw h6 1 (fun _ => (0, 8)) (fun _ _ => none) = h7 at g7 ⊢
  refine r_pfr (pc' := 38) dX2_init_35 rfl fX2_25 ff_2_4 rfl rfl (g7.lt (by decide)) (by rw [g7.k (by decide)]; rfl) ?_
  have g8 := hA_sr (q := 2) (j := 4) (v := some 5) g7 (by decide) (by decide)
  generalize sm_sr h7 2 4 (some 5) = h8 at g8 ⊢
  refine r_s (pc' := 39) dX2_init_38 rfl rfl ?_
  refine r_c (pc' := 41) dX2_init_39 rfl kc_bipush_8 ?_
  refine r_newa (N := 8) (pc' := 43) dX2_init_41 rfl (by decide) (by decide) (by decide) (Nat.le_of_ble_eq_true rfl) (Nat.le_of_ble_eq_true rfl) ?_
  rw [g8.1]
  have g9 := hA_nw g8 (kd := (0, 8)) rfl
  generalize sm_nw h8 1 (fun _ => (0, 8)) (fun _ _ => none) = h9 at g9 ⊢
  refine r_pfr (pc' := 46) dX2_init_43 rfl fX2_28 ff_2_5 rfl rfl (g9.lt (by decide)) (by rw [g9.k (by decide)]; rfl) ?_
  have g10 := hA_sr (q := 2) (j := 5) (v := some 6) g9 (by decide) (by decide)
  generalize sm_sr h9 2 5 (some 6) = h10 at g10 ⊢
  refine r_s (pc' := 47) dX2_init_46 rfl rfl ?_
  refine r_c (pc' := 48) dX2_init_47 rfl kc_iconst_0 ?_
  refine r_pi (pc' := 51) dX2_init_48 rfl fX2_31 rfl (g10.lt (by decide)) (by rw [g10.k (by decide)]; rfl) ?_
  have g11 := hA_si (q := 2) (j := 6) (v := 0) g10 (by decide)
  generalize sm_si h10 2 6 0 = h11 at g11 ⊢
  refine r_s (pc' := 52) dX2_init_51 rfl rfl ?_
  refine r_c (pc' := 54) dX2_init_52 rfl kc_bipush_8 ?_
  refine r_newa (N := 8) (pc' := 56) dX2_init_54 rfl (by decide) (by decide) (by decide) (Nat.le_of_ble_eq_true rfl) (Nat.le_of_ble_eq_true rfl) ?_
  rw [g11.1]
  have g12 := hA_nw g11 (kd := (0, 8)) rfl
  generalize sm_nw h11 1 (fun _ => (0, 8)) (fun _ _ => none) = h12 at g12 ⊢
  refine r_pfr (pc' := 59) dX2_init_56 rfl fX2_34 ff_2_7 rfl rfl (g12.lt (by decide)) (by rw [g12.k (by decide)]; rfl) ?_
  have g13 := hA_sr (q := 2) (j := 7) (v := some 7) g12 (by decide) (by decide)
  generalize sm_sr h12 2 7 (some 7) = h13 at g13 ⊢
  refine r_s (pc' := 60) dX2_init_59 rfl rfl ?_
  refine r_c (pc' := 62) dX2_init_60 rfl kc_bipush_8 ?_
  refine r_newa (N := 8) (pc' := 64) dX2_init_62 rfl (by decide) (by decide) (by decide) (Nat.le_of_ble_eq_true rfl) (Nat.le_of_ble_eq_true rfl) ?_
  rw [g13.1]
  have g14 := hA_nw g13 (kd := (0, 8)) rfl
  generalize sm_nw h13 1 (fun _ => (0, 8)) (fun _ _ => none) = h14 at g14 ⊢
  refine r_pfr (pc' := 67) dX2_init_64 rfl fX2_37 ff_2_8 rfl rfl (g14.lt (by decide)) (by rw [g14.k (by decide)]; rfl) ?_
  have g15 := hA_sr (q := 2) (j := 8) (v := some 8) g14 (by decide) (by decide)
  generalize sm_sr h14 2 8 (some 8) = h15 at g15 ⊢
  refine r_s (pc' := 68) dX2_init_67 rfl rfl ?_
  refine r_c (pc' := 69) dX2_init_68 rfl kc_iconst_0 ?_
  refine r_pi (pc' := 72) dX2_init_69 rfl fX2_40 rfl (g15.lt (by decide)) (by rw [g15.k (by decide)]; rfl) ?_
  have g16 := hA_si (q := 2) (j := 9) (v := 0) g15 (by decide)
  generalize sm_si h15 2 9 0 = h16 at g16 ⊢
  refine r_s (pc' := 73) dX2_init_72 rfl rfl ?_
  refine r_c (pc' := 75) dX2_init_73 rfl kc_bipush_m9 ?_
  refine r_pi (pc' := 78) dX2_init_75 rfl fX2_43 rfl (g16.lt (by decide)) (by rw [g16.k (by decide)]; rfl) ?_
  have g17 := hA_si (q := 2) (j := 10) (v := -9) g16 (by decide)
  generalize sm_si h16 2 10 (-9) = h17 at g17 ⊢
  exact r_retv dX2_init_78 rfl (Nat.le_of_ble_eq_true rfl) (Nat.le_of_ble_eq_true rfl) ⟨rfl, g17⟩

set_option maxHeartbeats 4000000 in
set_option maxRecDepth 100000 in
theorem ct_X2_init_9 {d : Nat} {rf : Nat → Nat → Option Nat} {I : Nat → Nat → Int32} {h0 : sm_H} (g0 : hA 10 rf I h0) : sm_c (d + 1) 6 44 MX2_init [.ref 9] h0 (qv (hA 16 (sm_up (sm_up (sm_up (sm_up (sm_up (sm_up rf 9 1 (some 10)) 9 2 (some 11)) 9 4 (some 12)) 9 5 (some 13)) 9 7 (some 14)) 9 8 (some 15)) (sm_up (sm_up (sm_up (sm_up (sm_up I 9 0 0) 9 3 0) 9 6 0) 9 9 0) 9 10 (-9)))) := by
  refine c_in (L := [.ref 9]) rfl rfl ?_
  refine r_s (pc' := 1) dX2_init_0 rfl rfl ?_
  refine r_obj (pc' := 4) dX2_init_1 rfl oX2_3 rfl ?_
  refine r_s (pc' := 5) dX2_init_4 rfl rfl ?_
  refine r_c (pc' := 6) dX2_init_5 rfl kc_iconst_0 ?_
  refine r_pi (pc' := 9) dX2_init_6 rfl fX2_9 rfl (g0.lt (by decide)) (by rw [g0.k (by decide)]; rfl) ?_
  have g1 := hA_si (q := 9) (j := 0) (v := 0) g0 (by decide)
  generalize sm_si h0 9 0 0 = h1 at g1 ⊢
  refine r_s (pc' := 10) dX2_init_9 rfl rfl ?_
  refine r_c (pc' := 12) dX2_init_10 rfl kc_bipush_6 ?_
  refine r_newa (N := 6) (pc' := 14) dX2_init_12 rfl (by decide) (by decide) (by decide) (Nat.le_of_ble_eq_true rfl) (Nat.le_of_ble_eq_true rfl) ?_
  rw [g1.1]
  have g2 := hA_nw g1 (kd := (0, 6)) rfl
  generalize sm_nw h1 1 (fun _ => (0, 6)) (fun _ _ => none) = h2 at g2 ⊢
  refine r_pfr (pc' := 17) dX2_init_14 rfl fX2_15 ff_2_1 rfl rfl (g2.lt (by decide)) (by rw [g2.k (by decide)]; rfl) ?_
  have g3 := hA_sr (q := 9) (j := 1) (v := some 10) g2 (by decide) (by decide)
  generalize sm_sr h2 9 1 (some 10) = h3 at g3 ⊢
  refine r_s (pc' := 18) dX2_init_17 rfl rfl ?_
  refine r_c (pc' := 20) dX2_init_18 rfl kc_bipush_6 ?_
  refine r_newa (N := 6) (pc' := 22) dX2_init_20 rfl (by decide) (by decide) (by decide) (Nat.le_of_ble_eq_true rfl) (Nat.le_of_ble_eq_true rfl) ?_
  rw [g3.1]
  have g4 := hA_nw g3 (kd := (0, 6)) rfl
  generalize sm_nw h3 1 (fun _ => (0, 6)) (fun _ _ => none) = h4 at g4 ⊢
  refine r_pfr (pc' := 25) dX2_init_22 rfl fX2_19 ff_2_2 rfl rfl (g4.lt (by decide)) (by rw [g4.k (by decide)]; rfl) ?_
  have g5 := hA_sr (q := 9) (j := 2) (v := some 11) g4 (by decide) (by decide)
  generalize sm_sr h4 9 2 (some 11) = h5 at g5 ⊢
  refine r_s (pc' := 26) dX2_init_25 rfl rfl ?_
  refine r_c (pc' := 27) dX2_init_26 rfl kc_iconst_0 ?_
  refine r_pi (pc' := 30) dX2_init_27 rfl fX2_22 rfl (g5.lt (by decide)) (by rw [g5.k (by decide)]; rfl) ?_
  have g6 := hA_si (q := 9) (j := 3) (v := 0) g5 (by decide)
  generalize sm_si h5 9 3 0 = h6 at g6 ⊢
  refine r_s (pc' := 31) dX2_init_30 rfl rfl ?_
  refine r_c (pc' := 33) dX2_init_31 rfl kc_bipush_8 ?_
  refine r_newa (N := 8) (pc' := 35) dX2_init_33 rfl (by decide) (by decide) (by decide) (Nat.le_of_ble_eq_true rfl) (Nat.le_of_ble_eq_true rfl) ?_
  rw [g6.1]
  have g7 := hA_nw g6 (kd := (0, 8)) rfl
  generalize sm_nw h6 1 (fun _ => (0, 8)) (fun _ _ => none) = h7 at g7 ⊢
  refine r_pfr (pc' := 38) dX2_init_35 rfl fX2_25 ff_2_4 rfl rfl (g7.lt (by decide)) (by rw [g7.k (by decide)]; rfl) ?_
  have g8 := hA_sr (q := 9) (j := 4) (v := some 12) g7 (by decide) (by decide)
  generalize sm_sr h7 9 4 (some 12) = h8 at g8 ⊢
  refine r_s (pc' := 39) dX2_init_38 rfl rfl ?_
  refine r_c (pc' := 41) dX2_init_39 rfl kc_bipush_8 ?_
  refine r_newa (N := 8) (pc' := 43) dX2_init_41 rfl (by decide) (by decide) (by decide) (Nat.le_of_ble_eq_true rfl) (Nat.le_of_ble_eq_true rfl) ?_
  rw [g8.1]
  have g9 := hA_nw g8 (kd := (0, 8)) rfl
  generalize sm_nw h8 1 (fun _ => (0, 8)) (fun _ _ => none) = h9 at g9 ⊢
  refine r_pfr (pc' := 46) dX2_init_43 rfl fX2_28 ff_2_5 rfl rfl (g9.lt (by decide)) (by rw [g9.k (by decide)]; rfl) ?_
  have g10 := hA_sr (q := 9) (j := 5) (v := some 13) g9 (by decide) (by decide)
  generalize sm_sr h9 9 5 (some 13) = h10 at g10 ⊢
  refine r_s (pc' := 47) dX2_init_46 rfl rfl ?_
  refine r_c (pc' := 48) dX2_init_47 rfl kc_iconst_0 ?_
  refine r_pi (pc' := 51) dX2_init_48 rfl fX2_31 rfl (g10.lt (by decide)) (by rw [g10.k (by decide)]; rfl) ?_
  have g11 := hA_si (q := 9) (j := 6) (v := 0) g10 (by decide)
  generalize sm_si h10 9 6 0 = h11 at g11 ⊢
  refine r_s (pc' := 52) dX2_init_51 rfl rfl ?_
  refine r_c (pc' := 54) dX2_init_52 rfl kc_bipush_8 ?_
  refine r_newa (N := 8) (pc' := 56) dX2_init_54 rfl (by decide) (by decide) (by decide) (Nat.le_of_ble_eq_true rfl) (Nat.le_of_ble_eq_true rfl) ?_
  rw [g11.1]
  have g12 := hA_nw g11 (kd := (0, 8)) rfl
  generalize sm_nw h11 1 (fun _ => (0, 8)) (fun _ _ => none) = h12 at g12 ⊢
  refine r_pfr (pc' := 59) dX2_init_56 rfl fX2_34 ff_2_7 rfl rfl (g12.lt (by decide)) (by rw [g12.k (by decide)]; rfl) ?_
  have g13 := hA_sr (q := 9) (j := 7) (v := some 14) g12 (by decide) (by decide)
  generalize sm_sr h12 9 7 (some 14) = h13 at g13 ⊢
  refine r_s (pc' := 60) dX2_init_59 rfl rfl ?_
  refine r_c (pc' := 62) dX2_init_60 rfl kc_bipush_8 ?_
  refine r_newa (N := 8) (pc' := 64) dX2_init_62 rfl (by decide) (by decide) (by decide) (Nat.le_of_ble_eq_true rfl) (Nat.le_of_ble_eq_true rfl) ?_
  rw [g13.1]
  have g14 := hA_nw g13 (kd := (0, 8)) rfl
  generalize sm_nw h13 1 (fun _ => (0, 8)) (fun _ _ => none) = h14 at g14 ⊢
  refine r_pfr (pc' := 67) dX2_init_64 rfl fX2_37 ff_2_8 rfl rfl (g14.lt (by decide)) (by rw [g14.k (by decide)]; rfl) ?_
  have g15 := hA_sr (q := 9) (j := 8) (v := some 15) g14 (by decide) (by decide)
  generalize sm_sr h14 9 8 (some 15) = h15 at g15 ⊢
  refine r_s (pc' := 68) dX2_init_67 rfl rfl ?_
  refine r_c (pc' := 69) dX2_init_68 rfl kc_iconst_0 ?_
  refine r_pi (pc' := 72) dX2_init_69 rfl fX2_40 rfl (g15.lt (by decide)) (by rw [g15.k (by decide)]; rfl) ?_
  have g16 := hA_si (q := 9) (j := 9) (v := 0) g15 (by decide)
  generalize sm_si h15 9 9 0 = h16 at g16 ⊢
  refine r_s (pc' := 73) dX2_init_72 rfl rfl ?_
  refine r_c (pc' := 75) dX2_init_73 rfl kc_bipush_m9 ?_
  refine r_pi (pc' := 78) dX2_init_75 rfl fX2_43 rfl (g16.lt (by decide)) (by rw [g16.k (by decide)]; rfl) ?_
  have g17 := hA_si (q := 9) (j := 10) (v := -9) g16 (by decide)
  generalize sm_si h16 9 10 (-9) = h17 at g17 ⊢
  exact r_retv dX2_init_78 rfl (Nat.le_of_ble_eq_true rfl) (Nat.le_of_ble_eq_true rfl) ⟨rfl, g17⟩

set_option maxHeartbeats 4000000 in
set_option maxRecDepth 100000 in
theorem ct_X2_init_43 {d : Nat} {rf : Nat → Nat → Option Nat} {I : Nat → Nat → Int32} {h0 : sm_H} (g0 : hA 44 rf I h0) : sm_c (d + 1) 6 44 MX2_init [.ref 43] h0 (qv (hA 50 (sm_up (sm_up (sm_up (sm_up (sm_up (sm_up rf 43 1 (some 44)) 43 2 (some 45)) 43 4 (some 46)) 43 5 (some 47)) 43 7 (some 48)) 43 8 (some 49)) (sm_up (sm_up (sm_up (sm_up (sm_up I 43 0 0) 43 3 0) 43 6 0) 43 9 0) 43 10 (-9)))) := by
  refine c_in (L := [.ref 43]) rfl rfl ?_
  refine r_s (pc' := 1) dX2_init_0 rfl rfl ?_
  refine r_obj (pc' := 4) dX2_init_1 rfl oX2_3 rfl ?_
  refine r_s (pc' := 5) dX2_init_4 rfl rfl ?_
  refine r_c (pc' := 6) dX2_init_5 rfl kc_iconst_0 ?_
  refine r_pi (pc' := 9) dX2_init_6 rfl fX2_9 rfl (g0.lt (by decide)) (by rw [g0.k (by decide)]; rfl) ?_
  have g1 := hA_si (q := 43) (j := 0) (v := 0) g0 (by decide)
  generalize sm_si h0 43 0 0 = h1 at g1 ⊢
  refine r_s (pc' := 10) dX2_init_9 rfl rfl ?_
  refine r_c (pc' := 12) dX2_init_10 rfl kc_bipush_6 ?_
  refine r_newa (N := 6) (pc' := 14) dX2_init_12 rfl (by decide) (by decide) (by decide) (Nat.le_of_ble_eq_true rfl) (Nat.le_of_ble_eq_true rfl) ?_
  rw [g1.1]
  have g2 := hA_nw g1 (kd := (0, 6)) rfl
  generalize sm_nw h1 1 (fun _ => (0, 6)) (fun _ _ => none) = h2 at g2 ⊢
  refine r_pfr (pc' := 17) dX2_init_14 rfl fX2_15 ff_2_1 rfl rfl (g2.lt (by decide)) (by rw [g2.k (by decide)]; rfl) ?_
  have g3 := hA_sr (q := 43) (j := 1) (v := some 44) g2 (by decide) (by decide)
  generalize sm_sr h2 43 1 (some 44) = h3 at g3 ⊢
  refine r_s (pc' := 18) dX2_init_17 rfl rfl ?_
  refine r_c (pc' := 20) dX2_init_18 rfl kc_bipush_6 ?_
  refine r_newa (N := 6) (pc' := 22) dX2_init_20 rfl (by decide) (by decide) (by decide) (Nat.le_of_ble_eq_true rfl) (Nat.le_of_ble_eq_true rfl) ?_
  rw [g3.1]
  have g4 := hA_nw g3 (kd := (0, 6)) rfl
  generalize sm_nw h3 1 (fun _ => (0, 6)) (fun _ _ => none) = h4 at g4 ⊢
  refine r_pfr (pc' := 25) dX2_init_22 rfl fX2_19 ff_2_2 rfl rfl (g4.lt (by decide)) (by rw [g4.k (by decide)]; rfl) ?_
  have g5 := hA_sr (q := 43) (j := 2) (v := some 45) g4 (by decide) (by decide)
  generalize sm_sr h4 43 2 (some 45) = h5 at g5 ⊢
  refine r_s (pc' := 26) dX2_init_25 rfl rfl ?_
  refine r_c (pc' := 27) dX2_init_26 rfl kc_iconst_0 ?_
  refine r_pi (pc' := 30) dX2_init_27 rfl fX2_22 rfl (g5.lt (by decide)) (by rw [g5.k (by decide)]; rfl) ?_
  have g6 := hA_si (q := 43) (j := 3) (v := 0) g5 (by decide)
  generalize sm_si h5 43 3 0 = h6 at g6 ⊢
  refine r_s (pc' := 31) dX2_init_30 rfl rfl ?_
  refine r_c (pc' := 33) dX2_init_31 rfl kc_bipush_8 ?_
  refine r_newa (N := 8) (pc' := 35) dX2_init_33 rfl (by decide) (by decide) (by decide) (Nat.le_of_ble_eq_true rfl) (Nat.le_of_ble_eq_true rfl) ?_
  rw [g6.1]
  have g7 := hA_nw g6 (kd := (0, 8)) rfl
  generalize sm_nw h6 1 (fun _ => (0, 8)) (fun _ _ => none) = h7 at g7 ⊢
  refine r_pfr (pc' := 38) dX2_init_35 rfl fX2_25 ff_2_4 rfl rfl (g7.lt (by decide)) (by rw [g7.k (by decide)]; rfl) ?_
  have g8 := hA_sr (q := 43) (j := 4) (v := some 46) g7 (by decide) (by decide)
  generalize sm_sr h7 43 4 (some 46) = h8 at g8 ⊢
  refine r_s (pc' := 39) dX2_init_38 rfl rfl ?_
  refine r_c (pc' := 41) dX2_init_39 rfl kc_bipush_8 ?_
  refine r_newa (N := 8) (pc' := 43) dX2_init_41 rfl (by decide) (by decide) (by decide) (Nat.le_of_ble_eq_true rfl) (Nat.le_of_ble_eq_true rfl) ?_
  rw [g8.1]
  have g9 := hA_nw g8 (kd := (0, 8)) rfl
  generalize sm_nw h8 1 (fun _ => (0, 8)) (fun _ _ => none) = h9 at g9 ⊢
  refine r_pfr (pc' := 46) dX2_init_43 rfl fX2_28 ff_2_5 rfl rfl (g9.lt (by decide)) (by rw [g9.k (by decide)]; rfl) ?_
  have g10 := hA_sr (q := 43) (j := 5) (v := some 47) g9 (by decide) (by decide)
  generalize sm_sr h9 43 5 (some 47) = h10 at g10 ⊢
  refine r_s (pc' := 47) dX2_init_46 rfl rfl ?_
  refine r_c (pc' := 48) dX2_init_47 rfl kc_iconst_0 ?_
  refine r_pi (pc' := 51) dX2_init_48 rfl fX2_31 rfl (g10.lt (by decide)) (by rw [g10.k (by decide)]; rfl) ?_
  have g11 := hA_si (q := 43) (j := 6) (v := 0) g10 (by decide)
  generalize sm_si h10 43 6 0 = h11 at g11 ⊢
  refine r_s (pc' := 52) dX2_init_51 rfl rfl ?_
  refine r_c (pc' := 54) dX2_init_52 rfl kc_bipush_8 ?_
  refine r_newa (N := 8) (pc' := 56) dX2_init_54 rfl (by decide) (by decide) (by decide) (Nat.le_of_ble_eq_true rfl) (Nat.le_of_ble_eq_true rfl) ?_
  rw [g11.1]
  have g12 := hA_nw g11 (kd := (0, 8)) rfl
  generalize sm_nw h11 1 (fun _ => (0, 8)) (fun _ _ => none) = h12 at g12 ⊢
  refine r_pfr (pc' := 59) dX2_init_56 rfl fX2_34 ff_2_7 rfl rfl (g12.lt (by decide)) (by rw [g12.k (by decide)]; rfl) ?_
  have g13 := hA_sr (q := 43) (j := 7) (v := some 48) g12 (by decide) (by decide)
  generalize sm_sr h12 43 7 (some 48) = h13 at g13 ⊢
  refine r_s (pc' := 60) dX2_init_59 rfl rfl ?_
  refine r_c (pc' := 62) dX2_init_60 rfl kc_bipush_8 ?_
  refine r_newa (N := 8) (pc' := 64) dX2_init_62 rfl (by decide) (by decide) (by decide) (Nat.le_of_ble_eq_true rfl) (Nat.le_of_ble_eq_true rfl) ?_
  rw [g13.1]
  have g14 := hA_nw g13 (kd := (0, 8)) rfl
  generalize sm_nw h13 1 (fun _ => (0, 8)) (fun _ _ => none) = h14 at g14 ⊢
  refine r_pfr (pc' := 67) dX2_init_64 rfl fX2_37 ff_2_8 rfl rfl (g14.lt (by decide)) (by rw [g14.k (by decide)]; rfl) ?_
  have g15 := hA_sr (q := 43) (j := 8) (v := some 49) g14 (by decide) (by decide)
  generalize sm_sr h14 43 8 (some 49) = h15 at g15 ⊢
  refine r_s (pc' := 68) dX2_init_67 rfl rfl ?_
  refine r_c (pc' := 69) dX2_init_68 rfl kc_iconst_0 ?_
  refine r_pi (pc' := 72) dX2_init_69 rfl fX2_40 rfl (g15.lt (by decide)) (by rw [g15.k (by decide)]; rfl) ?_
  have g16 := hA_si (q := 43) (j := 9) (v := 0) g15 (by decide)
  generalize sm_si h15 43 9 0 = h16 at g16 ⊢
  refine r_s (pc' := 73) dX2_init_72 rfl rfl ?_
  refine r_c (pc' := 75) dX2_init_73 rfl kc_bipush_m9 ?_
  refine r_pi (pc' := 78) dX2_init_75 rfl fX2_43 rfl (g16.lt (by decide)) (by rw [g16.k (by decide)]; rfl) ?_
  have g17 := hA_si (q := 43) (j := 10) (v := -9) g16 (by decide)
  generalize sm_si h16 43 10 (-9) = h17 at g17 ⊢
  exact r_retv dX2_init_78 rfl (Nat.le_of_ble_eq_true rfl) (Nat.le_of_ble_eq_true rfl) ⟨rfl, g17⟩

set_option maxHeartbeats 4000000 in
set_option maxRecDepth 100000 in
theorem ct_X0_init_16 {d : Nat} {rf : Nat → Nat → Option Nat} {I : Nat → Nat → Int32} {h0 : sm_H} (g0 : hA 17 rf I h0) : sm_c (d + 1) 21 144 MX0_init [.ref 16, .ref 2] h0 (qv (hA 38 (sm_up (sm_up (sm_up (rfm (sm_up (rfm rf 17) 16 1 (some 17)) 27) 16 2 (some 27)) 16 3 (some 37)) 16 0 (some 2)) I)) := by
  refine c_in (L := [.ref 16, .ref 2]) rfl rfl ?_
  refine r_s (pc' := 1) dX0_init_0 rfl rfl ?_
  refine r_obj (pc' := 4) dX0_init_1 rfl oX0_3 rfl ?_
  refine r_s (pc' := 5) dX0_init_4 rfl rfl ?_
  refine r_c (pc' := 7) dX0_init_5 rfl kc_bipush_9 ?_
  refine r_c (pc' := 9) dX0_init_7 rfl kc_bipush_6 ?_
  refine r_mna (N := 9) (K := 6) (pc' := 13) dX0_init_9 rfl nX0_9 (by decide) (by decide) (by decide) (by decide) (by decide) (by decide) (Nat.le_of_ble_eq_true rfl) (Nat.le_of_ble_eq_true rfl) ?_
  rw [show (.ref h0.1 : Value) = .ref 17 by rw [g0.1]]
  have g1 := hA_mna (K := 6) g0 rfl (by decide)
  generalize sm_nw h0 (1 + 9) (fun i => if i = 0 then (1, 9) else (0, 6)) (fun i j => if i = 0 ∧ j < 9 then some (h0.1 + 1 + j) else none) = h1 at g1 ⊢
  refine r_pfr (pc' := 16) dX0_init_13 rfl fX0_11 ff_0_1 rfl rfl (g1.lt (by decide)) (by rw [g1.k (by decide)]; rfl) ?_
  have g2 := hA_sr (q := 16) (j := 1) (v := some 17) g1 (by decide) (by decide)
  generalize sm_sr h1 16 1 (some 17) = h2 at g2 ⊢
  refine r_s (pc' := 17) dX0_init_16 rfl rfl ?_
  refine r_c (pc' := 19) dX0_init_17 rfl kc_bipush_9 ?_
  refine r_c (pc' := 21) dX0_init_19 rfl kc_bipush_7 ?_
  refine r_mna (N := 9) (K := 7) (pc' := 25) dX0_init_21 rfl nX0_9 (by decide) (by decide) (by decide) (by decide) (by decide) (by decide) (Nat.le_of_ble_eq_true rfl) (Nat.le_of_ble_eq_true rfl) ?_
  rw [show (.ref h2.1 : Value) = .ref 27 by rw [g2.1]]
  have g3 := hA_mna (K := 7) g2 rfl (by decide)
  generalize sm_nw h2 (1 + 9) (fun i => if i = 0 then (1, 9) else (0, 7)) (fun i j => if i = 0 ∧ j < 9 then some (h2.1 + 1 + j) else none) = h3 at g3 ⊢
  refine r_pfr (pc' := 28) dX0_init_25 rfl fX0_16 ff_0_2 rfl rfl (g3.lt (by decide)) (by rw [g3.k (by decide)]; rfl) ?_
  have g4 := hA_sr (q := 16) (j := 2) (v := some 27) g3 (by decide) (by decide)
  generalize sm_sr h3 16 2 (some 27) = h4 at g4 ⊢
  refine r_s (pc' := 29) dX0_init_28 rfl rfl ?_
  refine r_c (pc' := 31) dX0_init_29 rfl kc_bipush_9 ?_
  refine r_newa (N := 9) (pc' := 33) dX0_init_31 rfl (by decide) (by decide) (by decide) (Nat.le_of_ble_eq_true rfl) (Nat.le_of_ble_eq_true rfl) ?_
  rw [g4.1]
  have g5 := hA_nw g4 (kd := (0, 9)) rfl
  generalize sm_nw h4 1 (fun _ => (0, 9)) (fun _ _ => none) = h5 at g5 ⊢
  refine r_pfr (pc' := 36) dX0_init_33 rfl fX0_19 ff_0_3 rfl rfl (g5.lt (by decide)) (by rw [g5.k (by decide)]; rfl) ?_
  have g6 := hA_sr (q := 16) (j := 3) (v := some 37) g5 (by decide) (by decide)
  generalize sm_sr h5 16 3 (some 37) = h6 at g6 ⊢
  refine r_s (pc' := 37) dX0_init_36 rfl rfl ?_
  refine r_s (pc' := 38) dX0_init_37 rfl rfl ?_
  refine r_pfr (pc' := 41) dX0_init_38 rfl fX0_23 ff_0_0 rfl rfl (g6.lt (by decide)) (by rw [g6.k (by decide)]; rfl) ?_
  have g7 := hA_sr (q := 16) (j := 0) (v := some 2) g6 (by decide) (by decide)
  generalize sm_sr h6 16 0 (some 2) = h7 at g7 ⊢
  exact r_retv dX0_init_41 rfl (Nat.le_of_ble_eq_true rfl) (Nat.le_of_ble_eq_true rfl) ⟨rfl, g7⟩

set_option maxHeartbeats 4000000 in
set_option maxRecDepth 100000 in
theorem ct_X0_init_50 {d : Nat} {rf : Nat → Nat → Option Nat} {I : Nat → Nat → Int32} {h0 : sm_H} (g0 : hA 51 rf I h0) : sm_c (d + 1) 21 144 MX0_init [.ref 50, .ref 43] h0 (qv (hA 72 (sm_up (sm_up (sm_up (rfm (sm_up (rfm rf 51) 50 1 (some 51)) 61) 50 2 (some 61)) 50 3 (some 71)) 50 0 (some 43)) I)) := by
  refine c_in (L := [.ref 50, .ref 43]) rfl rfl ?_
  refine r_s (pc' := 1) dX0_init_0 rfl rfl ?_
  refine r_obj (pc' := 4) dX0_init_1 rfl oX0_3 rfl ?_
  refine r_s (pc' := 5) dX0_init_4 rfl rfl ?_
  refine r_c (pc' := 7) dX0_init_5 rfl kc_bipush_9 ?_
  refine r_c (pc' := 9) dX0_init_7 rfl kc_bipush_6 ?_
  refine r_mna (N := 9) (K := 6) (pc' := 13) dX0_init_9 rfl nX0_9 (by decide) (by decide) (by decide) (by decide) (by decide) (by decide) (Nat.le_of_ble_eq_true rfl) (Nat.le_of_ble_eq_true rfl) ?_
  rw [show (.ref h0.1 : Value) = .ref 51 by rw [g0.1]]
  have g1 := hA_mna (K := 6) g0 rfl (by decide)
  generalize sm_nw h0 (1 + 9) (fun i => if i = 0 then (1, 9) else (0, 6)) (fun i j => if i = 0 ∧ j < 9 then some (h0.1 + 1 + j) else none) = h1 at g1 ⊢
  refine r_pfr (pc' := 16) dX0_init_13 rfl fX0_11 ff_0_1 rfl rfl (g1.lt (by decide)) (by rw [g1.k (by decide)]; rfl) ?_
  have g2 := hA_sr (q := 50) (j := 1) (v := some 51) g1 (by decide) (by decide)
  generalize sm_sr h1 50 1 (some 51) = h2 at g2 ⊢
  refine r_s (pc' := 17) dX0_init_16 rfl rfl ?_
  refine r_c (pc' := 19) dX0_init_17 rfl kc_bipush_9 ?_
  refine r_c (pc' := 21) dX0_init_19 rfl kc_bipush_7 ?_
  refine r_mna (N := 9) (K := 7) (pc' := 25) dX0_init_21 rfl nX0_9 (by decide) (by decide) (by decide) (by decide) (by decide) (by decide) (Nat.le_of_ble_eq_true rfl) (Nat.le_of_ble_eq_true rfl) ?_
  rw [show (.ref h2.1 : Value) = .ref 61 by rw [g2.1]]
  have g3 := hA_mna (K := 7) g2 rfl (by decide)
  generalize sm_nw h2 (1 + 9) (fun i => if i = 0 then (1, 9) else (0, 7)) (fun i j => if i = 0 ∧ j < 9 then some (h2.1 + 1 + j) else none) = h3 at g3 ⊢
  refine r_pfr (pc' := 28) dX0_init_25 rfl fX0_16 ff_0_2 rfl rfl (g3.lt (by decide)) (by rw [g3.k (by decide)]; rfl) ?_
  have g4 := hA_sr (q := 50) (j := 2) (v := some 61) g3 (by decide) (by decide)
  generalize sm_sr h3 50 2 (some 61) = h4 at g4 ⊢
  refine r_s (pc' := 29) dX0_init_28 rfl rfl ?_
  refine r_c (pc' := 31) dX0_init_29 rfl kc_bipush_9 ?_
  refine r_newa (N := 9) (pc' := 33) dX0_init_31 rfl (by decide) (by decide) (by decide) (Nat.le_of_ble_eq_true rfl) (Nat.le_of_ble_eq_true rfl) ?_
  rw [g4.1]
  have g5 := hA_nw g4 (kd := (0, 9)) rfl
  generalize sm_nw h4 1 (fun _ => (0, 9)) (fun _ _ => none) = h5 at g5 ⊢
  refine r_pfr (pc' := 36) dX0_init_33 rfl fX0_19 ff_0_3 rfl rfl (g5.lt (by decide)) (by rw [g5.k (by decide)]; rfl) ?_
  have g6 := hA_sr (q := 50) (j := 3) (v := some 71) g5 (by decide) (by decide)
  generalize sm_sr h5 50 3 (some 71) = h6 at g6 ⊢
  refine r_s (pc' := 37) dX0_init_36 rfl rfl ?_
  refine r_s (pc' := 38) dX0_init_37 rfl rfl ?_
  refine r_pfr (pc' := 41) dX0_init_38 rfl fX0_23 ff_0_0 rfl rfl (g6.lt (by decide)) (by rw [g6.k (by decide)]; rfl) ?_
  have g7 := hA_sr (q := 50) (j := 0) (v := some 43) g6 (by decide) (by decide)
  generalize sm_sr h6 50 0 (some 43) = h7 at g7 ⊢
  exact r_retv dX0_init_41 rfl (Nat.le_of_ble_eq_true rfl) (Nat.le_of_ble_eq_true rfl) ⟨rfl, g7⟩

set_option maxHeartbeats 4000000 in
set_option maxRecDepth 100000 in
theorem ct_X1_init_38 {d : Nat} {rf : Nat → Nat → Option Nat} {I : Nat → Nat → Int32} {h0 : sm_H} (g0 : hA 39 rf I h0) : sm_c (d + 1) 3 24 MX1_init [.ref 38] h0 (qv (hA 42 (sm_up (sm_up (sm_up rf 38 1 (some 39)) 38 2 (some 40)) 38 3 (some 41)) (sm_up I 38 0 0))) := by
  refine c_in (L := [.ref 38]) rfl rfl ?_
  refine r_s (pc' := 1) dX1_init_0 rfl rfl ?_
  refine r_obj (pc' := 4) dX1_init_1 rfl oX1_3 rfl ?_
  refine r_s (pc' := 5) dX1_init_4 rfl rfl ?_
  refine r_c (pc' := 6) dX1_init_5 rfl kc_iconst_0 ?_
  refine r_pi (pc' := 9) dX1_init_6 rfl fX1_9 rfl (g0.lt (by decide)) (by rw [g0.k (by decide)]; rfl) ?_
  have g1 := hA_si (q := 38) (j := 0) (v := 0) g0 (by decide)
  generalize sm_si h0 38 0 0 = h1 at g1 ⊢
  refine r_s (pc' := 10) dX1_init_9 rfl rfl ?_
  refine r_c (pc' := 12) dX1_init_10 rfl kc_bipush_8 ?_
  refine r_newa (N := 8) (pc' := 14) dX1_init_12 rfl (by decide) (by decide) (by decide) (Nat.le_of_ble_eq_true rfl) (Nat.le_of_ble_eq_true rfl) ?_
  rw [g1.1]
  have g2 := hA_nw g1 (kd := (0, 8)) rfl
  generalize sm_nw h1 1 (fun _ => (0, 8)) (fun _ _ => none) = h2 at g2 ⊢
  refine r_pfr (pc' := 17) dX1_init_14 rfl fX1_15 ff_1_1 rfl rfl (g2.lt (by decide)) (by rw [g2.k (by decide)]; rfl) ?_
  have g3 := hA_sr (q := 38) (j := 1) (v := some 39) g2 (by decide) (by decide)
  generalize sm_sr h2 38 1 (some 39) = h3 at g3 ⊢
  refine r_s (pc' := 18) dX1_init_17 rfl rfl ?_
  refine r_c (pc' := 20) dX1_init_18 rfl kc_bipush_8 ?_
  refine r_newa (N := 8) (pc' := 22) dX1_init_20 rfl (by decide) (by decide) (by decide) (Nat.le_of_ble_eq_true rfl) (Nat.le_of_ble_eq_true rfl) ?_
  rw [g3.1]
  have g4 := hA_nw g3 (kd := (0, 8)) rfl
  generalize sm_nw h3 1 (fun _ => (0, 8)) (fun _ _ => none) = h4 at g4 ⊢
  refine r_pfr (pc' := 25) dX1_init_22 rfl fX1_19 ff_1_2 rfl rfl (g4.lt (by decide)) (by rw [g4.k (by decide)]; rfl) ?_
  have g5 := hA_sr (q := 38) (j := 2) (v := some 40) g4 (by decide) (by decide)
  generalize sm_sr h4 38 2 (some 40) = h5 at g5 ⊢
  refine r_s (pc' := 26) dX1_init_25 rfl rfl ?_
  refine r_c (pc' := 28) dX1_init_26 rfl kc_bipush_8 ?_
  refine r_newa (N := 8) (pc' := 30) dX1_init_28 rfl (by decide) (by decide) (by decide) (Nat.le_of_ble_eq_true rfl) (Nat.le_of_ble_eq_true rfl) ?_
  rw [g5.1]
  have g6 := hA_nw g5 (kd := (0, 8)) rfl
  generalize sm_nw h5 1 (fun _ => (0, 8)) (fun _ _ => none) = h6 at g6 ⊢
  refine r_pfr (pc' := 33) dX1_init_30 rfl fX1_22 ff_1_3 rfl rfl (g6.lt (by decide)) (by rw [g6.k (by decide)]; rfl) ?_
  have g7 := hA_sr (q := 38) (j := 3) (v := some 41) g6 (by decide) (by decide)
  generalize sm_sr h6 38 3 (some 41) = h7 at g7 ⊢
  exact r_retv dX1_init_33 rfl (Nat.le_of_ble_eq_true rfl) (Nat.le_of_ble_eq_true rfl) ⟨rfl, g7⟩

set_option maxHeartbeats 4000000 in
set_option maxRecDepth 100000 in
theorem ct_X3_init_72 {d : Nat} {rf : Nat → Nat → Option Nat} {I : Nat → Nat → Int32} {h0 : sm_H} (g0 : hA 73 rf I h0) : sm_c (d + 1) 1 60 MX3_init [.ref 72] h0 (qv (hA 74 (sm_up rf 72 0 (some 73)) (sm_up (sm_up I 72 1 (-1)) 72 2 0))) := by
  refine c_in (L := [.ref 72]) rfl rfl ?_
  refine r_s (pc' := 1) dX3_init_0 rfl rfl ?_
  refine r_obj (pc' := 4) dX3_init_1 rfl oX3_3 rfl ?_
  refine r_s (pc' := 5) dX3_init_4 rfl rfl ?_
  refine r_c (pc' := 7) dX3_init_5 rfl kc_bipush_60 ?_
  refine r_newa (N := 60) (pc' := 9) dX3_init_7 rfl (by decide) (by decide) (by decide) (Nat.le_of_ble_eq_true rfl) (Nat.le_of_ble_eq_true rfl) ?_
  rw [g0.1]
  have g1 := hA_nw g0 (kd := (0, 60)) rfl
  generalize sm_nw h0 1 (fun _ => (0, 60)) (fun _ _ => none) = h1 at g1 ⊢
  refine r_pfr (pc' := 12) dX3_init_9 rfl fX3_9 ff_3_0 rfl rfl (g1.lt (by decide)) (by rw [g1.k (by decide)]; rfl) ?_
  have g2 := hA_sr (q := 72) (j := 0) (v := some 73) g1 (by decide) (by decide)
  generalize sm_sr h1 72 0 (some 73) = h2 at g2 ⊢
  refine r_s (pc' := 13) dX3_init_12 rfl rfl ?_
  refine r_c (pc' := 14) dX3_init_13 rfl kc_iconst_m1 ?_
  refine r_pi (pc' := 17) dX3_init_14 rfl fX3_15 rfl (g2.lt (by decide)) (by rw [g2.k (by decide)]; rfl) ?_
  have g3 := hA_si (q := 72) (j := 1) (v := -1) g2 (by decide)
  generalize sm_si h2 72 1 (-1) = h3 at g3 ⊢
  refine r_s (pc' := 18) dX3_init_17 rfl rfl ?_
  refine r_c (pc' := 19) dX3_init_18 rfl kc_iconst_0 ?_
  refine r_pi (pc' := 22) dX3_init_19 rfl fX3_19 rfl (g3.lt (by decide)) (by rw [g3.k (by decide)]; rfl) ?_
  have g4 := hA_si (q := 72) (j := 2) (v := 0) g3 (by decide)
  generalize sm_si h3 72 2 0 = h4 at g4 ⊢
  exact r_retv dX3_init_22 rfl (Nat.le_of_ble_eq_true rfl) (Nat.le_of_ble_eq_true rfl) ⟨rfl, g4⟩

set_option maxHeartbeats 4000000 in
set_option maxRecDepth 100000 in
theorem ct_X3_init_74 {d : Nat} {rf : Nat → Nat → Option Nat} {I : Nat → Nat → Int32} {h0 : sm_H} (g0 : hA 75 rf I h0) : sm_c (d + 1) 1 60 MX3_init [.ref 74] h0 (qv (hA 76 (sm_up rf 74 0 (some 75)) (sm_up (sm_up I 74 1 (-1)) 74 2 0))) := by
  refine c_in (L := [.ref 74]) rfl rfl ?_
  refine r_s (pc' := 1) dX3_init_0 rfl rfl ?_
  refine r_obj (pc' := 4) dX3_init_1 rfl oX3_3 rfl ?_
  refine r_s (pc' := 5) dX3_init_4 rfl rfl ?_
  refine r_c (pc' := 7) dX3_init_5 rfl kc_bipush_60 ?_
  refine r_newa (N := 60) (pc' := 9) dX3_init_7 rfl (by decide) (by decide) (by decide) (Nat.le_of_ble_eq_true rfl) (Nat.le_of_ble_eq_true rfl) ?_
  rw [g0.1]
  have g1 := hA_nw g0 (kd := (0, 60)) rfl
  generalize sm_nw h0 1 (fun _ => (0, 60)) (fun _ _ => none) = h1 at g1 ⊢
  refine r_pfr (pc' := 12) dX3_init_9 rfl fX3_9 ff_3_0 rfl rfl (g1.lt (by decide)) (by rw [g1.k (by decide)]; rfl) ?_
  have g2 := hA_sr (q := 74) (j := 0) (v := some 75) g1 (by decide) (by decide)
  generalize sm_sr h1 74 0 (some 75) = h2 at g2 ⊢
  refine r_s (pc' := 13) dX3_init_12 rfl rfl ?_
  refine r_c (pc' := 14) dX3_init_13 rfl kc_iconst_m1 ?_
  refine r_pi (pc' := 17) dX3_init_14 rfl fX3_15 rfl (g2.lt (by decide)) (by rw [g2.k (by decide)]; rfl) ?_
  have g3 := hA_si (q := 74) (j := 1) (v := -1) g2 (by decide)
  generalize sm_si h2 74 1 (-1) = h3 at g3 ⊢
  refine r_s (pc' := 18) dX3_init_17 rfl rfl ?_
  refine r_c (pc' := 19) dX3_init_18 rfl kc_iconst_0 ?_
  refine r_pi (pc' := 22) dX3_init_19 rfl fX3_19 rfl (g3.lt (by decide)) (by rw [g3.k (by decide)]; rfl) ?_
  have g4 := hA_si (q := 74) (j := 2) (v := 0) g3 (by decide)
  generalize sm_si h3 74 2 0 = h4 at g4 ⊢
  exact r_retv dX3_init_22 rfl (Nat.le_of_ble_eq_true rfl) (Nat.le_of_ble_eq_true rfl) ⟨rfl, g4⟩

set_option maxHeartbeats 4000000 in
set_option maxRecDepth 100000 in
theorem ct_X3_init_76 {d : Nat} {rf : Nat → Nat → Option Nat} {I : Nat → Nat → Int32} {h0 : sm_H} (g0 : hA 77 rf I h0) : sm_c (d + 1) 1 60 MX3_init [.ref 76] h0 (qv (hA 78 (sm_up rf 76 0 (some 77)) (sm_up (sm_up I 76 1 (-1)) 76 2 0))) := by
  refine c_in (L := [.ref 76]) rfl rfl ?_
  refine r_s (pc' := 1) dX3_init_0 rfl rfl ?_
  refine r_obj (pc' := 4) dX3_init_1 rfl oX3_3 rfl ?_
  refine r_s (pc' := 5) dX3_init_4 rfl rfl ?_
  refine r_c (pc' := 7) dX3_init_5 rfl kc_bipush_60 ?_
  refine r_newa (N := 60) (pc' := 9) dX3_init_7 rfl (by decide) (by decide) (by decide) (Nat.le_of_ble_eq_true rfl) (Nat.le_of_ble_eq_true rfl) ?_
  rw [g0.1]
  have g1 := hA_nw g0 (kd := (0, 60)) rfl
  generalize sm_nw h0 1 (fun _ => (0, 60)) (fun _ _ => none) = h1 at g1 ⊢
  refine r_pfr (pc' := 12) dX3_init_9 rfl fX3_9 ff_3_0 rfl rfl (g1.lt (by decide)) (by rw [g1.k (by decide)]; rfl) ?_
  have g2 := hA_sr (q := 76) (j := 0) (v := some 77) g1 (by decide) (by decide)
  generalize sm_sr h1 76 0 (some 77) = h2 at g2 ⊢
  refine r_s (pc' := 13) dX3_init_12 rfl rfl ?_
  refine r_c (pc' := 14) dX3_init_13 rfl kc_iconst_m1 ?_
  refine r_pi (pc' := 17) dX3_init_14 rfl fX3_15 rfl (g2.lt (by decide)) (by rw [g2.k (by decide)]; rfl) ?_
  have g3 := hA_si (q := 76) (j := 1) (v := -1) g2 (by decide)
  generalize sm_si h2 76 1 (-1) = h3 at g3 ⊢
  refine r_s (pc' := 18) dX3_init_17 rfl rfl ?_
  refine r_c (pc' := 19) dX3_init_18 rfl kc_iconst_0 ?_
  refine r_pi (pc' := 22) dX3_init_19 rfl fX3_19 rfl (g3.lt (by decide)) (by rw [g3.k (by decide)]; rfl) ?_
  have g4 := hA_si (q := 76) (j := 2) (v := 0) g3 (by decide)
  generalize sm_si h3 76 2 0 = h4 at g4 ⊢
  exact r_retv dX3_init_22 rfl (Nat.le_of_ble_eq_true rfl) (Nat.le_of_ble_eq_true rfl) ⟨rfl, g4⟩

set_option maxHeartbeats 4000000 in
set_option maxRecDepth 100000 in
theorem ct_X3_init_78 {d : Nat} {rf : Nat → Nat → Option Nat} {I : Nat → Nat → Int32} {h0 : sm_H} (g0 : hA 79 rf I h0) : sm_c (d + 1) 1 60 MX3_init [.ref 78] h0 (qv (hA 80 (sm_up rf 78 0 (some 79)) (sm_up (sm_up I 78 1 (-1)) 78 2 0))) := by
  refine c_in (L := [.ref 78]) rfl rfl ?_
  refine r_s (pc' := 1) dX3_init_0 rfl rfl ?_
  refine r_obj (pc' := 4) dX3_init_1 rfl oX3_3 rfl ?_
  refine r_s (pc' := 5) dX3_init_4 rfl rfl ?_
  refine r_c (pc' := 7) dX3_init_5 rfl kc_bipush_60 ?_
  refine r_newa (N := 60) (pc' := 9) dX3_init_7 rfl (by decide) (by decide) (by decide) (Nat.le_of_ble_eq_true rfl) (Nat.le_of_ble_eq_true rfl) ?_
  rw [g0.1]
  have g1 := hA_nw g0 (kd := (0, 60)) rfl
  generalize sm_nw h0 1 (fun _ => (0, 60)) (fun _ _ => none) = h1 at g1 ⊢
  refine r_pfr (pc' := 12) dX3_init_9 rfl fX3_9 ff_3_0 rfl rfl (g1.lt (by decide)) (by rw [g1.k (by decide)]; rfl) ?_
  have g2 := hA_sr (q := 78) (j := 0) (v := some 79) g1 (by decide) (by decide)
  generalize sm_sr h1 78 0 (some 79) = h2 at g2 ⊢
  refine r_s (pc' := 13) dX3_init_12 rfl rfl ?_
  refine r_c (pc' := 14) dX3_init_13 rfl kc_iconst_m1 ?_
  refine r_pi (pc' := 17) dX3_init_14 rfl fX3_15 rfl (g2.lt (by decide)) (by rw [g2.k (by decide)]; rfl) ?_
  have g3 := hA_si (q := 78) (j := 1) (v := -1) g2 (by decide)
  generalize sm_si h2 78 1 (-1) = h3 at g3 ⊢
  refine r_s (pc' := 18) dX3_init_17 rfl rfl ?_
  refine r_c (pc' := 19) dX3_init_18 rfl kc_iconst_0 ?_
  refine r_pi (pc' := 22) dX3_init_19 rfl fX3_19 rfl (g3.lt (by decide)) (by rw [g3.k (by decide)]; rfl) ?_
  have g4 := hA_si (q := 78) (j := 2) (v := 0) g3 (by decide)
  generalize sm_si h3 78 2 0 = h4 at g4 ⊢
  exact r_retv dX3_init_22 rfl (Nat.le_of_ble_eq_true rfl) (Nat.le_of_ble_eq_true rfl) ⟨rfl, g4⟩

set_option maxHeartbeats 4000000 in
set_option maxRecDepth 100000 in
theorem ct_X5_init_42 {d : Nat} {rf : Nat → Nat → Option Nat} {I : Nat → Nat → Int32} {h0 : sm_H} (g0 : hA 43 rf I h0) : sm_c (d + 2) 29 203 MX5_init [.ref 42, .ref 2, .ref 38] h0 (qv (hA 72 (sm_up (sm_up (sm_up (sm_up (sm_up (sm_up (rfm (sm_up (rfm (sm_up (sm_up (sm_up (sm_up (sm_up (sm_up (sm_up rf 43 1 (some 44)) 43 2 (some 45)) 43 4 (some 46)) 43 5 (some 47)) 43 7 (some 48)) 43 8 (some 49)) 42 2 (some 43)) 51) 50 1 (some 51)) 61) 50 2 (some 61)) 50 3 (some 71)) 50 0 (some 43)) 42 3 (some 50)) 42 0 (some 2)) 42 1 (some 38)) (sm_up (sm_up (sm_up (sm_up (sm_up I 43 0 0) 43 3 0) 43 6 0) 43 9 0) 43 10 (-9)))) := by
  refine c_in (L := [.ref 42, .ref 2, .ref 38]) rfl rfl ?_
  refine r_s (pc' := 1) dX5_init_0 rfl rfl ?_
  refine r_obj (pc' := 4) dX5_init_1 rfl oX5_3 rfl ?_
  refine r_s (pc' := 5) dX5_init_4 rfl rfl ?_
  refine r_new (c0 := 2) (pc' := 8) dX5_init_5 rfl nX5_9 (Nat.le_of_ble_eq_true rfl) (Nat.le_of_ble_eq_true rfl) ?_
  rw [g0.1]
  have g1 := hA_nw g0 (kd := (2 + 3, 0)) rfl
  generalize sm_nw h0 1 (fun _ => (2 + 3, 0)) (fun _ _ => none) = h1 at g1 ⊢
  refine r_s (pc' := 9) dX5_init_8 rfl rfl ?_
  refine r_Nv0 (mc' := 6) (ms' := 44) (pc' := 12) dX5_init_9 rfl lX5_11 rfl (Nat.le_of_ble_eq_true rfl) (Nat.le_of_ble_eq_true rfl) (ct_X2_init_43 g1) (fun h2 g2 => ?_)
  refine r_pfr (pc' := 15) dX5_init_12 rfl fX5_12 ff_5_2 rfl rfl (g2.lt (by decide)) (by rw [g2.k (by decide)]; rfl) ?_
  have g3 := hA_sr (q := 42) (j := 2) (v := some 43) g2 (by decide) (by decide)
  generalize sm_sr h2 42 2 (some 43) = h3 at g3 ⊢
  refine r_s (pc' := 16) dX5_init_15 rfl rfl ?_
  refine r_new (c0 := 0) (pc' := 19) dX5_init_16 rfl nX5_18 (Nat.le_of_ble_eq_true rfl) (Nat.le_of_ble_eq_true rfl) ?_
  rw [g3.1]
  have g4 := hA_nw g3 (kd := (0 + 3, 0)) rfl
  generalize sm_nw h3 1 (fun _ => (0 + 3, 0)) (fun _ _ => none) = h4 at g4 ⊢
  refine r_s (pc' := 20) dX5_init_19 rfl rfl ?_
  refine r_s (pc' := 21) dX5_init_20 rfl rfl ?_
  refine r_gr (pc' := 24) dX5_init_21 rfl fX5_12 (g4.lt (by decide)) (by rw [g4.k (by decide)]; rfl) (g4.r (by decide) (by decide) : _ = some 43) ?_
  refine r_Iv1 (mc' := 21) (ms' := 144) (pc' := 27) dX5_init_24 rfl lX5_20 rfl (Nat.le_of_ble_eq_true rfl) (Nat.le_of_ble_eq_true rfl) (ct_X0_init_50 g4) (fun h5 g5 => ?_)
  refine r_pfr (pc' := 30) dX5_init_27 rfl fX5_23 ff_5_3 rfl rfl (g5.lt (by decide)) (by rw [g5.k (by decide)]; rfl) ?_
  have g6 := hA_sr (q := 42) (j := 3) (v := some 50) g5 (by decide) (by decide)
  generalize sm_sr h5 42 3 (some 50) = h6 at g6 ⊢
  refine r_s (pc' := 31) dX5_init_30 rfl rfl ?_
  refine r_s (pc' := 32) dX5_init_31 rfl rfl ?_
  refine r_pfr (pc' := 35) dX5_init_32 rfl fX5_27 ff_5_0 rfl rfl (g6.lt (by decide)) (by rw [g6.k (by decide)]; rfl) ?_
  have g7 := hA_sr (q := 42) (j := 0) (v := some 2) g6 (by decide) (by decide)
  generalize sm_sr h6 42 0 (some 2) = h7 at g7 ⊢
  refine r_s (pc' := 36) dX5_init_35 rfl rfl ?_
  refine r_s (pc' := 37) dX5_init_36 rfl rfl ?_
  refine r_pfr (pc' := 40) dX5_init_37 rfl fX5_30 ff_5_1 rfl rfl (g7.lt (by decide)) (by rw [g7.k (by decide)]; rfl) ?_
  have g8 := hA_sr (q := 42) (j := 1) (v := some 38) g7 (by decide) (by decide)
  generalize sm_sr h7 42 1 (some 38) = h8 at g8 ⊢
  exact r_retv dX5_init_40 rfl (Nat.le_of_ble_eq_true rfl) (Nat.le_of_ble_eq_true rfl) ⟨rfl, g8⟩

set_option maxHeartbeats 4000000 in
set_option maxRecDepth 100000 in
theorem ct_X6_init_0 {d : Nat} {rf : Nat → Nat → Option Nat} {I : Nat → Nat → Int32} {h0 : sm_H} (g0 : hA 1 rf I h0) : sm_c (d + 3) 79 749 MX6_init [.ref 0] h0 (qv (hA 80 (sm_up (sm_up (sm_up (sm_up (sm_up (sm_up (sm_up (sm_up (sm_up (sm_up (sm_up (sm_up (sm_up (sm_up (sm_up (rfm (sm_up (rfm (sm_up (sm_up (sm_up (sm_up (sm_up (sm_up (sm_up (sm_up (sm_up (sm_up (sm_up (sm_up (sm_up (sm_up (sm_up (rfm (sm_up (rfm (sm_up (sm_up (sm_up (sm_up (sm_up (sm_up (sm_up (sm_up (sm_up (sm_up (sm_up (sm_up (sm_up (sm_up (sm_up rf 0 0 (some 1)) 2 1 (some 3)) 2 2 (some 4)) 2 4 (some 5)) 2 5 (some 6)) 2 7 (some 7)) 2 8 (some 8)) 0 1 (some 2)) 9 1 (some 10)) 9 2 (some 11)) 9 4 (some 12)) 9 5 (some 13)) 9 7 (some 14)) 9 8 (some 15)) 0 2 (some 9)) 17) 16 1 (some 17)) 27) 16 2 (some 27)) 16 3 (some 37)) 16 0 (some 2)) 0 3 (some 16)) 38 1 (some 39)) 38 2 (some 40)) 38 3 (some 41)) 0 4 (some 38)) 43 1 (some 44)) 43 2 (some 45)) 43 4 (some 46)) 43 5 (some 47)) 43 7 (some 48)) 43 8 (some 49)) 42 2 (some 43)) 51) 50 1 (some 51)) 61) 50 2 (some 61)) 50 3 (some 71)) 50 0 (some 43)) 42 3 (some 50)) 42 0 (some 2)) 42 1 (some 38)) 0 5 (some 42)) 72 0 (some 73)) 1 (Int32.toNatClampNeg 0) (some 72)) 74 0 (some 75)) 1 (Int32.toNatClampNeg 1) (some 74)) 76 0 (some 77)) 1 (Int32.toNatClampNeg 2) (some 76)) 78 0 (some 79)) 1 (Int32.toNatClampNeg 3) (some 78)) (sm_up (sm_up (sm_up (sm_up (sm_up (sm_up (sm_up (sm_up (sm_up (sm_up (sm_up (sm_up (sm_up (sm_up (sm_up (sm_up (sm_up (sm_up (sm_up (sm_up (sm_up (sm_up (sm_up (sm_up (sm_up (sm_up I 2 0 0) 2 3 0) 2 6 0) 2 9 0) 2 10 (-9)) 9 0 0) 9 3 0) 9 6 0) 9 9 0) 9 10 (-9)) 38 0 0) 43 0 0) 43 3 0) 43 6 0) 43 9 0) 43 10 (-9)) 0 6 0) 0 7 0) 72 1 (-1)) 72 2 0) 74 1 (-1)) 74 2 0) 76 1 (-1)) 76 2 0) 78 1 (-1)) 78 2 0))) := by
  refine c_in (L := [.ref 0, .null]) rfl rfl ?_
  refine r_s (pc' := 1) dX6_init_0 rfl rfl ?_
  refine r_obj (pc' := 4) dX6_init_1 rfl oX6_3 rfl ?_
  refine r_s (pc' := 5) dX6_init_4 rfl rfl ?_
  refine r_c (pc' := 6) dX6_init_5 rfl kc_iconst_4 ?_
  refine r_newq (N := 4) (pc' := 9) dX6_init_6 rfl nX6_11 (by decide) (by decide) (by decide) (Nat.le_of_ble_eq_true rfl) (Nat.le_of_ble_eq_true rfl) ?_
  rw [g0.1]
  have g1 := hA_nw g0 (kd := (2, 4)) rfl
  generalize sm_nw h0 1 (fun _ => (2, 4)) (fun _ _ => none) = h1 at g1 ⊢
  refine r_pfr (pc' := 12) dX6_init_9 rfl fX6_13 ff_6_0 rfl rfl (g1.lt (by decide)) (by rw [g1.k (by decide)]; rfl) ?_
  have g2 := hA_sr (q := 0) (j := 0) (v := some 1) g1 (by decide) (by decide)
  generalize sm_sr h1 0 0 (some 1) = h2 at g2 ⊢
  refine r_s (pc' := 13) dX6_init_12 rfl rfl ?_
  refine r_new (c0 := 2) (pc' := 16) dX6_init_13 rfl nX6_17 (Nat.le_of_ble_eq_true rfl) (Nat.le_of_ble_eq_true rfl) ?_
  rw [g2.1]
  have g3 := hA_nw g2 (kd := (2 + 3, 0)) rfl
  generalize sm_nw h2 1 (fun _ => (2 + 3, 0)) (fun _ _ => none) = h3 at g3 ⊢
  refine r_s (pc' := 17) dX6_init_16 rfl rfl ?_
  refine r_Nv0 (mc' := 6) (ms' := 44) (pc' := 20) dX6_init_17 rfl lX6_19 rfl (Nat.le_of_ble_eq_true rfl) (Nat.le_of_ble_eq_true rfl) (ct_X2_init_2 g3) (fun h4 g4 => ?_)
  refine r_pfr (pc' := 23) dX6_init_20 rfl fX6_20 ff_6_1 rfl rfl (g4.lt (by decide)) (by rw [g4.k (by decide)]; rfl) ?_
  have g5 := hA_sr (q := 0) (j := 1) (v := some 2) g4 (by decide) (by decide)
  generalize sm_sr h4 0 1 (some 2) = h5 at g5 ⊢
  refine r_s (pc' := 24) dX6_init_23 rfl rfl ?_
  refine r_new (c0 := 2) (pc' := 27) dX6_init_24 rfl nX6_17 (Nat.le_of_ble_eq_true rfl) (Nat.le_of_ble_eq_true rfl) ?_
  rw [g5.1]
  have g6 := hA_nw g5 (kd := (2 + 3, 0)) rfl
  generalize sm_nw h5 1 (fun _ => (2 + 3, 0)) (fun _ _ => none) = h6 at g6 ⊢
  refine r_s (pc' := 28) dX6_init_27 rfl rfl ?_
  refine r_Nv0 (mc' := 6) (ms' := 44) (pc' := 31) dX6_init_28 rfl lX6_19 rfl (Nat.le_of_ble_eq_true rfl) (Nat.le_of_ble_eq_true rfl) (ct_X2_init_9 g6) (fun h7 g7 => ?_)
  refine r_pfr (pc' := 34) dX6_init_31 rfl fX6_24 ff_6_2 rfl rfl (g7.lt (by decide)) (by rw [g7.k (by decide)]; rfl) ?_
  have g8 := hA_sr (q := 0) (j := 2) (v := some 9) g7 (by decide) (by decide)
  generalize sm_sr h7 0 2 (some 9) = h8 at g8 ⊢
  refine r_s (pc' := 35) dX6_init_34 rfl rfl ?_
  refine r_new (c0 := 0) (pc' := 38) dX6_init_35 rfl nX6_27 (Nat.le_of_ble_eq_true rfl) (Nat.le_of_ble_eq_true rfl) ?_
  rw [g8.1]
  have g9 := hA_nw g8 (kd := (0 + 3, 0)) rfl
  generalize sm_nw h8 1 (fun _ => (0 + 3, 0)) (fun _ _ => none) = h9 at g9 ⊢
  refine r_s (pc' := 39) dX6_init_38 rfl rfl ?_
  refine r_s (pc' := 40) dX6_init_39 rfl rfl ?_
  refine r_gr (pc' := 43) dX6_init_40 rfl fX6_20 (g9.lt (by decide)) (by rw [g9.k (by decide)]; rfl) (g9.r (by decide) (by decide) : _ = some 2) ?_
  refine r_Iv1 (mc' := 21) (ms' := 144) (pc' := 46) dX6_init_43 rfl lX6_29 rfl (Nat.le_of_ble_eq_true rfl) (Nat.le_of_ble_eq_true rfl) (ct_X0_init_16 g9) (fun h10 g10 => ?_)
  refine r_pfr (pc' := 49) dX6_init_46 rfl fX6_32 ff_6_3 rfl rfl (g10.lt (by decide)) (by rw [g10.k (by decide)]; rfl) ?_
  have g11 := hA_sr (q := 0) (j := 3) (v := some 16) g10 (by decide) (by decide)
  generalize sm_sr h10 0 3 (some 16) = h11 at g11 ⊢
  refine r_s (pc' := 50) dX6_init_49 rfl rfl ?_
  refine r_new (c0 := 1) (pc' := 53) dX6_init_50 rfl nX6_36 (Nat.le_of_ble_eq_true rfl) (Nat.le_of_ble_eq_true rfl) ?_
  rw [g11.1]
  have g12 := hA_nw g11 (kd := (1 + 3, 0)) rfl
  generalize sm_nw h11 1 (fun _ => (1 + 3, 0)) (fun _ _ => none) = h12 at g12 ⊢
  refine r_s (pc' := 54) dX6_init_53 rfl rfl ?_
  refine r_Nv0 (mc' := 3) (ms' := 24) (pc' := 57) dX6_init_54 rfl lX6_38 rfl (Nat.le_of_ble_eq_true rfl) (Nat.le_of_ble_eq_true rfl) (ct_X1_init_38 g12) (fun h13 g13 => ?_)
  refine r_pfr (pc' := 60) dX6_init_57 rfl fX6_39 ff_6_4 rfl rfl (g13.lt (by decide)) (by rw [g13.k (by decide)]; rfl) ?_
  have g14 := hA_sr (q := 0) (j := 4) (v := some 38) g13 (by decide) (by decide)
  generalize sm_sr h13 0 4 (some 38) = h14 at g14 ⊢
  refine r_s (pc' := 61) dX6_init_60 rfl rfl ?_
  refine r_new (c0 := 5) (pc' := 64) dX6_init_61 rfl nX6_43 (Nat.le_of_ble_eq_true rfl) (Nat.le_of_ble_eq_true rfl) ?_
  rw [g14.1]
  have g15 := hA_nw g14 (kd := (5 + 3, 0)) rfl
  generalize sm_nw h14 1 (fun _ => (5 + 3, 0)) (fun _ _ => none) = h15 at g15 ⊢
  refine r_s (pc' := 65) dX6_init_64 rfl rfl ?_
  refine r_s (pc' := 66) dX6_init_65 rfl rfl ?_
  refine r_gr (pc' := 69) dX6_init_66 rfl fX6_20 (g15.lt (by decide)) (by rw [g15.k (by decide)]; rfl) (g15.r (by decide) (by decide) : _ = some 2) ?_
  refine r_s (pc' := 70) dX6_init_69 rfl rfl ?_
  refine r_gr (pc' := 73) dX6_init_70 rfl fX6_39 (g15.lt (by decide)) (by rw [g15.k (by decide)]; rfl) (g15.r (by decide) (by decide) : _ = some 38) ?_
  refine r_Iv2 (mc' := 29) (ms' := 203) (pc' := 76) dX6_init_73 rfl lX6_45 rfl (Nat.le_of_ble_eq_true rfl) (Nat.le_of_ble_eq_true rfl) (ct_X5_init_42 g15) (fun h16 g16 => ?_)
  refine r_pfr (pc' := 79) dX6_init_76 rfl fX6_48 ff_6_5 rfl rfl (g16.lt (by decide)) (by rw [g16.k (by decide)]; rfl) ?_
  have g17 := hA_sr (q := 0) (j := 5) (v := some 42) g16 (by decide) (by decide)
  generalize sm_sr h16 0 5 (some 42) = h17 at g17 ⊢
  refine r_s (pc' := 80) dX6_init_79 rfl rfl ?_
  refine r_c (pc' := 81) dX6_init_80 rfl kc_iconst_0 ?_
  refine r_pi (pc' := 84) dX6_init_81 rfl fX6_52 rfl (g17.lt (by decide)) (by rw [g17.k (by decide)]; rfl) ?_
  have g18 := hA_si (q := 0) (j := 6) (v := 0) g17 (by decide)
  generalize sm_si h17 0 6 0 = h18 at g18 ⊢
  refine r_s (pc' := 85) dX6_init_84 rfl rfl ?_
  refine r_c (pc' := 86) dX6_init_85 rfl kc_iconst_0 ?_
  refine r_pi (pc' := 89) dX6_init_86 rfl fX6_56 rfl (g18.lt (by decide)) (by rw [g18.k (by decide)]; rfl) ?_
  have g19 := hA_si (q := 0) (j := 7) (v := 0) g18 (by decide)
  generalize sm_si h18 0 7 0 = h19 at g19 ⊢
  refine r_c (pc' := 90) dX6_init_89 rfl kc_iconst_0 ?_
  refine r_st_1_2 (pc' := 91) dX6_init_90 rfl rfl rfl ?_
  refine r_s (pc' := 92) dX6_init_91 rfl rfl ?_
  refine r_c (pc' := 93) dX6_init_92 rfl kc_iconst_4 ?_
  refine r_cge_f (pc' := 96) (tgt := 115) dX6_init_93 rfl (by decide) (by decide) ?_
  refine r_s (pc' := 97) dX6_init_96 rfl rfl ?_
  refine r_gr (pc' := 100) dX6_init_97 rfl fX6_13 (g19.lt (by decide)) (by rw [g19.k (by decide)]; rfl) (g19.r (by decide) (by decide) : _ = some 1) ?_
  refine r_s (pc' := 101) dX6_init_100 rfl rfl ?_
  refine r_new (c0 := 3) (pc' := 104) dX6_init_101 rfl nX6_11c (Nat.le_of_ble_eq_true rfl) (Nat.le_of_ble_eq_true rfl) ?_
  rw [g19.1]
  have g20 := hA_nw g19 (kd := (3 + 3, 0)) rfl
  generalize sm_nw h19 1 (fun _ => (3 + 3, 0)) (fun _ _ => none) = h20 at g20 ⊢
  refine r_s (pc' := 105) dX6_init_104 rfl rfl ?_
  refine r_Nv0 (mc' := 1) (ms' := 60) (pc' := 108) dX6_init_105 rfl lX6_59 rfl (Nat.le_of_ble_eq_true rfl) (Nat.le_of_ble_eq_true rfl) (ct_X3_init_72 g20) (fun h21 g21 => ?_)
  refine r_sast (pc' := 109) dX6_init_108 rfl (g21.lt (by decide)) (g21.k (by decide)) (show vp_in (nI 0) 4 from vpl (by decide) (by decide)) (g21.lt (by decide)) (by rw [g21.k (by decide)]; rfl) ?_
  have g22 := hA_sr (q := 1) (j := Int32.toNatClampNeg 0) (v := some 72) g21 (by decide) (by decide)
  generalize sm_sr h21 1 (Int32.toNatClampNeg 0) (some 72) = h22 at g22 ⊢
  refine r_in_1_2 (pc' := 112) dX6_init_109 rfl rfl (show (0 : Int32) + Int32.ofInt 1 = 1 by decide) ?_
  refine r_goto (tgt := 91) dX6_init_112 (by decide) ?_
  refine r_s (pc' := 92) dX6_init_91 rfl rfl ?_
  refine r_c (pc' := 93) dX6_init_92 rfl kc_iconst_4 ?_
  refine r_cge_f (pc' := 96) (tgt := 115) dX6_init_93 rfl (by decide) (by decide) ?_
  refine r_s (pc' := 97) dX6_init_96 rfl rfl ?_
  refine r_gr (pc' := 100) dX6_init_97 rfl fX6_13 (g22.lt (by decide)) (by rw [g22.k (by decide)]; rfl) (g22.r (by decide) (by decide) : _ = some 1) ?_
  refine r_s (pc' := 101) dX6_init_100 rfl rfl ?_
  refine r_new (c0 := 3) (pc' := 104) dX6_init_101 rfl nX6_11c (Nat.le_of_ble_eq_true rfl) (Nat.le_of_ble_eq_true rfl) ?_
  rw [g22.1]
  have g23 := hA_nw g22 (kd := (3 + 3, 0)) rfl
  generalize sm_nw h22 1 (fun _ => (3 + 3, 0)) (fun _ _ => none) = h23 at g23 ⊢
  refine r_s (pc' := 105) dX6_init_104 rfl rfl ?_
  refine r_Nv0 (mc' := 1) (ms' := 60) (pc' := 108) dX6_init_105 rfl lX6_59 rfl (Nat.le_of_ble_eq_true rfl) (Nat.le_of_ble_eq_true rfl) (ct_X3_init_74 g23) (fun h24 g24 => ?_)
  refine r_sast (pc' := 109) dX6_init_108 rfl (g24.lt (by decide)) (g24.k (by decide)) (show vp_in (nI 1) 4 from vpl (by decide) (by decide)) (g24.lt (by decide)) (by rw [g24.k (by decide)]; rfl) ?_
  have g25 := hA_sr (q := 1) (j := Int32.toNatClampNeg 1) (v := some 74) g24 (by decide) (by decide)
  generalize sm_sr h24 1 (Int32.toNatClampNeg 1) (some 74) = h25 at g25 ⊢
  refine r_in_1_2 (pc' := 112) dX6_init_109 rfl rfl (show (1 : Int32) + Int32.ofInt 1 = 2 by decide) ?_
  refine r_goto (tgt := 91) dX6_init_112 (by decide) ?_
  refine r_s (pc' := 92) dX6_init_91 rfl rfl ?_
  refine r_c (pc' := 93) dX6_init_92 rfl kc_iconst_4 ?_
  refine r_cge_f (pc' := 96) (tgt := 115) dX6_init_93 rfl (by decide) (by decide) ?_
  refine r_s (pc' := 97) dX6_init_96 rfl rfl ?_
  refine r_gr (pc' := 100) dX6_init_97 rfl fX6_13 (g25.lt (by decide)) (by rw [g25.k (by decide)]; rfl) (g25.r (by decide) (by decide) : _ = some 1) ?_
  refine r_s (pc' := 101) dX6_init_100 rfl rfl ?_
  refine r_new (c0 := 3) (pc' := 104) dX6_init_101 rfl nX6_11c (Nat.le_of_ble_eq_true rfl) (Nat.le_of_ble_eq_true rfl) ?_
  rw [g25.1]
  have g26 := hA_nw g25 (kd := (3 + 3, 0)) rfl
  generalize sm_nw h25 1 (fun _ => (3 + 3, 0)) (fun _ _ => none) = h26 at g26 ⊢
  refine r_s (pc' := 105) dX6_init_104 rfl rfl ?_
  refine r_Nv0 (mc' := 1) (ms' := 60) (pc' := 108) dX6_init_105 rfl lX6_59 rfl (Nat.le_of_ble_eq_true rfl) (Nat.le_of_ble_eq_true rfl) (ct_X3_init_76 g26) (fun h27 g27 => ?_)
  refine r_sast (pc' := 109) dX6_init_108 rfl (g27.lt (by decide)) (g27.k (by decide)) (show vp_in (nI 2) 4 from vpl (by decide) (by decide)) (g27.lt (by decide)) (by rw [g27.k (by decide)]; rfl) ?_
  have g28 := hA_sr (q := 1) (j := Int32.toNatClampNeg 2) (v := some 76) g27 (by decide) (by decide)
  generalize sm_sr h27 1 (Int32.toNatClampNeg 2) (some 76) = h28 at g28 ⊢
  refine r_in_1_2 (pc' := 112) dX6_init_109 rfl rfl (show (2 : Int32) + Int32.ofInt 1 = 3 by decide) ?_
  refine r_goto (tgt := 91) dX6_init_112 (by decide) ?_
  refine r_s (pc' := 92) dX6_init_91 rfl rfl ?_
  refine r_c (pc' := 93) dX6_init_92 rfl kc_iconst_4 ?_
  refine r_cge_f (pc' := 96) (tgt := 115) dX6_init_93 rfl (by decide) (by decide) ?_
  refine r_s (pc' := 97) dX6_init_96 rfl rfl ?_
  refine r_gr (pc' := 100) dX6_init_97 rfl fX6_13 (g28.lt (by decide)) (by rw [g28.k (by decide)]; rfl) (g28.r (by decide) (by decide) : _ = some 1) ?_
  refine r_s (pc' := 101) dX6_init_100 rfl rfl ?_
  refine r_new (c0 := 3) (pc' := 104) dX6_init_101 rfl nX6_11c (Nat.le_of_ble_eq_true rfl) (Nat.le_of_ble_eq_true rfl) ?_
  rw [g28.1]
  have g29 := hA_nw g28 (kd := (3 + 3, 0)) rfl
  generalize sm_nw h28 1 (fun _ => (3 + 3, 0)) (fun _ _ => none) = h29 at g29 ⊢
  refine r_s (pc' := 105) dX6_init_104 rfl rfl ?_
  refine r_Nv0 (mc' := 1) (ms' := 60) (pc' := 108) dX6_init_105 rfl lX6_59 rfl (Nat.le_of_ble_eq_true rfl) (Nat.le_of_ble_eq_true rfl) (ct_X3_init_78 g29) (fun h30 g30 => ?_)
  refine r_sast (pc' := 109) dX6_init_108 rfl (g30.lt (by decide)) (g30.k (by decide)) (show vp_in (nI 3) 4 from vpl (by decide) (by decide)) (g30.lt (by decide)) (by rw [g30.k (by decide)]; rfl) ?_
  have g31 := hA_sr (q := 1) (j := Int32.toNatClampNeg 3) (v := some 78) g30 (by decide) (by decide)
  generalize sm_sr h30 1 (Int32.toNatClampNeg 3) (some 78) = h31 at g31 ⊢
  refine r_in_1_2 (pc' := 112) dX6_init_109 rfl rfl (show (3 : Int32) + Int32.ofInt 1 = 4 by decide) ?_
  refine r_goto (tgt := 91) dX6_init_112 (by decide) ?_
  refine r_s (pc' := 92) dX6_init_91 rfl rfl ?_
  refine r_c (pc' := 93) dX6_init_92 rfl kc_iconst_4 ?_
  refine r_cge_t (tgt := 115) dX6_init_93 (by decide) (by decide) ?_
  exact r_retv dX6_init_115 rfl (Nat.le_of_ble_eq_true rfl) (Nat.le_of_ble_eq_true rfl) ⟨rfl, g31⟩

set_option maxHeartbeats 4000000 in
set_option maxRecDepth 100000 in
theorem ct_X7_init_80 {d : Nat} {rf : Nat → Nat → Option Nat} {I : Nat → Nat → Int32} {h0 : sm_H} (g0 : hA 81 rf I h0) : sm_c (d + 1) 21 434 MX7_init [.ref 80] h0 (qv (hA 102 (sm_up (sm_up (sm_up (sm_up (sm_up (sm_up (sm_up (sm_up (sm_up (sm_up (sm_up (sm_up (sm_up (sm_up (sm_up (sm_up (sm_up (sm_up (sm_up (sm_up (sm_up rf 80 2 (some 81)) 80 3 (some 82)) 80 5 (some 83)) 80 6 (some 84)) 80 8 (some 85)) 80 9 (some 86)) 80 16 (some 87)) 80 17 (some 88)) 80 18 (some 89)) 80 19 (some 90)) 80 20 (some 91)) 80 21 (some 92)) 80 22 (some 93)) 80 23 (some 94)) 80 26 (some 95)) 80 27 (some 96)) 80 28 (some 97)) 80 29 (some 98)) 80 30 (some 99)) 80 31 (some 100)) 80 32 (some 101)) (sm_up (sm_up (sm_up (sm_up (sm_up I 98 0 (-1)) 98 1 (-1)) 98 2 (-1)) 98 3 (-1)) 80 11 (-9)))) := by
  refine c_in (L := [.ref 80, .null]) rfl rfl ?_
  refine r_s (pc' := 1) dX7_init_0 rfl rfl ?_
  refine r_obj (pc' := 4) dX7_init_1 rfl oX7_1 rfl ?_
  refine r_s (pc' := 5) dX7_init_4 rfl rfl ?_
  refine r_c (pc' := 7) dX7_init_5 rfl kc_bipush_6 ?_
  refine r_newa (N := 6) (pc' := 9) dX7_init_7 rfl (by decide) (by decide) (by decide) (Nat.le_of_ble_eq_true rfl) (Nat.le_of_ble_eq_true rfl) ?_
  rw [g0.1]
  have g1 := hA_nw g0 (kd := (0, 6)) rfl
  generalize sm_nw h0 1 (fun _ => (0, 6)) (fun _ _ => none) = h1 at g1 ⊢
  refine r_pfr (pc' := 12) dX7_init_9 rfl fX7_7 ff_7_2 rfl rfl (g1.lt (by decide)) (by rw [g1.k (by decide)]; rfl) ?_
  have g2 := hA_sr (q := 80) (j := 2) (v := some 81) g1 (by decide) (by decide)
  generalize sm_sr h1 80 2 (some 81) = h2 at g2 ⊢
  refine r_s (pc' := 13) dX7_init_12 rfl rfl ?_
  refine r_c (pc' := 15) dX7_init_13 rfl kc_bipush_6 ?_
  refine r_newa (N := 6) (pc' := 17) dX7_init_15 rfl (by decide) (by decide) (by decide) (Nat.le_of_ble_eq_true rfl) (Nat.le_of_ble_eq_true rfl) ?_
  rw [g2.1]
  have g3 := hA_nw g2 (kd := (0, 6)) rfl
  generalize sm_nw h2 1 (fun _ => (0, 6)) (fun _ _ => none) = h3 at g3 ⊢
  refine r_pfr (pc' := 20) dX7_init_17 rfl fX7_13 ff_7_3 rfl rfl (g3.lt (by decide)) (by rw [g3.k (by decide)]; rfl) ?_
  have g4 := hA_sr (q := 80) (j := 3) (v := some 82) g3 (by decide) (by decide)
  generalize sm_sr h3 80 3 (some 82) = h4 at g4 ⊢
  refine r_s (pc' := 21) dX7_init_20 rfl rfl ?_
  refine r_c (pc' := 23) dX7_init_21 rfl kc_bipush_8 ?_
  refine r_newa (N := 8) (pc' := 25) dX7_init_23 rfl (by decide) (by decide) (by decide) (Nat.le_of_ble_eq_true rfl) (Nat.le_of_ble_eq_true rfl) ?_
  rw [g4.1]
  have g5 := hA_nw g4 (kd := (0, 8)) rfl
  generalize sm_nw h4 1 (fun _ => (0, 8)) (fun _ _ => none) = h5 at g5 ⊢
  refine r_pfr (pc' := 28) dX7_init_25 rfl fX7_16 ff_7_5 rfl rfl (g5.lt (by decide)) (by rw [g5.k (by decide)]; rfl) ?_
  have g6 := hA_sr (q := 80) (j := 5) (v := some 83) g5 (by decide) (by decide)
  generalize sm_sr h5 80 5 (some 83) = h6 at g6 ⊢
  refine r_s (pc' := 29) dX7_init_28 rfl rfl ?_
  refine r_c (pc' := 31) dX7_init_29 rfl kc_bipush_8 ?_
  refine r_newa (N := 8) (pc' := 33) dX7_init_31 rfl (by decide) (by decide) (by decide) (Nat.le_of_ble_eq_true rfl) (Nat.le_of_ble_eq_true rfl) ?_
  rw [g6.1]
  have g7 := hA_nw g6 (kd := (0, 8)) rfl
  generalize sm_nw h6 1 (fun _ => (0, 8)) (fun _ _ => none) = h7 at g7 ⊢
  refine r_pfr (pc' := 36) dX7_init_33 rfl fX7_19 ff_7_6 rfl rfl (g7.lt (by decide)) (by rw [g7.k (by decide)]; rfl) ?_
  have g8 := hA_sr (q := 80) (j := 6) (v := some 84) g7 (by decide) (by decide)
  generalize sm_sr h7 80 6 (some 84) = h8 at g8 ⊢
  refine r_s (pc' := 37) dX7_init_36 rfl rfl ?_
  refine r_c (pc' := 39) dX7_init_37 rfl kc_bipush_8 ?_
  refine r_newa (N := 8) (pc' := 41) dX7_init_39 rfl (by decide) (by decide) (by decide) (Nat.le_of_ble_eq_true rfl) (Nat.le_of_ble_eq_true rfl) ?_
  rw [g8.1]
  have g9 := hA_nw g8 (kd := (0, 8)) rfl
  generalize sm_nw h8 1 (fun _ => (0, 8)) (fun _ _ => none) = h9 at g9 ⊢
  refine r_pfr (pc' := 44) dX7_init_41 rfl fX7_22 ff_7_8 rfl rfl (g9.lt (by decide)) (by rw [g9.k (by decide)]; rfl) ?_
  have g10 := hA_sr (q := 80) (j := 8) (v := some 85) g9 (by decide) (by decide)
  generalize sm_sr h9 80 8 (some 85) = h10 at g10 ⊢
  refine r_s (pc' := 45) dX7_init_44 rfl rfl ?_
  refine r_c (pc' := 47) dX7_init_45 rfl kc_bipush_8 ?_
  refine r_newa (N := 8) (pc' := 49) dX7_init_47 rfl (by decide) (by decide) (by decide) (Nat.le_of_ble_eq_true rfl) (Nat.le_of_ble_eq_true rfl) ?_
  rw [g10.1]
  have g11 := hA_nw g10 (kd := (0, 8)) rfl
  generalize sm_nw h10 1 (fun _ => (0, 8)) (fun _ _ => none) = h11 at g11 ⊢
  refine r_pfr (pc' := 52) dX7_init_49 rfl fX7_25 ff_7_9 rfl rfl (g11.lt (by decide)) (by rw [g11.k (by decide)]; rfl) ?_
  have g12 := hA_sr (q := 80) (j := 9) (v := some 86) g11 (by decide) (by decide)
  generalize sm_sr h11 80 9 (some 86) = h12 at g12 ⊢
  refine r_s (pc' := 53) dX7_init_52 rfl rfl ?_
  refine r_c (pc' := 55) dX7_init_53 rfl kc_bipush_6 ?_
  refine r_newa (N := 6) (pc' := 57) dX7_init_55 rfl (by decide) (by decide) (by decide) (Nat.le_of_ble_eq_true rfl) (Nat.le_of_ble_eq_true rfl) ?_
  rw [g12.1]
  have g13 := hA_nw g12 (kd := (0, 6)) rfl
  generalize sm_nw h12 1 (fun _ => (0, 6)) (fun _ _ => none) = h13 at g13 ⊢
  refine r_pfr (pc' := 60) dX7_init_57 rfl fX7_28 ff_7_16 rfl rfl (g13.lt (by decide)) (by rw [g13.k (by decide)]; rfl) ?_
  have g14 := hA_sr (q := 80) (j := 16) (v := some 87) g13 (by decide) (by decide)
  generalize sm_sr h13 80 16 (some 87) = h14 at g14 ⊢
  refine r_s (pc' := 61) dX7_init_60 rfl rfl ?_
  refine r_c (pc' := 63) dX7_init_61 rfl kc_bipush_6 ?_
  refine r_newa (N := 6) (pc' := 65) dX7_init_63 rfl (by decide) (by decide) (by decide) (Nat.le_of_ble_eq_true rfl) (Nat.le_of_ble_eq_true rfl) ?_
  rw [g14.1]
  have g15 := hA_nw g14 (kd := (0, 6)) rfl
  generalize sm_nw h14 1 (fun _ => (0, 6)) (fun _ _ => none) = h15 at g15 ⊢
  refine r_pfr (pc' := 68) dX7_init_65 rfl fX7_31 ff_7_17 rfl rfl (g15.lt (by decide)) (by rw [g15.k (by decide)]; rfl) ?_
  have g16 := hA_sr (q := 80) (j := 17) (v := some 88) g15 (by decide) (by decide)
  generalize sm_sr h15 80 17 (some 88) = h16 at g16 ⊢
  refine r_s (pc' := 69) dX7_init_68 rfl rfl ?_
  refine r_c (pc' := 71) dX7_init_69 rfl kc_bipush_8 ?_
  refine r_newa (N := 8) (pc' := 73) dX7_init_71 rfl (by decide) (by decide) (by decide) (Nat.le_of_ble_eq_true rfl) (Nat.le_of_ble_eq_true rfl) ?_
  rw [g16.1]
  have g17 := hA_nw g16 (kd := (0, 8)) rfl
  generalize sm_nw h16 1 (fun _ => (0, 8)) (fun _ _ => none) = h17 at g17 ⊢
  refine r_pfr (pc' := 76) dX7_init_73 rfl fX7_34 ff_7_18 rfl rfl (g17.lt (by decide)) (by rw [g17.k (by decide)]; rfl) ?_
  have g18 := hA_sr (q := 80) (j := 18) (v := some 89) g17 (by decide) (by decide)
  generalize sm_sr h17 80 18 (some 89) = h18 at g18 ⊢
  refine r_s (pc' := 77) dX7_init_76 rfl rfl ?_
  refine r_c (pc' := 79) dX7_init_77 rfl kc_bipush_8 ?_
  refine r_newa (N := 8) (pc' := 81) dX7_init_79 rfl (by decide) (by decide) (by decide) (Nat.le_of_ble_eq_true rfl) (Nat.le_of_ble_eq_true rfl) ?_
  rw [g18.1]
  have g19 := hA_nw g18 (kd := (0, 8)) rfl
  generalize sm_nw h18 1 (fun _ => (0, 8)) (fun _ _ => none) = h19 at g19 ⊢
  refine r_pfr (pc' := 84) dX7_init_81 rfl fX7_37 ff_7_19 rfl rfl (g19.lt (by decide)) (by rw [g19.k (by decide)]; rfl) ?_
  have g20 := hA_sr (q := 80) (j := 19) (v := some 90) g19 (by decide) (by decide)
  generalize sm_sr h19 80 19 (some 90) = h20 at g20 ⊢
  refine r_s (pc' := 85) dX7_init_84 rfl rfl ?_
  refine r_c (pc' := 87) dX7_init_85 rfl kc_bipush_8 ?_
  refine r_newa (N := 8) (pc' := 89) dX7_init_87 rfl (by decide) (by decide) (by decide) (Nat.le_of_ble_eq_true rfl) (Nat.le_of_ble_eq_true rfl) ?_
  rw [g20.1]
  have g21 := hA_nw g20 (kd := (0, 8)) rfl
  generalize sm_nw h20 1 (fun _ => (0, 8)) (fun _ _ => none) = h21 at g21 ⊢
  refine r_pfr (pc' := 92) dX7_init_89 rfl fX7_40 ff_7_20 rfl rfl (g21.lt (by decide)) (by rw [g21.k (by decide)]; rfl) ?_
  have g22 := hA_sr (q := 80) (j := 20) (v := some 91) g21 (by decide) (by decide)
  generalize sm_sr h21 80 20 (some 91) = h22 at g22 ⊢
  refine r_s (pc' := 93) dX7_init_92 rfl rfl ?_
  refine r_c (pc' := 95) dX7_init_93 rfl kc_bipush_8 ?_
  refine r_newa (N := 8) (pc' := 97) dX7_init_95 rfl (by decide) (by decide) (by decide) (Nat.le_of_ble_eq_true rfl) (Nat.le_of_ble_eq_true rfl) ?_
  rw [g22.1]
  have g23 := hA_nw g22 (kd := (0, 8)) rfl
  generalize sm_nw h22 1 (fun _ => (0, 8)) (fun _ _ => none) = h23 at g23 ⊢
  refine r_pfr (pc' := 100) dX7_init_97 rfl fX7_43 ff_7_21 rfl rfl (g23.lt (by decide)) (by rw [g23.k (by decide)]; rfl) ?_
  have g24 := hA_sr (q := 80) (j := 21) (v := some 92) g23 (by decide) (by decide)
  generalize sm_sr h23 80 21 (some 92) = h24 at g24 ⊢
  refine r_s (pc' := 101) dX7_init_100 rfl rfl ?_
  refine r_c (pc' := 103) dX7_init_101 rfl kc_bipush_8 ?_
  refine r_newa (N := 8) (pc' := 105) dX7_init_103 rfl (by decide) (by decide) (by decide) (Nat.le_of_ble_eq_true rfl) (Nat.le_of_ble_eq_true rfl) ?_
  rw [g24.1]
  have g25 := hA_nw g24 (kd := (0, 8)) rfl
  generalize sm_nw h24 1 (fun _ => (0, 8)) (fun _ _ => none) = h25 at g25 ⊢
  refine r_pfr (pc' := 108) dX7_init_105 rfl fX7_46 ff_7_22 rfl rfl (g25.lt (by decide)) (by rw [g25.k (by decide)]; rfl) ?_
  have g26 := hA_sr (q := 80) (j := 22) (v := some 93) g25 (by decide) (by decide)
  generalize sm_sr h25 80 22 (some 93) = h26 at g26 ⊢
  refine r_s (pc' := 109) dX7_init_108 rfl rfl ?_
  refine r_c (pc' := 111) dX7_init_109 rfl kc_bipush_6 ?_
  refine r_newa (N := 6) (pc' := 113) dX7_init_111 rfl (by decide) (by decide) (by decide) (Nat.le_of_ble_eq_true rfl) (Nat.le_of_ble_eq_true rfl) ?_
  rw [g26.1]
  have g27 := hA_nw g26 (kd := (0, 6)) rfl
  generalize sm_nw h26 1 (fun _ => (0, 6)) (fun _ _ => none) = h27 at g27 ⊢
  refine r_pfr (pc' := 116) dX7_init_113 rfl fX7_49 ff_7_23 rfl rfl (g27.lt (by decide)) (by rw [g27.k (by decide)]; rfl) ?_
  have g28 := hA_sr (q := 80) (j := 23) (v := some 94) g27 (by decide) (by decide)
  generalize sm_sr h27 80 23 (some 94) = h28 at g28 ⊢
  refine r_s (pc' := 117) dX7_init_116 rfl rfl ?_
  refine r_c (pc' := 119) dX7_init_117 rfl kc_bipush_8 ?_
  refine r_newa (N := 8) (pc' := 121) dX7_init_119 rfl (by decide) (by decide) (by decide) (Nat.le_of_ble_eq_true rfl) (Nat.le_of_ble_eq_true rfl) ?_
  rw [g28.1]
  have g29 := hA_nw g28 (kd := (0, 8)) rfl
  generalize sm_nw h28 1 (fun _ => (0, 8)) (fun _ _ => none) = h29 at g29 ⊢
  refine r_pfr (pc' := 124) dX7_init_121 rfl fX7_52 ff_7_26 rfl rfl (g29.lt (by decide)) (by rw [g29.k (by decide)]; rfl) ?_
  have g30 := hA_sr (q := 80) (j := 26) (v := some 95) g29 (by decide) (by decide)
  generalize sm_sr h29 80 26 (some 95) = h30 at g30 ⊢
  refine r_s (pc' := 125) dX7_init_124 rfl rfl ?_
  refine r_c (pc' := 127) dX7_init_125 rfl kc_bipush_8 ?_
  refine r_newa (N := 8) (pc' := 129) dX7_init_127 rfl (by decide) (by decide) (by decide) (Nat.le_of_ble_eq_true rfl) (Nat.le_of_ble_eq_true rfl) ?_
  rw [g30.1]
  have g31 := hA_nw g30 (kd := (0, 8)) rfl
  generalize sm_nw h30 1 (fun _ => (0, 8)) (fun _ _ => none) = h31 at g31 ⊢
  refine r_pfr (pc' := 132) dX7_init_129 rfl fX7_55 ff_7_27 rfl rfl (g31.lt (by decide)) (by rw [g31.k (by decide)]; rfl) ?_
  have g32 := hA_sr (q := 80) (j := 27) (v := some 96) g31 (by decide) (by decide)
  generalize sm_sr h31 80 27 (some 96) = h32 at g32 ⊢
  refine r_s (pc' := 133) dX7_init_132 rfl rfl ?_
  refine r_c (pc' := 135) dX7_init_133 rfl kc_bipush_8 ?_
  refine r_newa (N := 8) (pc' := 137) dX7_init_135 rfl (by decide) (by decide) (by decide) (Nat.le_of_ble_eq_true rfl) (Nat.le_of_ble_eq_true rfl) ?_
  rw [g32.1]
  have g33 := hA_nw g32 (kd := (0, 8)) rfl
  generalize sm_nw h32 1 (fun _ => (0, 8)) (fun _ _ => none) = h33 at g33 ⊢
  refine r_pfr (pc' := 140) dX7_init_137 rfl fX7_58 ff_7_28 rfl rfl (g33.lt (by decide)) (by rw [g33.k (by decide)]; rfl) ?_
  have g34 := hA_sr (q := 80) (j := 28) (v := some 97) g33 (by decide) (by decide)
  generalize sm_sr h33 80 28 (some 97) = h34 at g34 ⊢
  refine r_s (pc' := 141) dX7_init_140 rfl rfl ?_
  refine r_c (pc' := 142) dX7_init_141 rfl kc_iconst_4 ?_
  refine r_newa (N := 4) (pc' := 144) dX7_init_142 rfl (by decide) (by decide) (by decide) (Nat.le_of_ble_eq_true rfl) (Nat.le_of_ble_eq_true rfl) ?_
  rw [g34.1]
  have g35 := hA_nw g34 (kd := (0, 4)) rfl
  generalize sm_nw h34 1 (fun _ => (0, 4)) (fun _ _ => none) = h35 at g35 ⊢
  refine r_pfr (pc' := 147) dX7_init_144 rfl fX7_61 ff_7_29 rfl rfl (g35.lt (by decide)) (by rw [g35.k (by decide)]; rfl) ?_
  have g36 := hA_sr (q := 80) (j := 29) (v := some 98) g35 (by decide) (by decide)
  generalize sm_sr h35 80 29 (some 98) = h36 at g36 ⊢
  refine r_s (pc' := 148) dX7_init_147 rfl rfl ?_
  refine r_c (pc' := 149) dX7_init_148 rfl kc_iconst_4 ?_
  refine r_newa (N := 4) (pc' := 151) dX7_init_149 rfl (by decide) (by decide) (by decide) (Nat.le_of_ble_eq_true rfl) (Nat.le_of_ble_eq_true rfl) ?_
  rw [g36.1]
  have g37 := hA_nw g36 (kd := (0, 4)) rfl
  generalize sm_nw h36 1 (fun _ => (0, 4)) (fun _ _ => none) = h37 at g37 ⊢
  refine r_pfr (pc' := 154) dX7_init_151 rfl fX7_64 ff_7_30 rfl rfl (g37.lt (by decide)) (by rw [g37.k (by decide)]; rfl) ?_
  have g38 := hA_sr (q := 80) (j := 30) (v := some 99) g37 (by decide) (by decide)
  generalize sm_sr h37 80 30 (some 99) = h38 at g38 ⊢
  refine r_s (pc' := 155) dX7_init_154 rfl rfl ?_
  refine r_c (pc' := 158) dX7_init_155 rfl kc_sipush_240 ?_
  refine r_newa (N := 240) (pc' := 160) dX7_init_158 rfl (by decide) (by decide) (by decide) (Nat.le_of_ble_eq_true rfl) (Nat.le_of_ble_eq_true rfl) ?_
  rw [g38.1]
  have g39 := hA_nw g38 (kd := (0, 240)) rfl
  generalize sm_nw h38 1 (fun _ => (0, 240)) (fun _ _ => none) = h39 at g39 ⊢
  refine r_pfr (pc' := 163) dX7_init_160 rfl fX7_67 ff_7_31 rfl rfl (g39.lt (by decide)) (by rw [g39.k (by decide)]; rfl) ?_
  have g40 := hA_sr (q := 80) (j := 31) (v := some 100) g39 (by decide) (by decide)
  generalize sm_sr h39 80 31 (some 100) = h40 at g40 ⊢
  refine r_s (pc' := 164) dX7_init_163 rfl rfl ?_
  refine r_c (pc' := 166) dX7_init_164 rfl kc_bipush_60 ?_
  refine r_newa (N := 60) (pc' := 168) dX7_init_166 rfl (by decide) (by decide) (by decide) (Nat.le_of_ble_eq_true rfl) (Nat.le_of_ble_eq_true rfl) ?_
  rw [g40.1]
  have g41 := hA_nw g40 (kd := (0, 60)) rfl
  generalize sm_nw h40 1 (fun _ => (0, 60)) (fun _ _ => none) = h41 at g41 ⊢
  refine r_pfr (pc' := 171) dX7_init_168 rfl fX7_70 ff_7_32 rfl rfl (g41.lt (by decide)) (by rw [g41.k (by decide)]; rfl) ?_
  have g42 := hA_sr (q := 80) (j := 32) (v := some 101) g41 (by decide) (by decide)
  generalize sm_sr h41 80 32 (some 101) = h42 at g42 ⊢
  refine r_c (pc' := 172) dX7_init_171 rfl kc_iconst_0 ?_
  refine r_st_1_2 (pc' := 173) dX7_init_172 rfl rfl rfl ?_
  refine r_s (pc' := 174) dX7_init_173 rfl rfl ?_
  refine r_c (pc' := 175) dX7_init_174 rfl kc_iconst_4 ?_
  refine r_cge_f (pc' := 178) (tgt := 191) dX7_init_175 rfl (by decide) (by decide) ?_
  refine r_s (pc' := 179) dX7_init_178 rfl rfl ?_
  refine r_gr (pc' := 182) dX7_init_179 rfl fX7_61 (g42.lt (by decide)) (by rw [g42.k (by decide)]; rfl) (g42.r (by decide) (by decide) : _ = some 98) ?_
  refine r_s (pc' := 183) dX7_init_182 rfl rfl ?_
  refine r_c (pc' := 184) dX7_init_183 rfl kc_iconst_m1 ?_
  refine r_ast (j := 0) (pc' := 185) dX7_init_184 rfl (g42.lt (by decide)) (g42.k (by decide)) (show vp_in (nI 0) 4 from vpl (by decide) (by decide)) (by decide) ?_
  have g43 := hA_si (q := 98) (j := 0) (v := -1) g42 (by decide)
  generalize sm_si h42 98 0 (-1) = h43 at g43 ⊢
  refine r_in_1_2 (pc' := 188) dX7_init_185 rfl rfl (show (0 : Int32) + Int32.ofInt 1 = 1 by decide) ?_
  refine r_goto (tgt := 173) dX7_init_188 (by decide) ?_
  refine r_s (pc' := 174) dX7_init_173 rfl rfl ?_
  refine r_c (pc' := 175) dX7_init_174 rfl kc_iconst_4 ?_
  refine r_cge_f (pc' := 178) (tgt := 191) dX7_init_175 rfl (by decide) (by decide) ?_
  refine r_s (pc' := 179) dX7_init_178 rfl rfl ?_
  refine r_gr (pc' := 182) dX7_init_179 rfl fX7_61 (g43.lt (by decide)) (by rw [g43.k (by decide)]; rfl) (g43.r (by decide) (by decide) : _ = some 98) ?_
  refine r_s (pc' := 183) dX7_init_182 rfl rfl ?_
  refine r_c (pc' := 184) dX7_init_183 rfl kc_iconst_m1 ?_
  refine r_ast (j := 1) (pc' := 185) dX7_init_184 rfl (g43.lt (by decide)) (g43.k (by decide)) (show vp_in (nI 1) 4 from vpl (by decide) (by decide)) (by decide) ?_
  have g44 := hA_si (q := 98) (j := 1) (v := -1) g43 (by decide)
  generalize sm_si h43 98 1 (-1) = h44 at g44 ⊢
  refine r_in_1_2 (pc' := 188) dX7_init_185 rfl rfl (show (1 : Int32) + Int32.ofInt 1 = 2 by decide) ?_
  refine r_goto (tgt := 173) dX7_init_188 (by decide) ?_
  refine r_s (pc' := 174) dX7_init_173 rfl rfl ?_
  refine r_c (pc' := 175) dX7_init_174 rfl kc_iconst_4 ?_
  refine r_cge_f (pc' := 178) (tgt := 191) dX7_init_175 rfl (by decide) (by decide) ?_
  refine r_s (pc' := 179) dX7_init_178 rfl rfl ?_
  refine r_gr (pc' := 182) dX7_init_179 rfl fX7_61 (g44.lt (by decide)) (by rw [g44.k (by decide)]; rfl) (g44.r (by decide) (by decide) : _ = some 98) ?_
  refine r_s (pc' := 183) dX7_init_182 rfl rfl ?_
  refine r_c (pc' := 184) dX7_init_183 rfl kc_iconst_m1 ?_
  refine r_ast (j := 2) (pc' := 185) dX7_init_184 rfl (g44.lt (by decide)) (g44.k (by decide)) (show vp_in (nI 2) 4 from vpl (by decide) (by decide)) (by decide) ?_
  have g45 := hA_si (q := 98) (j := 2) (v := -1) g44 (by decide)
  generalize sm_si h44 98 2 (-1) = h45 at g45 ⊢
  refine r_in_1_2 (pc' := 188) dX7_init_185 rfl rfl (show (2 : Int32) + Int32.ofInt 1 = 3 by decide) ?_
  refine r_goto (tgt := 173) dX7_init_188 (by decide) ?_
  refine r_s (pc' := 174) dX7_init_173 rfl rfl ?_
  refine r_c (pc' := 175) dX7_init_174 rfl kc_iconst_4 ?_
  refine r_cge_f (pc' := 178) (tgt := 191) dX7_init_175 rfl (by decide) (by decide) ?_
  refine r_s (pc' := 179) dX7_init_178 rfl rfl ?_
  refine r_gr (pc' := 182) dX7_init_179 rfl fX7_61 (g45.lt (by decide)) (by rw [g45.k (by decide)]; rfl) (g45.r (by decide) (by decide) : _ = some 98) ?_
  refine r_s (pc' := 183) dX7_init_182 rfl rfl ?_
  refine r_c (pc' := 184) dX7_init_183 rfl kc_iconst_m1 ?_
  refine r_ast (j := 3) (pc' := 185) dX7_init_184 rfl (g45.lt (by decide)) (g45.k (by decide)) (show vp_in (nI 3) 4 from vpl (by decide) (by decide)) (by decide) ?_
  have g46 := hA_si (q := 98) (j := 3) (v := -1) g45 (by decide)
  generalize sm_si h45 98 3 (-1) = h46 at g46 ⊢
  refine r_in_1_2 (pc' := 188) dX7_init_185 rfl rfl (show (3 : Int32) + Int32.ofInt 1 = 4 by decide) ?_
  refine r_goto (tgt := 173) dX7_init_188 (by decide) ?_
  refine r_s (pc' := 174) dX7_init_173 rfl rfl ?_
  refine r_c (pc' := 175) dX7_init_174 rfl kc_iconst_4 ?_
  refine r_cge_t (tgt := 191) dX7_init_175 (by decide) (by decide) ?_
  refine r_s (pc' := 192) dX7_init_191 rfl rfl ?_
  refine r_c (pc' := 194) dX7_init_192 rfl kc_bipush_m9 ?_
  refine r_pi (pc' := 197) dX7_init_194 rfl fX7_73 rfl (g46.lt (by decide)) (by rw [g46.k (by decide)]; rfl) ?_
  have g47 := hA_si (q := 80) (j := 11) (v := -9) g46 (by decide)
  generalize sm_si h46 80 11 (-9) = h47 at g47 ⊢
  exact r_retv dX7_init_197 rfl (Nat.le_of_ble_eq_true rfl) (Nat.le_of_ble_eq_true rfl) ⟨rfl, g47⟩

def rfF : Nat → Nat → Option Nat := (sm_up (sm_up (sm_up (sm_up (sm_up (sm_up (sm_up (sm_up (sm_up (sm_up (sm_up (sm_up (sm_up (sm_up (sm_up (sm_up (sm_up (sm_up (sm_up (sm_up (sm_up ((sm_up (sm_up (sm_up (sm_up (sm_up (sm_up (sm_up (sm_up (sm_up (sm_up (sm_up (sm_up (sm_up (sm_up (sm_up (rfm (sm_up (rfm (sm_up (sm_up (sm_up (sm_up (sm_up (sm_up (sm_up (sm_up (sm_up (sm_up (sm_up (sm_up (sm_up (sm_up (sm_up (rfm (sm_up (rfm (sm_up (sm_up (sm_up (sm_up (sm_up (sm_up (sm_up (sm_up (sm_up (sm_up (sm_up (sm_up (sm_up (sm_up (sm_up (fun _ _ => none) 0 0 (some 1)) 2 1 (some 3)) 2 2 (some 4)) 2 4 (some 5)) 2 5 (some 6)) 2 7 (some 7)) 2 8 (some 8)) 0 1 (some 2)) 9 1 (some 10)) 9 2 (some 11)) 9 4 (some 12)) 9 5 (some 13)) 9 7 (some 14)) 9 8 (some 15)) 0 2 (some 9)) 17) 16 1 (some 17)) 27) 16 2 (some 27)) 16 3 (some 37)) 16 0 (some 2)) 0 3 (some 16)) 38 1 (some 39)) 38 2 (some 40)) 38 3 (some 41)) 0 4 (some 38)) 43 1 (some 44)) 43 2 (some 45)) 43 4 (some 46)) 43 5 (some 47)) 43 7 (some 48)) 43 8 (some 49)) 42 2 (some 43)) 51) 50 1 (some 51)) 61) 50 2 (some 61)) 50 3 (some 71)) 50 0 (some 43)) 42 3 (some 50)) 42 0 (some 2)) 42 1 (some 38)) 0 5 (some 42)) 72 0 (some 73)) 1 (Int32.toNatClampNeg 0) (some 72)) 74 0 (some 75)) 1 (Int32.toNatClampNeg 1) (some 74)) 76 0 (some 77)) 1 (Int32.toNatClampNeg 2) (some 76)) 78 0 (some 79)) 1 (Int32.toNatClampNeg 3) (some 78))) 80 2 (some 81)) 80 3 (some 82)) 80 5 (some 83)) 80 6 (some 84)) 80 8 (some 85)) 80 9 (some 86)) 80 16 (some 87)) 80 17 (some 88)) 80 18 (some 89)) 80 19 (some 90)) 80 20 (some 91)) 80 21 (some 92)) 80 22 (some 93)) 80 23 (some 94)) 80 26 (some 95)) 80 27 (some 96)) 80 28 (some 97)) 80 29 (some 98)) 80 30 (some 99)) 80 31 (some 100)) 80 32 (some 101))
def inF : Nat → Nat → Int32 := (sm_up (sm_up (sm_up (sm_up (sm_up ((sm_up (sm_up (sm_up (sm_up (sm_up (sm_up (sm_up (sm_up (sm_up (sm_up (sm_up (sm_up (sm_up (sm_up (sm_up (sm_up (sm_up (sm_up (sm_up (sm_up (sm_up (sm_up (sm_up (sm_up (sm_up (sm_up (fun _ _ => 0) 2 0 0) 2 3 0) 2 6 0) 2 9 0) 2 10 (-9)) 9 0 0) 9 3 0) 9 6 0) 9 9 0) 9 10 (-9)) 38 0 0) 43 0 0) 43 3 0) 43 6 0) 43 9 0) 43 10 (-9)) 0 6 0) 0 7 0) 72 1 (-1)) 72 2 0) 74 1 (-1)) 74 2 0) 76 1 (-1)) 76 2 0) 78 1 (-1)) 78 2 0)) 98 0 (-1)) 98 1 (-1)) 98 2 (-1)) 98 3 (-1)) 80 11 (-9))

set_option maxRecDepth 100000 in
theorem rfF_ok : ∀ q, q < 102 → ∀ j, j < 35 → rfF q j = R0 q j := by decide +kernel
set_option maxRecDepth 100000 in
theorem R0_len : ∀ q, q < 102 → (R0l.getD q []).length ≤ 35 := by decide +kernel
theorem R0_far {q j : Nat} (hq : q < 102) (hj : 35 ≤ j) : R0 q j = none := by
  unfold R0
  rw [List.getD_eq_getElem?_getD (l := R0l.getD q []), List.getElem?_eq_none (by have := R0_len q hq; omega)]
  rfl
