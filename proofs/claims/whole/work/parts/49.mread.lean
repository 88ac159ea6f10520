/-- the reading r is so; all are -/
def okx (ρ : zR) (rm : Nat) (δ : zD) (r : Nat) : Prop := (sim ρ rm (zw ρ) ((δ.2 r).2.2 + 1)).1 (δ.2 r).1 = (δ.2 r).2.1
def arB (ρ : zR) (rm : Nat) (δ : zD) : Bool := decide (∀ r, r < δ.1 → (sim ρ rm (zw ρ) ((δ.2 r).2.2 + 1)).1 (δ.2 r).1 = (δ.2 r).2.1)
theorem arB_t {ρ : zR} {rm : Nat} {δ : zD} (h : ∀ r, r < δ.1 → okx ρ rm δ r) : arB ρ rm δ = true := decide_eq_true h
theorem arB_f {ρ : zR} {rm r : Nat} {δ : zD} (h : r < δ.1) (h2 : ¬ okx ρ rm δ r) : arB ρ rm δ = false := decide_eq_false (fun q => h2 (q r h))

set_option maxRecDepth 100000 in
theorem cb_half : ∀ t, t < 256 → cb0 t 8 = t % 2 + cb0 (t / 2) 8 := by decide +kernel

set_option maxHeartbeats 4000000 in
set_option maxRecDepth 100000 in
theorem lp_X7_bits {call : sm_K} {Q : sm_Q} {h : sm_H} {t c : Nat} (hQ : Q (some (.int (nI c))) h) : ∀ (m l n : Nat), l < 2 ^ m → m ≤ 8 → n + cb0 l 8 = c → sm_wp call 0 0 MX7_bits Q 4 [.int (nI t), .int (nI n), .int (nI l)] [] h 0 0 := by
  intro m
  induction m with
  | zero =>
    intro l n hl hm hc
    have hl0 : l = 0 := by omega
    refine r_s (pc' := 5) dX7_bits_4 rfl rfl ?_
    refine r_ifle_t (tgt := 21) dX7_bits_5 (by decide) (by rw [hl0]; decide) ?_
    refine r_s (pc' := 22) dX7_bits_21 rfl rfl ?_
    refine r_reti dX7_bits_22 rfl (rfl) (Nat.le_of_ble_eq_true rfl) (Nat.le_of_ble_eq_true rfl) ?_
    subst hl0; rw [show n = c from hc]; exact hQ
  | succ m ih =>
    intro l n hl hm hc
    have hl8 : l < 256 := Nat.lt_of_lt_of_le hl (Nat.pow_le_pow_right (by decide) hm : 2 ^ (m + 1) ≤ 2 ^ 8)
    refine r_s (pc' := 5) dX7_bits_4 rfl rfl ?_
    refine r_ifle (pc' := 8) (tgt := 21) dX7_bits_5 rfl (by decide) (fun c5 => ?_) (fun c5 => ?_)
    · refine r_s (pc' := 22) dX7_bits_21 rfl rfl ?_
      refine r_reti dX7_bits_22 rfl (rfl) (Nat.le_of_ble_eq_true rfl) (Nat.le_of_ble_eq_true rfl) ?_
      have hl0 : l = 0 := by have := mt (fun h => nI_nle (n := l) h (by omega)) (fun h => h c5); omega
      subst hl0; rw [show n = c from hc]; exact hQ
    · refine r_s (pc' := 9) dX7_bits_8 rfl rfl ?_
      refine r_s (pc' := 10) dX7_bits_9 rfl rfl ?_
      refine r_c (pc' := 11) dX7_bits_10 rfl kc_iconst_1 ?_
      refine r_s (pc' := 12) dX7_bits_11 rfl rfl ?_
      refine r_top ((fa_mask l 1 : nI l &&& nI 1 = nI (l % 2 ^ 1))) ?_
      refine r_s (pc' := 13) dX7_bits_12 rfl rfl ?_
      refine r_top (nI_add _ _) ?_
      refine r_st_1_3 (pc' := 14) dX7_bits_13 rfl rfl rfl ?_
      refine r_s (pc' := 15) dX7_bits_14 rfl rfl ?_
      refine r_c (pc' := 16) dX7_bits_15 rfl kc_iconst_1 ?_
      refine r_s (pc' := 17) dX7_bits_16 rfl rfl ?_
      refine r_top (pk_shrN (by omega) _ 1 (by decide)) ?_
      refine r_st_2_3 (pc' := 18) dX7_bits_17 rfl rfl rfl ?_
      refine r_goto (tgt := 4) dX7_bits_18 (by decide) ?_
      exact ih (l / 2 ^ 1) (n + l % 2 ^ 1) (by rw [Nat.pow_succ] at hl; omega) (by omega) (by have := cb_half l hl8; rw [show (2 : Nat) ^ 1 = 2 from rfl]; omega)

set_option maxHeartbeats 4000000 in
set_option maxRecDepth 100000 in
theorem ct_X7_bits {d : Nat} {h : sm_H} {t : Nat} (ht : t < 256) : ci (d + 1) MX7_bits [.int (nI t)] h (fun r h' => h' = h ∧ r = nI (cb0 t 8)) := by
  refine c_in (L := [.int (nI t), .null, .null]) rfl rfl ?_
  refine r_c (pc' := 1) dX7_bits_0 rfl kc_iconst_0 ?_
  refine r_st_1_3 (pc' := 2) dX7_bits_1 rfl rfl rfl ?_
  refine r_s (pc' := 3) dX7_bits_2 rfl rfl ?_
  refine r_st_2_3 (pc' := 4) dX7_bits_3 rfl rfl rfl ?_
  exact lp_X7_bits ⟨_, rfl, rfl, rfl⟩ 8 t 0 ht (by decide) (Nat.zero_add _)

def blw (n row : Nat) (w : Nat → Nat) : Nat → Nat := fun j => if j < n then (if row.testBit j then 1 else 0) else w j

set_option maxHeartbeats 4000000 in
set_option maxRecDepth 100000 in
theorem lp_X7_blow {call : sm_K} {Q : sm_Q} {x : hX} {row n : Nat} {I0 : Nat → Nat → Int32} (hr : row < 256) (hn : n ≤ 8) (hQ : ∀ I, (∀ j, j < n → I 83 j = nI (if row.testBit j then 1 else 0)) → (∀ t, t ≠ 83 → I t = I0 t) → (∀ j, n ≤ j → I 83 j = I0 83 j) → Q none (hp x I)) : ∀ (m i : Nat) (I : Nat → Nat → Int32), i + m = n → (∀ j, j < i → I 83 j = nI (if row.testBit j then 1 else 0)) → (∀ t, t ≠ 83 → I t = I0 t) → (∀ j, n ≤ j → I 83 j = I0 83 j) → sm_wp call 0 0 MX7_blow Q 2 [.ref 80, .int (nI row), .int (nI n), .int (nI i)] [] (hp x I) 0 0 := by
  intro m
  induction m with
  | zero =>
    intro i I hi h1 h2 h3
    have hi : i = n := by omega
    refine r_s (pc' := 3) dX7_blow_2 rfl rfl ?_
    refine r_s (pc' := 4) dX7_blow_3 rfl rfl ?_
    refine r_cge_t (tgt := 24) dX7_blow_4 (by decide) (by rw [hi]; exact Int32.le_refl _) ?_
    refine r_retv dX7_blow_24 rfl (Nat.le_of_ble_eq_true rfl) (Nat.le_of_ble_eq_true rfl) ?_
    rw [hi] at h1; exact hQ I h1 h2 h3
  | succ m ih =>
    intro i I hi h1 h2 h3
    refine r_s (pc' := 3) dX7_blow_2 rfl rfl ?_
    refine r_s (pc' := 4) dX7_blow_3 rfl rfl ?_
    refine r_cge_f (pc' := 7) (tgt := 24) dX7_blow_4 rfl (by decide) (nI_ge (by omega) (by omega)) ?_
    refine r_s (pc' := 8) dX7_blow_7 rfl rfl ?_
    refine r_gr (pc' := 11) dX7_blow_8 rfl fX7_16 (hl_ rfl) rfl rfl ?_
    refine r_s (pc' := 12) dX7_blow_11 rfl rfl ?_
    refine r_s (pc' := 13) dX7_blow_12 rfl rfl ?_
    refine r_s (pc' := 14) dX7_blow_13 rfl rfl ?_
    refine r_s (pc' := 15) dX7_blow_14 rfl rfl ?_
    refine r_c (pc' := 16) dX7_blow_15 rfl kc_iconst_1 ?_
    refine r_s (pc' := 17) dX7_blow_16 rfl rfl ?_
    refine r_top ((show _ = nI (if row.testBit i then 1 else 0) by rw [bitI row hr i (by omega)]; split <;> rfl)) ?_
    refine h_ast (pc' := 18) dX7_blow_17 rfl (hl_ rfl) rfl (vp_in_nI (by omega) (by decide)) (nI_clamp (by omega)) ?_
    refine r_in_3_4 (pc' := 21) dX7_blow_18 rfl rfl (i1 _) ?_
    refine r_goto (tgt := 2) dX7_blow_21 (by decide) ?_
    refine ih (i + 1) _ (by omega) (fun k hk => ?_) (fun t ht => by rw [up_o ht]; exact h2 t ht) (fun j hj => by rw [up_n (by omega)]; exact h3 j hj)
    by_cases e : k = i
    · subst e; exact up_s
    · rw [up_n e]; exact h1 k (by omega)

set_option maxHeartbeats 4000000 in
set_option maxRecDepth 100000 in
theorem ct_X7_blow {d : Nat} {x : hX} {I : Nat → Nat → Int32} {row n : Nat} (hr : row < 256) (hn : n ≤ 8) : cv (d + 1) MX7_blow [.ref 80, .int (nI row), .int (nI n)] (hp x I) (fun h' => ∃ I', h' = hp x I' ∧ (∀ j, j < n → I' 83 j = nI (if row.testBit j then 1 else 0)) ∧ (∀ t, t ≠ 83 → I' t = I t) ∧ (∀ j, n ≤ j → I' 83 j = I 83 j)) := by
  refine c_in (L := [.ref 80, .int (nI row), .int (nI n), .null]) rfl rfl ?_
  refine r_c (pc' := 1) dX7_blow_0 rfl kc_iconst_0 ?_
  refine r_st_3_4 (pc' := 2) dX7_blow_1 rfl rfl rfl ?_
  exact lp_X7_blow (I0 := I) hr hn (fun I1 a1 a2 a3 => ⟨rfl, I1, rfl, a1, a2, a3⟩) n 0 _ (by omega) (fun j hj => absurd hj (by omega)) (fun t _ => rfl) (fun j _ => rfl)

theorem lN_div {a d : Nat} (ha : a < 2 ^ 31) (h0 : 0 < d) (hd : d < 2 ^ 31) : lN a / lN d = lN (a / d) := by
  apply (fa_eq64 _ _).mpr
  have h1 : a / d ≤ a := Nat.div_le_self _ _
  rw [Int64.toInt_div, lN_toInt ha, lN_toInt hd, lN_toInt (by omega), ← Int.ofNat_tdiv]
  generalize a / d = q at h1 ⊢
  exact Int.bmod_eq_of_le (by omega) (by omega)
theorem lN_rem {a d : Nat} (ha : a < 2 ^ 31) (h0 : 0 < d) (hd : d < 2 ^ 31) : lN a - lN a / lN d * lN d = lN (a % d) := by
  have h2 := Nat.div_mul_le_self a d
  rw [lN_div ha h0 hd, lN_mul, lN_sub h2]
  have h3 := Nat.div_add_mod a d
  rw [Nat.mul_comm d] at h3
  exact congrArg lN (by omega)
theorem lc_eq {n : Nat} (hn : n < 2 ^ 31) : lg_cmp (lN n) (lN 0) = 0 ↔ n = 0 := by
  unfold lg_cmp
  constructor
  · intro h
    by_cases h1 : lN n > lN 0
    · rw [if_pos h1] at h; exact absurd h (by decide)
    · rw [if_neg h1] at h
      by_cases h2 : lN n = lN 0
      · exact (lN_eq hn (by decide)).mp h2
      · rw [if_neg h2] at h; exact absurd h (by decide)
  · intro h; subst h; decide

set_option maxHeartbeats 4000000 in
set_option maxRecDepth 100000 in
theorem lp_X7_share {call : sm_K} {Q : sm_Q} {h : sm_H} {up dw : Nat} {wh : Int32} (hu : up < 2 ^ 31) (hd : dw < 2 ^ 31) (hd0 : 0 < dw) (hQ : Q (some (.long (lN ((if wh = 0 then up else dw) / Nat.gcd up dw)))) h) : ∀ (m a b : Nat) (v9 : Value), b ≤ m → a < 2 ^ 31 → b < 2 ^ 31 → Nat.gcd a b = Nat.gcd up dw → sm_wp call 0 0 MX7_share Q 6 [.long (lN up), .null, .long (lN dw), .null, .int wh, .long (lN a), .null, .long (lN b), .null, v9, .null] [] h 0 0 := by
  intro m
  induction m with
  | zero =>
    intro a b v9 hm ha hb hg
    have hb0 : b = 0 := by omega
    refine r_s (pc' := 8) dX7_share_6 rfl rfl ?_
    refine r_c (pc' := 9) dX7_share_8 rfl kc_lconst_0 ?_
    refine r_s (pc' := 10) dX7_share_9 rfl rfl ?_
    refine r_ifeq_t (tgt := 31) dX7_share_10 (by decide) ((lc_eq hb).mpr hb0) ?_
    refine r_s (pc' := 33) dX7_share_31 rfl rfl ?_
    refine r_ifne (pc' := 36) (tgt := 40) dX7_share_33 rfl (by decide) (fun c33 => ?_) (fun c33 => ?_)
    · refine r_s (pc' := 41) dX7_share_40 rfl rfl ?_
      refine r_s (pc' := 43) dX7_share_41 rfl rfl ?_
      refine r_ldiv (pc' := 44) dX7_share_43 rfl (fun e => by
      have h1 := (lN_eq ha (by decide : 0 < 2 ^ 31)).mp e
      rw [hb0, Nat.gcd_zero_right] at hg
      have := Nat.gcd_pos_of_pos_right up hd0
      omega) ?_
      have hag : a = Nat.gcd up dw := by rw [hb0, Nat.gcd_zero_right] at hg; exact hg
      refine r_topl (lN_div (a := dw) (d := a) (by omega) (by have := Nat.gcd_pos_of_pos_right up hd0; omega) (by omega)) ?_
      refine r_retl dX7_share_44 rfl (Nat.le_of_ble_eq_true rfl) (Nat.le_of_ble_eq_true rfl) ?_
      rw [hag]
      rw [if_neg c33] at hQ
      exact hQ
    · refine r_s (pc' := 37) dX7_share_36 rfl rfl ?_
      refine r_goto (tgt := 41) dX7_share_37 (by decide) ?_
      refine r_s (pc' := 43) dX7_share_41 rfl rfl ?_
      refine r_ldiv (pc' := 44) dX7_share_43 rfl (fun e => by
      have h1 := (lN_eq ha (by decide : 0 < 2 ^ 31)).mp e
      rw [hb0, Nat.gcd_zero_right] at hg
      have := Nat.gcd_pos_of_pos_right up hd0
      omega) ?_
      have hag : a = Nat.gcd up dw := by rw [hb0, Nat.gcd_zero_right] at hg; exact hg
      refine r_topl (lN_div (a := up) (d := a) (by omega) (by have := Nat.gcd_pos_of_pos_right up hd0; omega) (by omega)) ?_
      refine r_retl dX7_share_44 rfl (Nat.le_of_ble_eq_true rfl) (Nat.le_of_ble_eq_true rfl) ?_
      rw [hag]
      rw [if_pos c33] at hQ
      exact hQ
  | succ m ih =>
    intro a b v9 hm ha hb hg
    refine r_s (pc' := 8) dX7_share_6 rfl rfl ?_
    refine r_c (pc' := 9) dX7_share_8 rfl kc_lconst_0 ?_
    refine r_s (pc' := 10) dX7_share_9 rfl rfl ?_
    refine r_ifeq (pc' := 13) (tgt := 31) dX7_share_10 rfl (by decide) (fun c10 => ?_) (fun c10 => ?_)
    · have hb0 : b = 0 := (lc_eq hb).mp c10
      refine r_s (pc' := 33) dX7_share_31 rfl rfl ?_
      refine r_ifne (pc' := 36) (tgt := 40) dX7_share_33 rfl (by decide) (fun c33 => ?_) (fun c33 => ?_)
      · refine r_s (pc' := 41) dX7_share_40 rfl rfl ?_
        refine r_s (pc' := 43) dX7_share_41 rfl rfl ?_
        refine r_ldiv (pc' := 44) dX7_share_43 rfl (fun e => by
      have h1 := (lN_eq ha (by decide : 0 < 2 ^ 31)).mp e
      rw [hb0, Nat.gcd_zero_right] at hg
      have := Nat.gcd_pos_of_pos_right up hd0
      omega) ?_
        have hag : a = Nat.gcd up dw := by rw [hb0, Nat.gcd_zero_right] at hg; exact hg
        refine r_topl (lN_div (a := dw) (d := a) (by omega) (by have := Nat.gcd_pos_of_pos_right up hd0; omega) (by omega)) ?_
        refine r_retl dX7_share_44 rfl (Nat.le_of_ble_eq_true rfl) (Nat.le_of_ble_eq_true rfl) ?_
        rw [hag]
        rw [if_neg c33] at hQ
        exact hQ
      · refine r_s (pc' := 37) dX7_share_36 rfl rfl ?_
        refine r_goto (tgt := 41) dX7_share_37 (by decide) ?_
        refine r_s (pc' := 43) dX7_share_41 rfl rfl ?_
        refine r_ldiv (pc' := 44) dX7_share_43 rfl (fun e => by
      have h1 := (lN_eq ha (by decide : 0 < 2 ^ 31)).mp e
      rw [hb0, Nat.gcd_zero_right] at hg
      have := Nat.gcd_pos_of_pos_right up hd0
      omega) ?_
        have hag : a = Nat.gcd up dw := by rw [hb0, Nat.gcd_zero_right] at hg; exact hg
        refine r_topl (lN_div (a := up) (d := a) (by omega) (by have := Nat.gcd_pos_of_pos_right up hd0; omega) (by omega)) ?_
        refine r_retl dX7_share_44 rfl (Nat.le_of_ble_eq_true rfl) (Nat.le_of_ble_eq_true rfl) ?_
        rw [hag]
        rw [if_pos c33] at hQ
        exact hQ
    · refine r_s (pc' := 15) dX7_share_13 rfl rfl ?_
      refine r_s (pc' := 17) dX7_share_15 rfl rfl ?_
      refine r_lrem (pc' := 18) dX7_share_17 rfl (fun e => c10 (by rw [e]; exact (lc_eq (by decide : 0 < 2 ^ 31)).mpr rfl)) ?_
      have hb1 : 0 < b := Nat.pos_of_ne_zero (fun e => c10 ((lc_eq hb).mpr e))
      refine r_topl (lN_rem ha hb1 hb) ?_
      refine r_sl_9_11 (pc' := 20) dX7_share_18 rfl rfl rfl ?_
      refine r_s (pc' := 22) dX7_share_20 rfl rfl ?_
      refine r_sl_5_11 (pc' := 24) dX7_share_22 rfl rfl rfl ?_
      refine r_s (pc' := 26) dX7_share_24 rfl rfl ?_
      refine r_sl_7_11 (pc' := 28) dX7_share_26 rfl rfl rfl ?_
      refine r_goto (tgt := 6) dX7_share_28 (by decide) ?_
      have hlt := Nat.mod_lt a hb1
      exact ih b (a % b) _ (by omega) hb (by omega) (by rw [Nat.gcd_comm b, ← Nat.gcd_rec, Nat.gcd_comm]; exact hg)

set_option maxHeartbeats 4000000 in
set_option maxRecDepth 100000 in
theorem ct_X7_share {d : Nat} {h : sm_H} {up dw : Nat} {wh : Int32} (hu : up < 2 ^ 31) (hd : dw < 2 ^ 31) (hd0 : 0 < dw) : cl (d + 1) MX7_share [.long (lN up), .long (lN dw), .int wh] h (fun r h' => h' = h ∧ r = lN ((if wh = 0 then up else dw) / Nat.gcd up dw)) := by
  refine c_in (L := [.long (lN up), .null, .long (lN dw), .null, .int wh, .null, .null, .null, .null, .null, .null]) rfl rfl ?_
  refine r_s (pc' := 1) dX7_share_0 rfl rfl ?_
  refine r_sl_5_11 (pc' := 3) dX7_share_1 rfl rfl rfl ?_
  refine r_s (pc' := 4) dX7_share_3 rfl rfl ?_
  refine r_sl_7_11 (pc' := 6) dX7_share_4 rfl rfl rfl ?_
  exact lp_X7_share hu hd hd0 ⟨_, rfl, rfl, rfl⟩ dw up dw _ (Nat.le_refl _) hu hd rfl

set_option maxHeartbeats 4000000 in
set_option maxRecDepth 100000 in
theorem lpi_X7_areSo {call : sm_K} {Q : sm_Q} {x : hX} {ρ : zR} {δ : zD} {I : Nat → Nat → Int32} {rm n : Nat} (hR : isMd I ρ) (hD : isDM I δ) (hw : wfR ρ) (hW : wfD ρ δ) (hz : 0 < zi ρ) (hS : MR I ρ (sim ρ rm (zw ρ) (n + 1))) (hn8 : n < 8) (hQ : ∀ b, (b = 1 ∧ (∀ r, r < δ.1 → (δ.2 r).2.2 < n + 1 → okx ρ rm δ r)) ∨ (b = 0 ∧ ∃ r, r < δ.1 ∧ ¬ okx ρ rm δ r) → sm_wp call 0 0 MX7_areSo Q 77 [.ref 80, .int b, .int (nI n), .int (nI δ.1)] [] (hp x I) 0 0) : ∀ (m i : Nat) (b : Int32), i + m = δ.1 → ((b = 1 ∧ (∀ r, r < δ.1 → (δ.2 r).2.2 < n → okx ρ rm δ r) ∧ (∀ r, r < i → (δ.2 r).2.2 = n → okx ρ rm δ r)) ∨ (b = 0 ∧ ∃ r, r < δ.1 ∧ ¬ okx ρ rm δ r)) → sm_wp call 0 0 MX7_areSo Q 23 [.ref 80, .int b, .int (nI n), .int (nI i)] [] (hp x I) 0 0 := by
  have b6 : zi ρ ≤ 6 := hw.1
  have b8 : zn ρ ≤ 8 := hw.2.1
  have bg : zg ρ ≤ 8 := hw.2.2.1
  have bl : zl ρ ≤ 1 := hw.2.2.2.1
  have d8 : δ.1 ≤ 8 := hW.1
  intro m
  induction m with
  | zero =>
    intro i b hi h1
    have hi : i = δ.1 := by omega
    rcases h1 with ⟨rfl, ha, hc⟩ | ⟨rfl, r0, hr0, hb⟩
    · refine r_s (pc' := 24) dX7_areSo_23 rfl rfl ?_
      refine r_s (pc' := 25) dX7_areSo_24 rfl rfl ?_
      refine h_gi (pc' := 28) dX7_areSo_25 rfl fX7_156 (hl_ rfl) rfl ?_
      refine r_top (hD.1) ?_
      refine r_cge_t (tgt := 77) dX7_areSo_28 (by decide) (by rw [hi]; exact Int32.le_refl _) ?_
      rw [hi] at hc ⊢; exact hQ 1 (Or.inl ⟨rfl, fun r hr h2 => by
        by_cases e : (δ.2 r).2.2 = n
        · exact hc r hr e
        · exact ha r hr (by omega)⟩)
    · refine r_s (pc' := 24) dX7_areSo_23 rfl rfl ?_
      refine r_s (pc' := 25) dX7_areSo_24 rfl rfl ?_
      refine h_gi (pc' := 28) dX7_areSo_25 rfl fX7_156 (hl_ rfl) rfl ?_
      refine r_top (hD.1) ?_
      refine r_cge_t (tgt := 77) dX7_areSo_28 (by decide) (by rw [hi]; exact Int32.le_refl _) ?_
      rw [hi]; exact hQ 0 (Or.inr ⟨rfl, r0, hr0, hb⟩)
  | succ m ih =>
    intro i b hi h1
    have hx := hW.2 i (by omega)
    have hAx := (sim_ok hw hz rm (zw ρ) (n + 1)).1 _ hx.1
    rcases h1 with ⟨rfl, ha, hc⟩ | ⟨rfl, r0, hr0, hb⟩
    · refine r_s (pc' := 24) dX7_areSo_23 rfl rfl ?_
      refine r_s (pc' := 25) dX7_areSo_24 rfl rfl ?_
      refine h_gi (pc' := 28) dX7_areSo_25 rfl fX7_156 (hl_ rfl) rfl ?_
      refine r_top (hD.1) ?_
      refine r_cge_f (pc' := 31) (tgt := 77) dX7_areSo_28 rfl (by decide) (nI_ge (by omega) (by omega)) ?_
      refine r_s (pc' := 32) dX7_areSo_31 rfl rfl ?_
      refine r_ifeq_f (pc' := 35) (tgt := 69) dX7_areSo_32 rfl (by decide) (by decide) ?_
      refine r_s (pc' := 36) dX7_areSo_35 rfl rfl ?_
      refine r_gr (pc' := 39) dX7_areSo_36 rfl fX7_58 (hl_ rfl) rfl rfl ?_
      refine r_s (pc' := 40) dX7_areSo_39 rfl rfl ?_
      refine h_ald (pc' := 41) dX7_areSo_40 rfl (hl_ rfl) rfl (vp_in_nI (by omega) (by decide)) (nI_clamp (by omega)) ?_
      refine r_top ((hD.2 i (by omega)).2.2) ?_
      refine r_s (pc' := 42) dX7_areSo_41 rfl rfl ?_
      refine r_cne (pc' := 45) (tgt := 65) dX7_areSo_42 rfl (by decide) (fun c42 => ?_) (fun c42 => ?_)
      · refine r_c (pc' := 66) dX7_areSo_65 rfl kc_iconst_1 ?_
        refine r_goto (tgt := 70) dX7_areSo_66 (by decide) ?_
        refine r_st_1_4 (pc' := 71) dX7_areSo_70 rfl rfl rfl ?_
        refine r_in_3_4 (pc' := 74) dX7_areSo_71 rfl rfl (i1 _) ?_
        refine r_goto (tgt := 23) dX7_areSo_74 (by decide) ?_
        refine ih (i + 1) 1 (by omega) (Or.inl ⟨rfl, ha, fun r hr e2 => ?_⟩)
        by_cases e : r = i
        · subst e; exact absurd (by rw [e2]) c42
        · exact hc r (by omega) e2
      · refine r_s (pc' := 46) dX7_areSo_45 rfl rfl ?_
        refine r_gr (pc' := 49) dX7_areSo_46 rfl fX7_46 (hl_ rfl) rfl rfl ?_
        refine r_s (pc' := 50) dX7_areSo_49 rfl rfl ?_
        refine r_gr (pc' := 53) dX7_areSo_50 rfl fX7_52 (hl_ rfl) rfl rfl ?_
        refine r_s (pc' := 54) dX7_areSo_53 rfl rfl ?_
        refine h_ald (pc' := 55) dX7_areSo_54 rfl (hl_ rfl) rfl (vp_in_nI (by omega) (by decide)) (nI_clamp (by omega)) ?_
        refine r_top ((hD.2 i (by omega)).1) ?_
        refine h_ald (pc' := 56) dX7_areSo_55 rfl (hl_ rfl) rfl (vp_in_nI (by omega) (by decide)) (nI_clamp (by omega)) ?_
        refine r_top (hS.1 _ hx.1) ?_
        refine r_s (pc' := 57) dX7_areSo_56 rfl rfl ?_
        refine r_gr (pc' := 60) dX7_areSo_57 rfl fX7_55 (hl_ rfl) rfl rfl ?_
        refine r_s (pc' := 61) dX7_areSo_60 rfl rfl ?_
        refine h_ald (pc' := 62) dX7_areSo_61 rfl (hl_ rfl) rfl (vp_in_nI (by omega) (by decide)) (nI_clamp (by omega)) ?_
        refine r_top ((hD.2 i (by omega)).2.1) ?_
        refine r_cne (pc' := 65) (tgt := 69) dX7_areSo_62 rfl (by decide) (fun c62 => ?_) (fun c62 => ?_)
        · refine r_c (pc' := 70) dX7_areSo_69 rfl kc_iconst_0 ?_
          refine r_st_1_4 (pc' := 71) dX7_areSo_70 rfl rfl rfl ?_
          refine r_in_3_4 (pc' := 74) dX7_areSo_71 rfl rfl (i1 _) ?_
          refine r_goto (tgt := 23) dX7_areSo_74 (by decide) ?_
          have e2 := (nI_eq (by omega) (by omega)).mp c42
          exact ih (i + 1) 0 (by omega) (Or.inr ⟨rfl, i, by omega, fun h => c62 (by unfold okx at h; rw [e2] at h; rw [h])⟩)
        · refine r_c (pc' := 66) dX7_areSo_65 rfl kc_iconst_1 ?_
          refine r_goto (tgt := 70) dX7_areSo_66 (by decide) ?_
          refine r_st_1_4 (pc' := 71) dX7_areSo_70 rfl rfl rfl ?_
          refine r_in_3_4 (pc' := 74) dX7_areSo_71 rfl rfl (i1 _) ?_
          refine r_goto (tgt := 23) dX7_areSo_74 (by decide) ?_
          refine ih (i + 1) 1 (by omega) (Or.inl ⟨rfl, ha, fun r hr e2 => ?_⟩)
          by_cases e : r = i
          · subst e; unfold okx; rw [e2]; exact (nI_eq (by omega) (by omega)).mp c62
          · exact hc r (by omega) e2
    · refine r_s (pc' := 24) dX7_areSo_23 rfl rfl ?_
      refine r_s (pc' := 25) dX7_areSo_24 rfl rfl ?_
      refine h_gi (pc' := 28) dX7_areSo_25 rfl fX7_156 (hl_ rfl) rfl ?_
      refine r_top (hD.1) ?_
      refine r_cge_f (pc' := 31) (tgt := 77) dX7_areSo_28 rfl (by decide) (nI_ge (by omega) (by omega)) ?_
      refine r_s (pc' := 32) dX7_areSo_31 rfl rfl ?_
      refine r_ifeq_t (tgt := 69) dX7_areSo_32 (by decide) (by decide) ?_
      refine r_c (pc' := 70) dX7_areSo_69 rfl kc_iconst_0 ?_
      refine r_st_1_4 (pc' := 71) dX7_areSo_70 rfl rfl rfl ?_
      refine r_in_3_4 (pc' := 74) dX7_areSo_71 rfl rfl (i1 _) ?_
      refine r_goto (tgt := 23) dX7_areSo_74 (by decide) ?_
      exact ih (i + 1) 0 (by omega) (Or.inr ⟨rfl, r0, hr0, hb⟩)

theorem isDM.fr {I I' : Nat → Nat → Int32} {δ : zD} (h : isDM I δ) (hf : frM I I') : isDM I' δ := h.same (hf.2 25 (by decide)) (fun r h1 h2 => hf.1 r (by omega) (by omega) (by omega))

set_option maxHeartbeats 4000000 in
set_option maxRecDepth 100000 in
theorem lpo_X7_areSo {d : Nat} {Q : sm_Q} {x : hX} {ρ : zR} {δ : zD} {I0 : Nat → Nat → Int32} {rm : Nat} (hR : isMd I0 ρ) (hD : isDM I0 δ) (hw : wfR ρ) (hW : wfD ρ δ) (hz : 0 < zi ρ) (hrm : I0 80 11 = rmI rm) (hQ1 : ∀ I, frM I0 I → arB ρ rm δ = true → Q (some (.int 1)) (hp x I)) (hQ0 : ∀ I, frM I0 I → arB ρ rm δ = false → Q (some (.int 0)) (hp x I)) : ∀ (m i : Nat) (b : Int32) (v3 : Value) (I : Nat → Nat → Int32), i + m = zn ρ → ((b = 1 ∧ (∀ r, r < δ.1 → (δ.2 r).2.2 < i → okx ρ rm δ r)) ∨ (b = 0 ∧ ∃ r, r < δ.1 ∧ ¬ okx ρ rm δ r)) → MR I ρ (sim ρ rm (zw ρ) i) → frM I0 I → sm_wp (sm_c (d + 3)) 0 0 MX7_areSo Q 8 [.ref 80, .int b, .int (nI i), v3] [] (hp x I) 0 0 := by
  have b6 : zi ρ ≤ 6 := hw.1
  have b8 : zn ρ ≤ 8 := hw.2.1
  have bg : zg ρ ≤ 8 := hw.2.2.1
  have bl : zl ρ ≤ 1 := hw.2.2.2.1
  intro m
  induction m with
  | zero =>
    intro i b v3 I hi h1 hs h2
    have hi : i = zn ρ := by omega
    rcases h1 with ⟨rfl, ha⟩ | ⟨rfl, r0, hr0, hb⟩
    · refine r_s (pc' := 9) dX7_areSo_8 rfl rfl ?_
      refine r_s (pc' := 10) dX7_areSo_9 rfl rfl ?_
      refine h_gi (pc' := 13) dX7_areSo_10 rfl fX7_96 (hl_ rfl) rfl ?_
      refine r_top ((hR.fr h2).2.1) ?_
      refine r_cge_t (tgt := 83) dX7_areSo_13 (by decide) (by rw [hi]; exact Int32.le_refl _) ?_
      refine r_s (pc' := 84) dX7_areSo_83 rfl rfl ?_
      refine r_reti dX7_areSo_84 rfl (rfl) (Nat.le_of_ble_eq_true rfl) (Nat.le_of_ble_eq_true rfl) ?_
      exact hQ1 I h2 (arB_t (fun r hr => ha r hr (by have := (hW.2 r hr).2.2; omega)))
    · refine r_s (pc' := 9) dX7_areSo_8 rfl rfl ?_
      refine r_s (pc' := 10) dX7_areSo_9 rfl rfl ?_
      refine h_gi (pc' := 13) dX7_areSo_10 rfl fX7_96 (hl_ rfl) rfl ?_
      refine r_top ((hR.fr h2).2.1) ?_
      refine r_cge_t (tgt := 83) dX7_areSo_13 (by decide) (by rw [hi]; exact Int32.le_refl _) ?_
      refine r_s (pc' := 84) dX7_areSo_83 rfl rfl ?_
      refine r_reti dX7_areSo_84 rfl (rfl) (Nat.le_of_ble_eq_true rfl) (Nat.le_of_ble_eq_true rfl) ?_
      exact hQ0 I h2 (arB_f hr0 hb)
  | succ m ih =>
    intro i b v3 I hi h1 hs h2
    refine r_s (pc' := 9) dX7_areSo_8 rfl rfl ?_
    refine r_s (pc' := 10) dX7_areSo_9 rfl rfl ?_
    refine h_gi (pc' := 13) dX7_areSo_10 rfl fX7_96 (hl_ rfl) rfl ?_
    refine r_top ((hR.fr h2).2.1) ?_
    refine r_cge_f (pc' := 16) (tgt := 83) dX7_areSo_13 rfl (by decide) (nI_ge (by omega) (by omega)) ?_
    refine r_s (pc' := 17) dX7_areSo_16 rfl rfl ?_
    refine r_s (pc' := 18) dX7_areSo_17 rfl rfl ?_
    refine r_Vv1 (pc' := 21) dX7_areSo_18 rfl lX7_189 (hl_ rfl) rfl rfl rfl rfl (Nat.le_of_ble_eq_true rfl) (Nat.le_of_ble_eq_true rfl) (ct_X7_goNight (S := sim ρ rm (zw ρ) i) (hR.fr h2) hw hz (by omega) (by rw [h2.2 11 (by decide)]; exact hrm) hs (sim_ok hw hz rm (zw ρ) i)) (fun h18 e18 => ?_)
    obtain ⟨I1, rfl, a1, a2⟩ := e18
    refine r_c (pc' := 22) dX7_areSo_21 rfl kc_iconst_0 ?_
    refine r_st_3_4 (pc' := 23) dX7_areSo_22 rfl rfl rfl ?_
    refine lpi_X7_areSo (n := i) (rm := rm) ((hR.fr h2).fr a2) ((hD.fr h2).fr a2) hw hW hz a1 (by omega) (fun b3 hb3 => ?_) δ.1 0 b (by omega) ?_
    · refine r_in_2_4 (pc' := 80) dX7_areSo_77 rfl rfl (i1 _) ?_
      refine r_goto (tgt := 8) dX7_areSo_80 (by decide) ?_
      exact ih (i + 1) b3 _ I1 (by omega) hb3 a1 (h2.tr a2)
    · rcases h1 with ⟨rfl, ha⟩ | ⟨rfl, r0, hr0, hb⟩
      · exact Or.inl ⟨rfl, ha, fun r hr _ => absurd hr (by omega)⟩
      · exact Or.inr ⟨rfl, r0, hr0, hb⟩

set_option maxHeartbeats 4000000 in
set_option maxRecDepth 100000 in
theorem ct_X7_areSo {d : Nat} {x : hX} {I : Nat → Nat → Int32} {ρ : zR} {δ : zD} {rm : Nat} (hR : isMd I ρ) (hD : isDM I δ) (hw : wfR ρ) (hW : wfD ρ δ) (hz : 0 < zi ρ) (hrm : I 80 11 = rmI rm) : ci (d + 4) MX7_areSo [.ref 80] (hp x I) (fun r h' => (∃ I', h' = hp x I' ∧ frM I I' ∧ r = 1 ∧ arB ρ rm δ = true) ∨ (∃ I', h' = hp x I' ∧ frM I I' ∧ r = 0 ∧ arB ρ rm δ = false)) := by
  refine c_in (L := [.ref 80, .null, .null, .null]) rfl rfl ?_
  refine r_s (pc' := 1) dX7_areSo_0 rfl rfl ?_
  refine r_Vv0 (pc' := 4) dX7_areSo_1 rfl lX7_186 (hl_ rfl) rfl rfl rfl rfl (Nat.le_of_ble_eq_true rfl) (Nat.le_of_ble_eq_true rfl) (ct_X7_begin hR hw) (fun h1 e1 => ?_)
  obtain ⟨I1, rfl, a1, a2⟩ := e1
  refine r_c (pc' := 5) dX7_areSo_4 rfl kc_iconst_1 ?_
  refine r_st_1_4 (pc' := 6) dX7_areSo_5 rfl rfl rfl ?_
  refine r_c (pc' := 7) dX7_areSo_6 rfl kc_iconst_0 ?_
  refine r_st_2_4 (pc' := 8) dX7_areSo_7 rfl rfl rfl ?_
  exact lpo_X7_areSo (I0 := I) hR hD hw hW hz hrm (fun I2 g2 e => ⟨_, rfl, Or.inl ⟨I2, rfl, g2, rfl, e⟩⟩) (fun I2 g2 e => ⟨_, rfl, Or.inr ⟨I2, rfl, g2, rfl, e⟩⟩) (zn ρ) 0 1 _ _ (by omega) (Or.inl ⟨rfl, fun r _ hr => absurd hr (by omega)⟩) a1 a2
