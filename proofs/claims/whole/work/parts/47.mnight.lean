/-- the reference's tables hold the state S -/
def MR (I : Nat → Nat → Int32) (ρ : zR) (S : zN) : Prop := (∀ g, g < zg ρ → I 93 g = nI (S.1 g)) ∧ (∀ k, k < zi ρ → I 94 k = nI (S.2.1 k)) ∧ I 80 24 = nI S.2.2
def frM (I0 I : Nat → Nat → Int32) : Prop := (∀ t, t ≠ 93 → t ≠ 94 → t ≠ 80 → I t = I0 t) ∧ ∀ j, j ≠ 24 → I 80 j = I0 80 j
theorem frM.rfl' {I : Nat → Nat → Int32} : frM I I := ⟨fun _ _ _ _ => rfl, fun _ _ => rfl⟩
theorem frM.tr {I J K : Nat → Nat → Int32} (h : frM I J) (h2 : frM J K) : frM I K := ⟨fun t a b c => by rw [h2.1 t a b c, h.1 t a b c], fun j hj => by rw [h2.2 j hj, h.2 j hj]⟩
theorem isMd.fr {I I' : Nat → Nat → Int32} {ρ : zR} (h : isMd I ρ) (hf : frM I I') : isMd I' ρ := h.same (fun j hj => hf.2 j (by omega)) (fun r h1 h2 => hf.1 r (by omega) (by omega) (by omega))
theorem MI.fr {I I' : Nat → Nat → Int32} {σ : zS} (h : MI I σ) (hf : frM I I') : MI I' σ :=
  ⟨h.R.fr hf, by rw [hf.2 11 (by decide)]; exact h.ck, h.D.same (hf.2 25 (by decide)) (fun r h1 h2 => hf.1 r (by omega) (by omega) (by omega)), fun k hk => (h.S k hk).same (hf.1 98 (by decide) (by decide) (by decide)) (hf.1 99 (by decide) (by decide) (by decide)) (hf.1 100 (by decide) (by decide) (by decide)), by rw [hf.2 0 (by decide)]; exact h.f, by rw [hf.2 33 (by decide)]; exact h.t⟩
theorem cb0_mono {t a : Nat} : ∀ b, cb0 t a ≤ cb0 t (a + b)
  | 0 => Nat.le_refl _
  | b + 1 => Nat.le_trans (cb0_mono b) (Nat.le_add_right _ _)
theorem cb0_le (t : Nat) : ∀ n, cb0 t n ≤ n
  | 0 => Nat.le_refl _
  | n + 1 => by have := cb0_le t n; unfold cb0; split <;> omega
theorem cb0_top {A : Nat → Nat} {G k : Nat} : ∀ b, cb0 (mA A G k) (G + b) = cb0 (mA A G k) G
  | 0 => rfl
  | b + 1 => by
    show cb0 (mA A G k) (G + b) + (if (mA A G k).testBit (G + b) then 1 else 0) = _
    rw [cb0_top b, mA_bit, decide_eq_false (by omega)]; rfl
/-- how many of t stand ahead of the i-th by the rule l -/
def cnt (l G t i : Nat) : Nat := if l = 0 then cb0 t i else cb0 t 8 - cb0 t (G - i)
theorem cnt_0 {l G k : Nat} {A : Nat → Nat} (hG : G ≤ 8) : cnt l G (mA A G k) 0 = 0 := by
  unfold cnt
  split
  · rfl
  · have := cb0_top (A := A) (G := G) (k := k) (8 - G)
    rw [show G + (8 - G) = 8 by omega] at this
    rw [this]; exact Nat.sub_self _
theorem cnt_s {l G t i : Nat} (hi : i < G) (hG : G ≤ 8) : cnt l G t (i + 1) = cnt l G t i + (if t.testBit (kst l G i) then 1 else 0) := by
  unfold cnt kst
  by_cases h : l = 0
  · rw [if_pos h, if_pos h, if_pos h]; rfl
  · rw [if_neg h, if_neg h, if_neg h]
    have e : G - i = (G - 1 - i) + 1 := by omega
    have e2 : G - (i + 1) = G - 1 - i := by omega
    have h1 : cb0 t (G - i) = cb0 t (G - 1 - i) + (if t.testBit (G - 1 - i) then 1 else 0) := by rw [e]; rfl
    have h2 := cb0_mono (t := t) (a := G - i) (8 - (G - i))
    rw [show G - i + (8 - (G - i)) = 8 by omega] at h2
    rw [e2]
    omega
theorem cnt_cbr {l G t i : Nat} (hi : i < G) : cbr l t (kst l G i) = cnt l G t i := by
  unfold cbr cnt kst
  by_cases h : l = 0
  · rw [if_pos h, if_pos h, if_pos h]
  · rw [if_neg h, if_neg h, if_neg h, show G - 1 - i + 1 = G - i by omega]
theorem cnt_le {l G t i : Nat} (hi : i ≤ G) (hG : G ≤ 8) : cnt l G t i ≤ 8 := by
  unfold cnt
  have := cb0_le t 8
  have := cb0_le t i
  split <;> omega
set_option maxRecDepth 100000 in
theorem lf_le : ∀ r, r < 32 → ∀ c, c < 16 → (nI r - nI c ≤ 0 ↔ r ≤ c) := by decide +kernel
set_option maxRecDepth 100000 in
theorem lf_dec : ∀ r, r < 32 → ∀ c, c < 16 → nI r - nI c + Int32.ofInt (-1) = nI r - nI (c + 1) := by decide +kernel
def dn (l G i g : Nat) : Bool := if l = 0 then decide (g < i) else decide (G - i ≤ g)
theorem dn_k {l G i : Nat} (hi : i < G) : dn l G i (kst l G i) = false := by
  unfold dn kst
  by_cases h : l = 0
  · rw [if_pos h, if_pos h]; exact decide_eq_false (by omega)
  · rw [if_neg h, if_neg h]; exact decide_eq_false (by omega)
theorem dn_s {l G i : Nat} (hi : i < G) : dn l G (i + 1) (kst l G i) = true := by
  unfold dn kst
  by_cases h : l = 0
  · rw [if_pos h, if_pos h]; exact decide_eq_true (by omega)
  · rw [if_neg h, if_neg h]; exact decide_eq_true (by omega)
theorem dn_o {l G i g : Nat} (hi : i < G) (hg : g ≠ kst l G i) : dn l G (i + 1) g = dn l G i g := by
  unfold dn
  unfold kst at hg
  by_cases h : l = 0
  · rw [if_pos h] at hg; rw [if_pos h, if_pos h, decide_eq_decide]; omega
  · rw [if_neg h] at hg; rw [if_neg h, if_neg h, decide_eq_decide]; omega
theorem dn_0 {l G g : Nat} (hg : g < G) : dn l G 0 g = false := by
  unfold dn
  split <;> exact decide_eq_false (by omega)
theorem dn_G {l G g : Nat} (hg : g < G) : dn l G G g = true := by
  unfold dn
  split <;> exact decide_eq_true (by omega)
set_option maxRecDepth 100000 in
theorem SNWM : ∀ d, d < 10 → ∀ f, f < 6 → (if 0 ≤ nI d + nI f - 2 then (if nI d + nI f - 2 ≤ 9 then nI d + nI f - 2 else 9) else 0) = nI (min 9 (d + f - 2)) := by decide +kernel

set_option maxHeartbeats 4000000 in
set_option maxRecDepth 100000 in
theorem lp2_X7_begin {call : sm_K} {Q : sm_Q} {x : hX} {ρ : zR} {I0 : Nat → Nat → Int32} (hR : isMd I0 ρ) (hw : wfR ρ) (hQ : ∀ I, (∀ k, k < zi ρ → I 94 k = nI (zs ρ k)) → (∀ t, t ≠ 94 → I t = I0 t) → Q none (hp x (sm_up I 80 24 0))) : ∀ (m i : Nat) (I : Nat → Nat → Int32), i + m = zi ρ → (∀ k, k < i → I 94 k = nI (zs ρ k)) → (∀ t, t ≠ 94 → I t = I0 t) → sm_wp call 0 0 MX7_begin Q 30 [.ref 80, .int (nI i)] [] (hp x I) 0 0 := by
  have b6 : zi ρ ≤ 6 := hw.1
  have b8 : zn ρ ≤ 8 := hw.2.1
  have bg : zg ρ ≤ 8 := hw.2.2.1
  have bl : zl ρ ≤ 1 := hw.2.2.2.1
  intro m
  induction m with
  | zero =>
    intro i I hi h1 h2
    have hi : i = zi ρ := by omega
    refine r_s (pc' := 31) dX7_begin_30 rfl rfl ?_
    refine r_s (pc' := 32) dX7_begin_31 rfl rfl ?_
    refine h_gi (pc' := 35) dX7_begin_32 rfl fX7_86 (hl_ rfl) rfl ?_
    refine r_top ((show _ = nI (zi ρ) by rw [h2 _ (by decide)]; exact hR.1)) ?_
    refine r_cge_t (tgt := 56) dX7_begin_35 (by decide) (by rw [hi]; exact Int32.le_refl _) ?_
    refine r_s (pc' := 57) dX7_begin_56 rfl rfl ?_
    refine r_c (pc' := 58) dX7_begin_57 rfl kc_iconst_0 ?_
    refine h_pi (pc' := 61) dX7_begin_58 rfl fX7_179 rfl (hl_ rfl) rfl ?_
    refine r_retv dX7_begin_61 rfl (Nat.le_of_ble_eq_true rfl) (Nat.le_of_ble_eq_true rfl) ?_
    exact hQ I (fun k hk => h1 k (by omega)) h2
  | succ m ih =>
    intro i I hi h1 h2
    refine r_s (pc' := 31) dX7_begin_30 rfl rfl ?_
    refine r_s (pc' := 32) dX7_begin_31 rfl rfl ?_
    refine h_gi (pc' := 35) dX7_begin_32 rfl fX7_86 (hl_ rfl) rfl ?_
    refine r_top ((show _ = nI (zi ρ) by rw [h2 _ (by decide)]; exact hR.1)) ?_
    refine r_cge_f (pc' := 38) (tgt := 56) dX7_begin_35 rfl (by decide) (nI_ge (by omega) (by omega)) ?_
    refine r_s (pc' := 39) dX7_begin_38 rfl rfl ?_
    refine r_gr (pc' := 42) dX7_begin_39 rfl fX7_49 (hl_ rfl) rfl rfl ?_
    refine r_s (pc' := 43) dX7_begin_42 rfl rfl ?_
    refine r_s (pc' := 44) dX7_begin_43 rfl rfl ?_
    refine r_gr (pc' := 47) dX7_begin_44 rfl fX7_13 (hl_ rfl) rfl rfl ?_
    refine r_s (pc' := 48) dX7_begin_47 rfl rfl ?_
    refine h_ald (pc' := 49) dX7_begin_48 rfl (hl_ rfl) rfl (vp_in_nI (by omega) (by decide)) (nI_clamp (by omega)) ?_
    refine r_top ((show _ = nI (zs ρ i) by rw [h2 _ (by decide)]; exact hR.s i (by omega))) ?_
    refine h_ast (pc' := 50) dX7_begin_49 rfl (hl_ rfl) rfl (vp_in_nI (by omega) (by decide)) (nI_clamp (by omega)) ?_
    refine r_in_1_2 (pc' := 53) dX7_begin_50 rfl rfl (i1 _) ?_
    refine r_goto (tgt := 30) dX7_begin_53 (by decide) ?_
    refine ih (i + 1) _ (by omega) (fun k hk => ?_) (fun t ht => by rw [up_o ht]; exact h2 t ht)
    by_cases e : k = i
    · subst e; exact up_s
    · rw [up_n e]; exact h1 k (by omega)

set_option maxHeartbeats 4000000 in
set_option maxRecDepth 100000 in
theorem lp1_X7_begin {call : sm_K} {Q : sm_Q} {x : hX} {ρ : zR} {I0 : Nat → Nat → Int32} (hR : isMd I0 ρ) (hw : wfR ρ) (hQ : ∀ I, (∀ g, g < zg ρ → I 93 g = nI (zh ρ g)) → (∀ k, k < zi ρ → I 94 k = nI (zs ρ k)) → (∀ t, t ≠ 93 → t ≠ 94 → I t = I0 t) → Q none (hp x (sm_up I 80 24 0))) : ∀ (m i : Nat) (I : Nat → Nat → Int32), i + m = zg ρ → (∀ k, k < i → I 93 k = nI (zh ρ k)) → (∀ t, t ≠ 93 → I t = I0 t) → sm_wp call 0 0 MX7_begin Q 2 [.ref 80, .int (nI i)] [] (hp x I) 0 0 := by
  have b6 : zi ρ ≤ 6 := hw.1
  have b8 : zn ρ ≤ 8 := hw.2.1
  have bg : zg ρ ≤ 8 := hw.2.2.1
  have bl : zl ρ ≤ 1 := hw.2.2.2.1
  intro m
  induction m with
  | zero =>
    intro i I hi h1 h2
    have hi : i = zg ρ := by omega
    refine r_s (pc' := 3) dX7_begin_2 rfl rfl ?_
    refine r_s (pc' := 4) dX7_begin_3 rfl rfl ?_
    refine h_gi (pc' := 7) dX7_begin_4 rfl fX7_93 (hl_ rfl) rfl ?_
    refine r_top ((show _ = nI (zg ρ) by rw [h2 _ (by decide)]; exact hR.2.2.1)) ?_
    refine r_cge_t (tgt := 28) dX7_begin_7 (by decide) (by rw [hi]; exact Int32.le_refl _) ?_
    refine r_c (pc' := 29) dX7_begin_28 rfl kc_iconst_0 ?_
    refine r_st_1_2 (pc' := 30) dX7_begin_29 rfl rfl rfl ?_
    exact lp2_X7_begin (I0 := I) (hR.same (fun j _ => by rw [h2 80 (by decide)]) (fun t t1 t2 => h2 t (by omega))) hw (fun I2 a1 a2 => hQ I2 (fun g hg => by rw [a2 93 (by decide)]; exact h1 g (by omega)) a1 (fun t t1 t2 => by rw [a2 t t2, h2 t t1])) (zi ρ) 0 _ (by omega) (fun k hk => absurd hk (by omega)) (fun t _ => rfl)
  | succ m ih =>
    intro i I hi h1 h2
    refine r_s (pc' := 3) dX7_begin_2 rfl rfl ?_
    refine r_s (pc' := 4) dX7_begin_3 rfl rfl ?_
    refine h_gi (pc' := 7) dX7_begin_4 rfl fX7_93 (hl_ rfl) rfl ?_
    refine r_top ((show _ = nI (zg ρ) by rw [h2 _ (by decide)]; exact hR.2.2.1)) ?_
    refine r_cge_f (pc' := 10) (tgt := 28) dX7_begin_7 rfl (by decide) (nI_ge (by omega) (by omega)) ?_
    refine r_s (pc' := 11) dX7_begin_10 rfl rfl ?_
    refine r_gr (pc' := 14) dX7_begin_11 rfl fX7_46 (hl_ rfl) rfl rfl ?_
    refine r_s (pc' := 15) dX7_begin_14 rfl rfl ?_
    refine r_s (pc' := 16) dX7_begin_15 rfl rfl ?_
    refine r_gr (pc' := 19) dX7_begin_16 rfl fX7_25 (hl_ rfl) rfl rfl ?_
    refine r_s (pc' := 20) dX7_begin_19 rfl rfl ?_
    refine h_ald (pc' := 21) dX7_begin_20 rfl (hl_ rfl) rfl (vp_in_nI (by omega) (by decide)) (nI_clamp (by omega)) ?_
    refine r_top ((show _ = nI (zh ρ i) by rw [h2 _ (by decide)]; exact hR.h i (by omega))) ?_
    refine h_ast (pc' := 22) dX7_begin_21 rfl (hl_ rfl) rfl (vp_in_nI (by omega) (by decide)) (nI_clamp (by omega)) ?_
    refine r_in_1_2 (pc' := 25) dX7_begin_22 rfl rfl (i1 _) ?_
    refine r_goto (tgt := 2) dX7_begin_25 (by decide) ?_
    refine ih (i + 1) _ (by omega) (fun k hk => ?_) (fun t ht => by rw [up_o ht]; exact h2 t ht)
    by_cases e : k = i
    · subst e; exact up_s
    · rw [up_n e]; exact h1 k (by omega)

set_option maxHeartbeats 4000000 in
set_option maxRecDepth 100000 in
theorem ct_X7_begin {d : Nat} {x : hX} {I : Nat → Nat → Int32} {ρ : zR} (hR : isMd I ρ) (hw : wfR ρ) : cv (d + 1) MX7_begin [.ref 80] (hp x I) (fun h' => ∃ I', h' = hp x I' ∧ MR I' ρ (bgn ρ) ∧ frM I I') := by
  refine c_in (L := [.ref 80, .null]) rfl rfl ?_
  refine r_c (pc' := 1) dX7_begin_0 rfl kc_iconst_0 ?_
  refine r_st_1_2 (pc' := 2) dX7_begin_1 rfl rfl rfl ?_
  exact lp1_X7_begin (I0 := I) hR hw (fun I1 a1 a2 a3 => ⟨rfl, _, rfl, ⟨fun g hg => by rw [up_o (by decide)]; exact a1 g hg, fun k hk => by rw [up_o (by decide)]; exact a2 k hk, up_s⟩, fun t t1 t2 t3 => by rw [up_o t3]; exact a3 t t1 t2, fun j hj => by rw [up_n hj, a3 80 (by decide) (by decide)]⟩) (zg ρ) 0 _ (by omega) (fun k hk => absurd hk (by omega)) (fun t _ => rfl)

set_option maxHeartbeats 4000000 in
set_option maxRecDepth 100000 in
theorem lp_X7_passOn {call : sm_K} {Q : sm_Q} {x : hX} {ρ : zR} {I0 : Nat → Nat → Int32} (hR : isMd I0 ρ) (hw : wfR ρ) {k to r : Nat} {A : Nat → Nat} (hk6 : k < zi ρ) (hr32 : r < 32) (hA : ∀ g, g < zg ρ → A g ≤ zi ρ) (hQ : ∀ I, (∀ g, g < zg ρ → I 93 g = nI (psk (zl ρ) (zg ρ) k to r A g)) → (∀ t, t ≠ 93 → I t = I0 t) → Q none (hp x I)) : ∀ (m i : Nat) (v5 : Value) (I : Nat → Nat → Int32), i + m = zg ρ → (∀ g, g < zg ρ → I 93 g = nI (if dn (zl ρ) (zg ρ) i g then psk (zl ρ) (zg ρ) k to r A g else A g)) → (∀ t, t ≠ 93 → I t = I0 t) → sm_wp call 0 0 MX7_passOn Q 15 [.ref 80, .int (nI k), .int (nI to), .int (nI r - nI (cnt (zl ρ) (zg ρ) (mA A (zg ρ) k) i)), .int (nI i), v5] [] (hp x I) 0 0 := by
  have b6 : zi ρ ≤ 6 := hw.1
  have b8 : zn ρ ≤ 8 := hw.2.1
  have bg : zg ρ ≤ 8 := hw.2.2.1
  have bl : zl ρ ≤ 1 := hw.2.2.2.1
  intro m
  induction m with
  | zero =>
    intro i v5 I hi h1 h2
    have hi : i = zg ρ := by omega
    refine r_s (pc' := 17) dX7_passOn_15 rfl rfl ?_
    refine r_s (pc' := 18) dX7_passOn_17 rfl rfl ?_
    refine h_gi (pc' := 21) dX7_passOn_18 rfl fX7_93 (hl_ rfl) rfl ?_
    refine r_top ((show _ = nI (zg ρ) by rw [h2 _ (by decide)]; exact hR.2.2.1)) ?_
    refine r_cge_t (tgt := 83) dX7_passOn_21 (by decide) (by rw [hi]; exact Int32.le_refl _) ?_
    refine r_retv dX7_passOn_83 rfl (Nat.le_of_ble_eq_true rfl) (Nat.le_of_ble_eq_true rfl) ?_
    exact hQ I (fun g hg => by rw [h1 g hg, hi, dn_G hg]; rfl) h2
  | succ m ih =>
    intro i v5 I hi h1 h2
    have hig : i < zg ρ := by omega
    have hk := kst_lt (w := zl ρ) hig
    have hAk := hA _ hk
    have hc16 : cnt (zl ρ) (zg ρ) (mA A (zg ρ) k) i < 16 := by have := cnt_le (l := zl ρ) (t := (mA A (zg ρ) k)) (Nat.le_of_lt hig) bg; omega
    refine r_s (pc' := 17) dX7_passOn_15 rfl rfl ?_
    refine r_s (pc' := 18) dX7_passOn_17 rfl rfl ?_
    refine h_gi (pc' := 21) dX7_passOn_18 rfl fX7_93 (hl_ rfl) rfl ?_
    refine r_top ((show _ = nI (zg ρ) by rw [h2 _ (by decide)]; exact hR.2.2.1)) ?_
    refine r_cge_f (pc' := 24) (tgt := 83) dX7_passOn_21 rfl (by decide) (nI_ge (by omega) (by omega)) ?_
    refine r_s (pc' := 25) dX7_passOn_24 rfl rfl ?_
    refine h_gi (pc' := 28) dX7_passOn_25 rfl fX7_153 (hl_ rfl) rfl ?_
    refine r_top ((show _ = nI (zl ρ) by rw [h2 _ (by decide)]; exact hR.2.2.2.1)) ?_
    refine r_ifne (pc' := 31) (tgt := 36) dX7_passOn_28 rfl (by decide) (fun c28 => ?_) (fun c28 => ?_)
    · refine r_s (pc' := 37) dX7_passOn_36 rfl rfl ?_
      refine h_gi (pc' := 40) dX7_passOn_37 rfl fX7_93 (hl_ rfl) rfl ?_
      refine r_top ((show _ = nI (zg ρ) by rw [h2 _ (by decide)]; exact hR.2.2.1)) ?_
      refine r_c (pc' := 41) dX7_passOn_40 rfl kc_iconst_1 ?_
      refine r_s (pc' := 42) dX7_passOn_41 rfl rfl ?_
      refine r_top ((pk_sub (by omega) : nI (zg ρ) - nI 1 = nI (zg ρ - 1))) ?_
      refine r_s (pc' := 44) dX7_passOn_42 rfl rfl ?_
      refine r_s (pc' := 45) dX7_passOn_44 rfl rfl ?_
      refine r_top (pk_sub (by omega)) ?_
      refine r_top (show _ = nI (kst (zl ρ) (zg ρ) i) from by rw [kst, if_neg (fun e => c28 (by rw [e]; rfl))]) ?_
      refine r_st_5_6 (pc' := 47) dX7_passOn_45 rfl rfl rfl ?_
      refine r_s (pc' := 48) dX7_passOn_47 rfl rfl ?_
      refine r_gr (pc' := 51) dX7_passOn_48 rfl fX7_46 (hl_ rfl) rfl rfl ?_
      refine r_s (pc' := 53) dX7_passOn_51 rfl rfl ?_
      refine h_ald (pc' := 54) dX7_passOn_53 rfl (hl_ rfl) rfl (vp_in_nI (by omega) (by decide)) (nI_clamp (by omega)) ?_
      refine r_top ((show _ = nI (A (kst (zl ρ) (zg ρ) i)) by rw [h1 _ hk, dn_k hig]; rfl)) ?_
      refine r_s (pc' := 55) dX7_passOn_54 rfl rfl ?_
      refine r_cne (pc' := 58) (tgt := 77) dX7_passOn_55 rfl (by decide) (fun c55 => ?_) (fun c55 => ?_)
      · refine r_in_4_6 (pc' := 80) dX7_passOn_77 rfl rfl (i1 _) ?_
        refine r_goto (tgt := 15) dX7_passOn_80 (by decide) ?_
        have e1 : ¬ A (kst (zl ρ) (zg ρ) i) = k := fun e => c55 (by rw [e])
        have ec : cnt (zl ρ) (zg ρ) (mA A (zg ρ) k) (i + 1) = cnt (zl ρ) (zg ρ) (mA A (zg ρ) k) i := by rw [cnt_s hig bg, mA_bit, decide_eq_false e1, Bool.and_false]; rfl
        have hr := ih (i + 1) (.int (nI (kst (zl ρ) (zg ρ) i))) I (by omega) (fun g hg => ?_) h2
        · rw [ec] at hr; exact hr
        · by_cases e : g = kst (zl ρ) (zg ρ) i
          · subst e; rw [h1 _ hg, dn_k hig, dn_s hig]; exact congrArg nI (show A (kst (zl ρ) (zg ρ) i) = psk _ _ _ _ _ _ _ by unfold psk; rw [if_neg (fun q => e1 q.2)])
          · rw [h1 g hg, dn_o hig e]
      · refine r_s (pc' := 59) dX7_passOn_58 rfl rfl ?_
        refine r_gr (pc' := 62) dX7_passOn_59 rfl fX7_46 (hl_ rfl) rfl rfl ?_
        refine r_s (pc' := 64) dX7_passOn_62 rfl rfl ?_
        refine r_s (pc' := 65) dX7_passOn_64 rfl rfl ?_
        refine r_ifle (pc' := 68) (tgt := 72) dX7_passOn_65 rfl (by decide) (fun c65 => ?_) (fun c65 => ?_)
        · refine r_s (pc' := 73) dX7_passOn_72 rfl rfl ?_
          refine h_ast (pc' := 74) dX7_passOn_73 rfl (hl_ rfl) rfl (vp_in_nI (by omega) (by decide)) (nI_clamp (by omega)) ?_
          refine r_in_3_6 (pc' := 77) dX7_passOn_74 rfl rfl (lf_dec r hr32 _ hc16) ?_
          refine r_in_4_6 (pc' := 80) dX7_passOn_77 rfl rfl (i1 _) ?_
          refine r_goto (tgt := 15) dX7_passOn_80 (by decide) ?_
          have e1 : A (kst (zl ρ) (zg ρ) i) = k := (nI_eq (by omega) (by omega)).mp c55
          have ec : cnt (zl ρ) (zg ρ) (mA A (zg ρ) k) (i + 1) = cnt (zl ρ) (zg ρ) (mA A (zg ρ) k) i + 1 := by rw [cnt_s hig bg, mA_bit, decide_eq_true e1, decide_eq_true hk]; rfl
          have hr := ih (i + 1) (.int (nI (kst (zl ρ) (zg ρ) i))) (sm_up I 93 (kst (zl ρ) (zg ρ) i) (nI to)) (by omega) (fun g hg => ?_) (fun t ht => by rw [up_o ht]; exact h2 t ht)
          · rw [ec] at hr; exact hr
          · by_cases e : g = kst (zl ρ) (zg ρ) i
            · subst e; rw [up_s, dn_s hig]; exact congrArg nI (show _ = psk _ _ _ _ _ _ _ by unfold psk; rw [if_pos ⟨hg, e1⟩, cnt_cbr hig, if_neg (Nat.not_lt.mpr ((lf_le r hr32 _ hc16).mp c65))])
            · rw [up_n e, h1 g hg, dn_o hig e]
        · refine r_s (pc' := 69) dX7_passOn_68 rfl rfl ?_
          refine r_goto (tgt := 73) dX7_passOn_69 (by decide) ?_
          refine h_ast (pc' := 74) dX7_passOn_73 rfl (hl_ rfl) rfl (vp_in_nI (by omega) (by decide)) (nI_clamp (by omega)) ?_
          refine r_in_3_6 (pc' := 77) dX7_passOn_74 rfl rfl (lf_dec r hr32 _ hc16) ?_
          refine r_in_4_6 (pc' := 80) dX7_passOn_77 rfl rfl (i1 _) ?_
          refine r_goto (tgt := 15) dX7_passOn_80 (by decide) ?_
          have e1 : A (kst (zl ρ) (zg ρ) i) = k := (nI_eq (by omega) (by omega)).mp c55
          have ec : cnt (zl ρ) (zg ρ) (mA A (zg ρ) k) (i + 1) = cnt (zl ρ) (zg ρ) (mA A (zg ρ) k) i + 1 := by rw [cnt_s hig bg, mA_bit, decide_eq_true e1, decide_eq_true hk]; rfl
          have hr := ih (i + 1) (.int (nI (kst (zl ρ) (zg ρ) i))) (sm_up I 93 (kst (zl ρ) (zg ρ) i) (nI k)) (by omega) (fun g hg => ?_) (fun t ht => by rw [up_o ht]; exact h2 t ht)
          · rw [ec] at hr; exact hr
          · by_cases e : g = kst (zl ρ) (zg ρ) i
            · subst e; rw [up_s, dn_s hig]; exact congrArg nI (show _ = psk _ _ _ _ _ _ _ by unfold psk; rw [if_pos ⟨hg, e1⟩, cnt_cbr hig, if_pos (Nat.lt_of_not_le (fun e => c65 ((lf_le r hr32 _ hc16).mpr e)))])
            · rw [up_n e, h1 g hg, dn_o hig e]
    · refine r_s (pc' := 33) dX7_passOn_31 rfl rfl ?_
      refine r_goto (tgt := 45) dX7_passOn_33 (by decide) ?_
      refine r_top (show _ = nI (kst (zl ρ) (zg ρ) i) from by rw [kst, if_pos ((nI_eq (by omega) (by decide)).mp c28)]) ?_
      refine r_st_5_6 (pc' := 47) dX7_passOn_45 rfl rfl rfl ?_
      refine r_s (pc' := 48) dX7_passOn_47 rfl rfl ?_
      refine r_gr (pc' := 51) dX7_passOn_48 rfl fX7_46 (hl_ rfl) rfl rfl ?_
      refine r_s (pc' := 53) dX7_passOn_51 rfl rfl ?_
      refine h_ald (pc' := 54) dX7_passOn_53 rfl (hl_ rfl) rfl (vp_in_nI (by omega) (by decide)) (nI_clamp (by omega)) ?_
      refine r_top ((show _ = nI (A (kst (zl ρ) (zg ρ) i)) by rw [h1 _ hk, dn_k hig]; rfl)) ?_
      refine r_s (pc' := 55) dX7_passOn_54 rfl rfl ?_
      refine r_cne (pc' := 58) (tgt := 77) dX7_passOn_55 rfl (by decide) (fun c55 => ?_) (fun c55 => ?_)
      · refine r_in_4_6 (pc' := 80) dX7_passOn_77 rfl rfl (i1 _) ?_
        refine r_goto (tgt := 15) dX7_passOn_80 (by decide) ?_
        have e1 : ¬ A (kst (zl ρ) (zg ρ) i) = k := fun e => c55 (by rw [e])
        have ec : cnt (zl ρ) (zg ρ) (mA A (zg ρ) k) (i + 1) = cnt (zl ρ) (zg ρ) (mA A (zg ρ) k) i := by rw [cnt_s hig bg, mA_bit, decide_eq_false e1, Bool.and_false]; rfl
        have hr := ih (i + 1) (.int (nI (kst (zl ρ) (zg ρ) i))) I (by omega) (fun g hg => ?_) h2
        · rw [ec] at hr; exact hr
        · by_cases e : g = kst (zl ρ) (zg ρ) i
          · subst e; rw [h1 _ hg, dn_k hig, dn_s hig]; exact congrArg nI (show A (kst (zl ρ) (zg ρ) i) = psk _ _ _ _ _ _ _ by unfold psk; rw [if_neg (fun q => e1 q.2)])
          · rw [h1 g hg, dn_o hig e]
      · refine r_s (pc' := 59) dX7_passOn_58 rfl rfl ?_
        refine r_gr (pc' := 62) dX7_passOn_59 rfl fX7_46 (hl_ rfl) rfl rfl ?_
        refine r_s (pc' := 64) dX7_passOn_62 rfl rfl ?_
        refine r_s (pc' := 65) dX7_passOn_64 rfl rfl ?_
        refine r_ifle (pc' := 68) (tgt := 72) dX7_passOn_65 rfl (by decide) (fun c65 => ?_) (fun c65 => ?_)
        · refine r_s (pc' := 73) dX7_passOn_72 rfl rfl ?_
          refine h_ast (pc' := 74) dX7_passOn_73 rfl (hl_ rfl) rfl (vp_in_nI (by omega) (by decide)) (nI_clamp (by omega)) ?_
          refine r_in_3_6 (pc' := 77) dX7_passOn_74 rfl rfl (lf_dec r hr32 _ hc16) ?_
          refine r_in_4_6 (pc' := 80) dX7_passOn_77 rfl rfl (i1 _) ?_
          refine r_goto (tgt := 15) dX7_passOn_80 (by decide) ?_
          have e1 : A (kst (zl ρ) (zg ρ) i) = k := (nI_eq (by omega) (by omega)).mp c55
          have ec : cnt (zl ρ) (zg ρ) (mA A (zg ρ) k) (i + 1) = cnt (zl ρ) (zg ρ) (mA A (zg ρ) k) i + 1 := by rw [cnt_s hig bg, mA_bit, decide_eq_true e1, decide_eq_true hk]; rfl
          have hr := ih (i + 1) (.int (nI (kst (zl ρ) (zg ρ) i))) (sm_up I 93 (kst (zl ρ) (zg ρ) i) (nI to)) (by omega) (fun g hg => ?_) (fun t ht => by rw [up_o ht]; exact h2 t ht)
          · rw [ec] at hr; exact hr
          · by_cases e : g = kst (zl ρ) (zg ρ) i
            · subst e; rw [up_s, dn_s hig]; exact congrArg nI (show _ = psk _ _ _ _ _ _ _ by unfold psk; rw [if_pos ⟨hg, e1⟩, cnt_cbr hig, if_neg (Nat.not_lt.mpr ((lf_le r hr32 _ hc16).mp c65))])
            · rw [up_n e, h1 g hg, dn_o hig e]
        · refine r_s (pc' := 69) dX7_passOn_68 rfl rfl ?_
          refine r_goto (tgt := 73) dX7_passOn_69 (by decide) ?_
          refine h_ast (pc' := 74) dX7_passOn_73 rfl (hl_ rfl) rfl (vp_in_nI (by omega) (by decide)) (nI_clamp (by omega)) ?_
          refine r_in_3_6 (pc' := 77) dX7_passOn_74 rfl rfl (lf_dec r hr32 _ hc16) ?_
          refine r_in_4_6 (pc' := 80) dX7_passOn_77 rfl rfl (i1 _) ?_
          refine r_goto (tgt := 15) dX7_passOn_80 (by decide) ?_
          have e1 : A (kst (zl ρ) (zg ρ) i) = k := (nI_eq (by omega) (by omega)).mp c55
          have ec : cnt (zl ρ) (zg ρ) (mA A (zg ρ) k) (i + 1) = cnt (zl ρ) (zg ρ) (mA A (zg ρ) k) i + 1 := by rw [cnt_s hig bg, mA_bit, decide_eq_true e1, decide_eq_true hk]; rfl
          have hr := ih (i + 1) (.int (nI (kst (zl ρ) (zg ρ) i))) (sm_up I 93 (kst (zl ρ) (zg ρ) i) (nI k)) (by omega) (fun g hg => ?_) (fun t ht => by rw [up_o ht]; exact h2 t ht)
          · rw [ec] at hr; exact hr
          · by_cases e : g = kst (zl ρ) (zg ρ) i
            · subst e; rw [up_s, dn_s hig]; exact congrArg nI (show _ = psk _ _ _ _ _ _ _ by unfold psk; rw [if_pos ⟨hg, e1⟩, cnt_cbr hig, if_pos (Nat.lt_of_not_le (fun e => c65 ((lf_le r hr32 _ hc16).mpr e)))])
            · rw [up_n e, h1 g hg, dn_o hig e]

set_option maxHeartbeats 4000000 in
set_option maxRecDepth 100000 in
theorem ct_X7_passOn {d : Nat} {x : hX} {I : Nat → Nat → Int32} {ρ : zR} (hR : isMd I ρ) (hw : wfR ρ) {k to dk rm : Nat} {A : Nat → Nat} (hk6 : k < zi ρ) (hrm : I 80 11 = rmI rm) (hD : I 94 k = nI dk) (hdk : dk ≤ 9) (hA1 : ∀ g, g < zg ρ → I 93 g = nI (A g)) (hA : ∀ g, g < zg ρ → A g ≤ zi ρ) : cv (d + 2) MX7_passOn [.ref 80, .int (nI k), .int (nI to)] (hp x I) (fun h' => ∃ I', h' = hp x I' ∧ (∀ g, g < zg ρ → I' 93 g = nI (psk (zl ρ) (zg ρ) k to (keeps (zk ρ k) dk + rmB rm k) A g)) ∧ (∀ t, t ≠ 93 → I' t = I t)) := by
  have b6 : zi ρ ≤ 6 := hw.1
  have b8 : zn ρ ≤ 8 := hw.2.1
  have bg : zg ρ ≤ 8 := hw.2.2.1
  have bl : zl ρ ≤ 1 := hw.2.2.2.1
  refine c_in (L := [.ref 80, .int (nI k), .int (nI to), .null, .null, .null]) rfl rfl ?_
  refine r_s (pc' := 1) dX7_passOn_0 rfl rfl ?_
  refine r_s (pc' := 2) dX7_passOn_1 rfl rfl ?_
  refine r_s (pc' := 3) dX7_passOn_2 rfl rfl ?_
  refine r_gr (pc' := 6) dX7_passOn_3 rfl fX7_49 (hl_ rfl) rfl rfl ?_
  refine r_s (pc' := 7) dX7_passOn_6 rfl rfl ?_
  refine h_ald (pc' := 8) dX7_passOn_7 rfl (hl_ rfl) rfl (vp_in_nI (by omega) (by decide)) (nI_clamp (by omega)) ?_
  refine r_top (hD) ?_
  refine r_Vi2 (pc' := 11) dX7_passOn_8 rfl lX7_162 (hl_ rfl) rfl rfl rfl rfl (Nat.le_of_ble_eq_true rfl) (Nat.le_of_ble_eq_true rfl) (ct_X7_keepsBy (rm := rm) (kd := zk ρ k) (by omega) (hR.k k hk6) (by have := hw.kd hk6; omega) hrm) (fun r8 h8 e8 => ?_)
  obtain ⟨rfl, rfl⟩ := e8
  refine r_st_3_6 (pc' := 12) dX7_passOn_11 rfl rfl rfl ?_
  refine r_c (pc' := 13) dX7_passOn_12 rfl kc_iconst_0 ?_
  refine r_st_4_6 (pc' := 15) dX7_passOn_13 rfl rfl rfl ?_
  have hr32 : keeps (zk ρ k) dk + rmB rm k < 32 := by unfold keeps rmB; split <;> (try split) <;> (try split) <;> omega
  have hl := lp_X7_passOn (call := sm_c (d + 1)) (Q := qv (fun h' => ∃ I', h' = hp x I' ∧ (∀ g, g < zg ρ → I' 93 g = nI (psk (zl ρ) (zg ρ) k to (keeps (zk ρ k) dk + rmB rm k) A g)) ∧ (∀ t, t ≠ 93 → I' t = I t))) (x := x) (I0 := I) hR hw (to := to) hk6 hr32 hA (fun I1 a1 a2 => ⟨rfl, I1, rfl, a1, a2⟩) (zg ρ) 0 .null I (by omega) (fun g hg => by rw [dn_0 hg]; exact hA1 g hg) (fun t _ => rfl)
  rw [cnt_0 bg, show nI (keeps (zk ρ k) dk + rmB rm k) - nI 0 = nI (keeps (zk ρ k) dk + rmB rm k) from Int32.sub_zero _] at hl
  exact hl

theorem gtn_lt {w z : Nat} (h : 0 < z) : gtn w z < z := by unfold gtn; split <;> omega

set_option maxHeartbeats 4000000 in
set_option maxRecDepth 100000 in
theorem lpC_X7_goNight {d : Nat} {Q : sm_Q} {x : hX} {ρ : zR} {I0 : Nat → Nat → Int32} (hR : isMd I0 ρ) (hw : wfR ρ) {n rm : Nat} {S : zN} (hn : n < zn ρ) (hrm : I0 80 11 = rmI rm) (hok : okN ρ S) (hz : 0 < zi ρ) (hD : ∀ k, k < zi ρ → I0 94 k = nI (snw (zf ρ n) S.2.1 k)) (hgt : I0 80 24 = nI (gtn (zw ρ n) (zi ρ))) (hA0 : ∀ g, g < zg ρ → bck (zi ρ) S.2.2 S.1 g ≤ zi ρ) (hQ : ∀ I, (∀ g, g < zg ρ → I 93 g = nI (stp (zl ρ) (zg ρ) (zw ρ n) (zi ρ) (rom ρ rm (snw (zf ρ n) S.2.1)) (bck (zi ρ) S.2.2 S.1) (zi ρ) g)) → (∀ t, t ≠ 93 → I t = I0 t) → Q none (hp x I)) : ∀ (m i : Nat) (v3 v4 : Value) (I : Nat → Nat → Int32), i + m = zi ρ → (∀ g, g < zg ρ → I 93 g = nI (stp (zl ρ) (zg ρ) (zw ρ n) (zi ρ) (rom ρ rm (snw (zf ρ n) S.2.1)) (bck (zi ρ) S.2.2 S.1) i g)) → (∀ t, t ≠ 93 → I t = I0 t) → sm_wp (sm_c (d + 2)) 0 0 MX7_goNight Q 131 [.ref 80, .int (nI n), .int (nI i), v3, v4] [] (hp x I) 0 0 := by
  have b6 : zi ρ ≤ 6 := hw.1
  have b8 : zn ρ ≤ 8 := hw.2.1
  have bg : zg ρ ≤ 8 := hw.2.2.1
  have bl : zl ρ ≤ 1 := hw.2.2.2.1
  intro m
  induction m with
  | zero =>
    intro i v3 v4 I hi h1 h2
    have hi : i = zi ρ := by omega
    refine r_s (pc' := 132) dX7_goNight_131 rfl rfl ?_
    refine r_s (pc' := 133) dX7_goNight_132 rfl rfl ?_
    refine h_gi (pc' := 136) dX7_goNight_133 rfl fX7_86 (hl_ rfl) rfl ?_
    refine r_top ((show _ = nI (zi ρ) by rw [h2 _ (by decide)]; exact hR.1)) ?_
    refine r_cge_t (tgt := 209) dX7_goNight_136 (by decide) (by rw [hi]; exact Int32.le_refl _) ?_
    refine r_retv dX7_goNight_209 rfl (Nat.le_of_ble_eq_true rfl) (Nat.le_of_ble_eq_true rfl) ?_
    rw [hi] at h1; exact hQ I h1 h2
  | succ m ih =>
    intro i v3 v4 I hi h1 h2
    have hk6 := kst_lt (w := zw ρ n) (show i < zi ρ by omega)
    rcases (show zw ρ n = 0 ∨ zw ρ n = 1 by have := hw.w1 hn; omega) with hw01 | hw01
    · refine r_s (pc' := 132) dX7_goNight_131 rfl rfl ?_
      refine r_s (pc' := 133) dX7_goNight_132 rfl rfl ?_
      refine h_gi (pc' := 136) dX7_goNight_133 rfl fX7_86 (hl_ rfl) rfl ?_
      refine r_top ((show _ = nI (zi ρ) by rw [h2 _ (by decide)]; exact hR.1)) ?_
      refine r_cge_f (pc' := 139) (tgt := 209) dX7_goNight_136 rfl (by decide) (nI_ge (by omega) (by omega)) ?_
      refine r_s (pc' := 140) dX7_goNight_139 rfl rfl ?_
      refine r_gr (pc' := 143) dX7_goNight_140 rfl fX7_16 (hl_ rfl) rfl rfl ?_
      refine r_s (pc' := 144) dX7_goNight_143 rfl rfl ?_
      refine h_ald (pc' := 145) dX7_goNight_144 rfl (hl_ rfl) rfl (vp_in_nI (by omega) (by decide)) (nI_clamp (by omega)) ?_
      refine r_top ((show _ = nI 0 by rw [h2 _ (by decide), hR.w n hn, hw01])) ?_
      refine r_ifne_f (pc' := 148) (tgt := 152) dX7_goNight_145 rfl (by decide) (by decide) ?_
      refine r_s (pc' := 149) dX7_goNight_148 rfl rfl ?_
      refine r_goto (tgt := 160) dX7_goNight_149 (by decide) ?_
      refine r_top (show _ = nI (kst (zw ρ n) (zi ρ) i) from by rw [kst, if_pos hw01]) ?_
      refine r_st_3_5 (pc' := 161) dX7_goNight_160 rfl rfl rfl ?_
      refine r_s (pc' := 162) dX7_goNight_161 rfl rfl ?_
      refine r_gr (pc' := 165) dX7_goNight_162 rfl fX7_16 (hl_ rfl) rfl rfl ?_
      refine r_s (pc' := 166) dX7_goNight_165 rfl rfl ?_
      refine h_ald (pc' := 167) dX7_goNight_166 rfl (hl_ rfl) rfl (vp_in_nI (by omega) (by decide)) (nI_clamp (by omega)) ?_
      refine r_top ((show _ = nI 0 by rw [h2 _ (by decide), hR.w n hn, hw01])) ?_
      refine r_ifne_f (pc' := 170) (tgt := 176) dX7_goNight_167 rfl (by decide) (by decide) ?_
      refine r_s (pc' := 171) dX7_goNight_170 rfl rfl ?_
      refine r_c (pc' := 172) dX7_goNight_171 rfl kc_iconst_1 ?_
      refine r_s (pc' := 173) dX7_goNight_172 rfl rfl ?_
      refine r_top (nI_1 _) ?_
      refine r_goto (tgt := 179) dX7_goNight_173 (by decide) ?_
      refine r_st_4_5 (pc' := 181) dX7_goNight_179 rfl rfl rfl ?_
      refine r_s (pc' := 182) dX7_goNight_181 rfl rfl ?_
      refine r_s (pc' := 183) dX7_goNight_182 rfl rfl ?_
      refine r_s (pc' := 184) dX7_goNight_183 rfl rfl ?_
      refine r_s (pc' := 185) dX7_goNight_184 rfl rfl ?_
      refine h_gi (pc' := 188) dX7_goNight_185 rfl fX7_179 (hl_ rfl) rfl ?_
      refine r_top ((show _ = nI (gtn (zw ρ n) (zi ρ)) by rw [h2 _ (by decide)]; exact hgt)) ?_
      refine r_cne (pc' := 191) (tgt := 198) dX7_goNight_188 rfl (by decide) (fun c188 => ?_) (fun c188 => ?_)
      · refine r_s (pc' := 200) dX7_goNight_198 rfl rfl ?_
        refine r_top (show _ = nI (tos (zw ρ n) (zi ρ) (kst (zw ρ n) (zi ρ) i)) from by rw [tos, if_neg (fun e => c188 (by rw [e])), if_pos hw01]) ?_
        refine r_Vv2 (pc' := 203) dX7_goNight_200 rfl lX7_182 (hl_ rfl) rfl rfl rfl rfl (Nat.le_of_ble_eq_true rfl) (Nat.le_of_ble_eq_true rfl) (ct_X7_passOn (rm := rm) (dk := snw (zf ρ n) S.2.1 (kst (zw ρ n) (zi ρ) i)) (A := stp (zl ρ) (zg ρ) (zw ρ n) (zi ρ) (rom ρ rm (snw (zf ρ n) S.2.1)) (bck (zi ρ) S.2.2 S.1) i) (hR.same (fun j _ => by rw [h2 80 (by decide)]) (fun t t1 t2 => h2 t (by omega))) hw hk6 (show _ = rmI rm by rw [h2 _ (by decide)]; exact hrm) (show _ = nI _ by rw [h2 _ (by decide)]; exact hD _ hk6) (Nat.min_le_left _ _) h1 (stp_le hA0 i (by omega))) (fun h200 e200 => ?_)
        obtain ⟨I1, rfl, a1, a2⟩ := e200
        refine r_in_2_5 (pc' := 206) dX7_goNight_203 rfl rfl (i1 _) ?_
        refine r_goto (tgt := 131) dX7_goNight_206 (by decide) ?_
        exact ih (i + 1) _ _ I1 (by omega) a1 (fun t ht => by rw [a2 t ht]; exact h2 t ht)
      · refine r_s (pc' := 192) dX7_goNight_191 rfl rfl ?_
        refine h_gi (pc' := 195) dX7_goNight_192 rfl fX7_86 (hl_ rfl) rfl ?_
        refine r_top ((show _ = nI (zi ρ) by rw [h2 _ (by decide)]; exact hR.1)) ?_
        refine r_goto (tgt := 200) dX7_goNight_195 (by decide) ?_
        refine r_top (show _ = nI (tos (zw ρ n) (zi ρ) (kst (zw ρ n) (zi ρ) i)) from by rw [tos, if_pos ((nI_eq (by omega) (by have := gtn_lt (w := zw ρ n) hz; omega)).mp c188)]) ?_
        refine r_Vv2 (pc' := 203) dX7_goNight_200 rfl lX7_182 (hl_ rfl) rfl rfl rfl rfl (Nat.le_of_ble_eq_true rfl) (Nat.le_of_ble_eq_true rfl) (ct_X7_passOn (rm := rm) (dk := snw (zf ρ n) S.2.1 (kst (zw ρ n) (zi ρ) i)) (A := stp (zl ρ) (zg ρ) (zw ρ n) (zi ρ) (rom ρ rm (snw (zf ρ n) S.2.1)) (bck (zi ρ) S.2.2 S.1) i) (hR.same (fun j _ => by rw [h2 80 (by decide)]) (fun t t1 t2 => h2 t (by omega))) hw hk6 (show _ = rmI rm by rw [h2 _ (by decide)]; exact hrm) (show _ = nI _ by rw [h2 _ (by decide)]; exact hD _ hk6) (Nat.min_le_left _ _) h1 (stp_le hA0 i (by omega))) (fun h200 e200 => ?_)
        obtain ⟨I1, rfl, a1, a2⟩ := e200
        refine r_in_2_5 (pc' := 206) dX7_goNight_203 rfl rfl (i1 _) ?_
        refine r_goto (tgt := 131) dX7_goNight_206 (by decide) ?_
        exact ih (i + 1) _ _ I1 (by omega) a1 (fun t ht => by rw [a2 t ht]; exact h2 t ht)
    · refine r_s (pc' := 132) dX7_goNight_131 rfl rfl ?_
      refine r_s (pc' := 133) dX7_goNight_132 rfl rfl ?_
      refine h_gi (pc' := 136) dX7_goNight_133 rfl fX7_86 (hl_ rfl) rfl ?_
      refine r_top ((show _ = nI (zi ρ) by rw [h2 _ (by decide)]; exact hR.1)) ?_
      refine r_cge_f (pc' := 139) (tgt := 209) dX7_goNight_136 rfl (by decide) (nI_ge (by omega) (by omega)) ?_
      refine r_s (pc' := 140) dX7_goNight_139 rfl rfl ?_
      refine r_gr (pc' := 143) dX7_goNight_140 rfl fX7_16 (hl_ rfl) rfl rfl ?_
      refine r_s (pc' := 144) dX7_goNight_143 rfl rfl ?_
      refine h_ald (pc' := 145) dX7_goNight_144 rfl (hl_ rfl) rfl (vp_in_nI (by omega) (by decide)) (nI_clamp (by omega)) ?_
      refine r_top ((show _ = nI 1 by rw [h2 _ (by decide), hR.w n hn, hw01])) ?_
      refine r_ifne_t (tgt := 152) dX7_goNight_145 (by decide) (by decide) ?_
      refine r_s (pc' := 153) dX7_goNight_152 rfl rfl ?_
      refine h_gi (pc' := 156) dX7_goNight_153 rfl fX7_86 (hl_ rfl) rfl ?_
      refine r_top ((show _ = nI (zi ρ) by rw [h2 _ (by decide)]; exact hR.1)) ?_
      refine r_c (pc' := 157) dX7_goNight_156 rfl kc_iconst_1 ?_
      refine r_s (pc' := 158) dX7_goNight_157 rfl rfl ?_
      refine r_top ((pk_sub (by omega) : nI (zi ρ) - nI 1 = nI (zi ρ - 1))) ?_
      refine r_s (pc' := 159) dX7_goNight_158 rfl rfl ?_
      refine r_s (pc' := 160) dX7_goNight_159 rfl rfl ?_
      refine r_top (pk_sub (by omega)) ?_
      refine r_top (show _ = nI (kst (zw ρ n) (zi ρ) i) from by rw [kst, if_neg (by omega)]) ?_
      refine r_st_3_5 (pc' := 161) dX7_goNight_160 rfl rfl rfl ?_
      refine r_s (pc' := 162) dX7_goNight_161 rfl rfl ?_
      refine r_gr (pc' := 165) dX7_goNight_162 rfl fX7_16 (hl_ rfl) rfl rfl ?_
      refine r_s (pc' := 166) dX7_goNight_165 rfl rfl ?_
      refine h_ald (pc' := 167) dX7_goNight_166 rfl (hl_ rfl) rfl (vp_in_nI (by omega) (by decide)) (nI_clamp (by omega)) ?_
      refine r_top ((show _ = nI 1 by rw [h2 _ (by decide), hR.w n hn, hw01])) ?_
      refine r_ifne_t (tgt := 176) dX7_goNight_167 (by decide) (by decide) ?_
      refine r_s (pc' := 177) dX7_goNight_176 rfl rfl ?_
      refine r_c (pc' := 178) dX7_goNight_177 rfl kc_iconst_1 ?_
      refine r_s (pc' := 179) dX7_goNight_178 rfl rfl ?_
      refine r_st_4_5 (pc' := 181) dX7_goNight_179 rfl rfl rfl ?_
      refine r_s (pc' := 182) dX7_goNight_181 rfl rfl ?_
      refine r_s (pc' := 183) dX7_goNight_182 rfl rfl ?_
      refine r_s (pc' := 184) dX7_goNight_183 rfl rfl ?_
      refine r_s (pc' := 185) dX7_goNight_184 rfl rfl ?_
      refine h_gi (pc' := 188) dX7_goNight_185 rfl fX7_179 (hl_ rfl) rfl ?_
      refine r_top ((show _ = nI (gtn (zw ρ n) (zi ρ)) by rw [h2 _ (by decide)]; exact hgt)) ?_
      refine r_cne (pc' := 191) (tgt := 198) dX7_goNight_188 rfl (by decide) (fun c188 => ?_) (fun c188 => ?_)
      · refine r_s (pc' := 200) dX7_goNight_198 rfl rfl ?_
        have hne : ¬ kst (zw ρ n) (zi ρ) i = gtn (zw ρ n) (zi ρ) := fun e => c188 (by rw [e])
        refine r_top (show _ = nI (tos (zw ρ n) (zi ρ) (kst (zw ρ n) (zi ρ) i)) from by rw [tos, if_neg hne, if_neg (show ¬ zw ρ n = 0 by omega)]; exact (pk_sub (by have e : gtn (zw ρ n) (zi ρ) = 0 := if_neg (by omega); omega) : nI (kst (zw ρ n) (zi ρ) i) - nI 1 = nI (kst (zw ρ n) (zi ρ) i - 1))) ?_
        refine r_Vv2 (pc' := 203) dX7_goNight_200 rfl lX7_182 (hl_ rfl) rfl rfl rfl rfl (Nat.le_of_ble_eq_true rfl) (Nat.le_of_ble_eq_true rfl) (ct_X7_passOn (rm := rm) (dk := snw (zf ρ n) S.2.1 (kst (zw ρ n) (zi ρ) i)) (A := stp (zl ρ) (zg ρ) (zw ρ n) (zi ρ) (rom ρ rm (snw (zf ρ n) S.2.1)) (bck (zi ρ) S.2.2 S.1) i) (hR.same (fun j _ => by rw [h2 80 (by decide)]) (fun t t1 t2 => h2 t (by omega))) hw hk6 (show _ = rmI rm by rw [h2 _ (by decide)]; exact hrm) (show _ = nI _ by rw [h2 _ (by decide)]; exact hD _ hk6) (Nat.min_le_left _ _) h1 (stp_le hA0 i (by omega))) (fun h200 e200 => ?_)
        obtain ⟨I1, rfl, a1, a2⟩ := e200
        refine r_in_2_5 (pc' := 206) dX7_goNight_203 rfl rfl (i1 _) ?_
        refine r_goto (tgt := 131) dX7_goNight_206 (by decide) ?_
        exact ih (i + 1) _ _ I1 (by omega) a1 (fun t ht => by rw [a2 t ht]; exact h2 t ht)
      · refine r_s (pc' := 192) dX7_goNight_191 rfl rfl ?_
        refine h_gi (pc' := 195) dX7_goNight_192 rfl fX7_86 (hl_ rfl) rfl ?_
        refine r_top ((show _ = nI (zi ρ) by rw [h2 _ (by decide)]; exact hR.1)) ?_
        refine r_goto (tgt := 200) dX7_goNight_195 (by decide) ?_
        refine r_top (show _ = nI (tos (zw ρ n) (zi ρ) (kst (zw ρ n) (zi ρ) i)) from by rw [tos, if_pos ((nI_eq (by omega) (by have := gtn_lt (w := zw ρ n) hz; omega)).mp c188)]) ?_
        refine r_Vv2 (pc' := 203) dX7_goNight_200 rfl lX7_182 (hl_ rfl) rfl rfl rfl rfl (Nat.le_of_ble_eq_true rfl) (Nat.le_of_ble_eq_true rfl) (ct_X7_passOn (rm := rm) (dk := snw (zf ρ n) S.2.1 (kst (zw ρ n) (zi ρ) i)) (A := stp (zl ρ) (zg ρ) (zw ρ n) (zi ρ) (rom ρ rm (snw (zf ρ n) S.2.1)) (bck (zi ρ) S.2.2 S.1) i) (hR.same (fun j _ => by rw [h2 80 (by decide)]) (fun t t1 t2 => h2 t (by omega))) hw hk6 (show _ = rmI rm by rw [h2 _ (by decide)]; exact hrm) (show _ = nI _ by rw [h2 _ (by decide)]; exact hD _ hk6) (Nat.min_le_left _ _) h1 (stp_le hA0 i (by omega))) (fun h200 e200 => ?_)
        obtain ⟨I1, rfl, a1, a2⟩ := e200
        refine r_in_2_5 (pc' := 206) dX7_goNight_203 rfl rfl (i1 _) ?_
        refine r_goto (tgt := 131) dX7_goNight_206 (by decide) ?_
        exact ih (i + 1) _ _ I1 (by omega) a1 (fun t ht => by rw [a2 t ht]; exact h2 t ht)

set_option maxHeartbeats 4000000 in
set_option maxRecDepth 100000 in
theorem lpB_X7_goNight {call : sm_K} {Q : sm_Q} {x : hX} {v4 : Value} {ρ : zR} {I0 : Nat → Nat → Int32} (hR : isMd I0 ρ) (hw : wfR ρ) {n rm : Nat} {S : zN} (hn : n < zn ρ) (hrm : I0 80 11 = rmI rm) (hok : okN ρ S) (hQ : ∀ I v3, (∀ k, k < zi ρ → I 94 k = nI (snw (zf ρ n) S.2.1 k)) → (∀ t, t ≠ 94 → I t = I0 t) → sm_wp call 0 0 MX7_goNight Q 106 [.ref 80, .int (nI n), .int (nI (zi ρ)), v3, v4] [] (hp x I) 0 0) : ∀ (m i : Nat) (v3 : Value) (I : Nat → Nat → Int32), i + m = zi ρ → (∀ k, k < i → I 94 k = nI (snw (zf ρ n) S.2.1 k)) → (∀ k, i ≤ k → k < zi ρ → I 94 k = nI (S.2.1 k)) → (∀ t, t ≠ 94 → I t = I0 t) → sm_wp call 0 0 MX7_goNight Q 50 [.ref 80, .int (nI n), .int (nI i), v3, v4] [] (hp x I) 0 0 := by
  have b6 : zi ρ ≤ 6 := hw.1
  have b8 : zn ρ ≤ 8 := hw.2.1
  have bg : zg ρ ≤ 8 := hw.2.2.1
  have bl : zl ρ ≤ 1 := hw.2.2.2.1
  intro m
  induction m with
  | zero =>
    intro i v3 I hi h1 h3 h2
    have hi : i = zi ρ := by omega
    refine r_s (pc' := 51) dX7_goNight_50 rfl rfl ?_
    refine r_s (pc' := 52) dX7_goNight_51 rfl rfl ?_
    refine h_gi (pc' := 55) dX7_goNight_52 rfl fX7_86 (hl_ rfl) rfl ?_
    refine r_top ((show _ = nI (zi ρ) by rw [h2 _ (by decide)]; exact hR.1)) ?_
    refine r_cge_t (tgt := 106) dX7_goNight_55 (by decide) (by rw [hi]; exact Int32.le_refl _) ?_
    rw [hi] at h1 ⊢; exact hQ I v3 h1 h2
  | succ m ih =>
    intro i v3 I hi h1 h3 h2
    have hs9 := hok.2.1 i (by omega)
    have hf5 := hw.f5 hn
    refine r_s (pc' := 51) dX7_goNight_50 rfl rfl ?_
    refine r_s (pc' := 52) dX7_goNight_51 rfl rfl ?_
    refine h_gi (pc' := 55) dX7_goNight_52 rfl fX7_86 (hl_ rfl) rfl ?_
    refine r_top ((show _ = nI (zi ρ) by rw [h2 _ (by decide)]; exact hR.1)) ?_
    refine r_cge_f (pc' := 58) (tgt := 106) dX7_goNight_55 rfl (by decide) (nI_ge (by omega) (by omega)) ?_
    refine r_s (pc' := 59) dX7_goNight_58 rfl rfl ?_
    refine r_gr (pc' := 62) dX7_goNight_59 rfl fX7_49 (hl_ rfl) rfl rfl ?_
    refine r_s (pc' := 63) dX7_goNight_62 rfl rfl ?_
    refine h_ald (pc' := 64) dX7_goNight_63 rfl (hl_ rfl) rfl (vp_in_nI (by omega) (by decide)) (nI_clamp (by omega)) ?_
    refine r_top ((show _ = nI (S.2.1 i) from h3 i (Nat.le_refl _) (by omega))) ?_
    refine r_s (pc' := 65) dX7_goNight_64 rfl rfl ?_
    refine r_gr (pc' := 68) dX7_goNight_65 rfl fX7_19 (hl_ rfl) rfl rfl ?_
    refine r_s (pc' := 69) dX7_goNight_68 rfl rfl ?_
    refine h_ald (pc' := 70) dX7_goNight_69 rfl (hl_ rfl) rfl (vp_in_nI (by omega) (by decide)) (nI_clamp (by omega)) ?_
    refine r_top ((show _ = nI (zf ρ n) by rw [h2 _ (by decide)]; exact hR.f n hn)) ?_
    refine r_s (pc' := 71) dX7_goNight_70 rfl rfl ?_
    refine r_c (pc' := 72) dX7_goNight_71 rfl kc_iconst_2 ?_
    refine r_s (pc' := 73) dX7_goNight_72 rfl rfl ?_
    refine r_st_3_5 (pc' := 74) dX7_goNight_73 rfl rfl rfl ?_
    refine r_s (pc' := 75) dX7_goNight_74 rfl rfl ?_
    refine r_gr (pc' := 78) dX7_goNight_75 rfl fX7_49 (hl_ rfl) rfl rfl ?_
    refine r_s (pc' := 79) dX7_goNight_78 rfl rfl ?_
    refine r_s (pc' := 80) dX7_goNight_79 rfl rfl ?_
    refine r_ifge (pc' := 83) (tgt := 87) dX7_goNight_80 rfl (by decide) (fun c80 => ?_) (fun c80 => ?_)
    · refine r_s (pc' := 88) dX7_goNight_87 rfl rfl ?_
      refine r_c (pc' := 90) dX7_goNight_88 rfl kc_bipush_9 ?_
      refine r_cle (pc' := 93) (tgt := 98) dX7_goNight_90 rfl (by decide) (fun c90 => ?_) (fun c90 => ?_)
      · refine r_s (pc' := 99) dX7_goNight_98 rfl rfl ?_
        refine r_top (show _ = nI (snw (zf ρ n) S.2.1 i) from by rw [snw, ← SNWM _ (by omega) _ (by omega), if_pos c80, if_pos c90]) ?_
        refine h_ast (pc' := 100) dX7_goNight_99 rfl (hl_ rfl) rfl (vp_in_nI (by omega) (by decide)) (nI_clamp (by omega)) ?_
        refine r_in_2_5 (pc' := 103) dX7_goNight_100 rfl rfl (i1 _) ?_
        refine r_goto (tgt := 50) dX7_goNight_103 (by decide) ?_
        refine ih (i + 1) _ _ (by omega) (fun k hk => ?_) (fun k hk hkz => by rw [up_n (by omega)]; exact h3 k (by omega) hkz) (fun t ht => by rw [up_o ht]; exact h2 t ht)
        by_cases e : k = i
        · subst e; exact up_s
        · rw [up_n e]; exact h1 k (by omega)
      · refine r_c (pc' := 95) dX7_goNight_93 rfl kc_bipush_9 ?_
        refine r_goto (tgt := 99) dX7_goNight_95 (by decide) ?_
        refine r_top (show _ = nI (snw (zf ρ n) S.2.1 i) from by rw [snw, ← SNWM _ (by omega) _ (by omega), if_pos c80, if_neg c90]) ?_
        refine h_ast (pc' := 100) dX7_goNight_99 rfl (hl_ rfl) rfl (vp_in_nI (by omega) (by decide)) (nI_clamp (by omega)) ?_
        refine r_in_2_5 (pc' := 103) dX7_goNight_100 rfl rfl (i1 _) ?_
        refine r_goto (tgt := 50) dX7_goNight_103 (by decide) ?_
        refine ih (i + 1) _ _ (by omega) (fun k hk => ?_) (fun k hk hkz => by rw [up_n (by omega)]; exact h3 k (by omega) hkz) (fun t ht => by rw [up_o ht]; exact h2 t ht)
        by_cases e : k = i
        · subst e; exact up_s
        · rw [up_n e]; exact h1 k (by omega)
    · refine r_c (pc' := 84) dX7_goNight_83 rfl kc_iconst_0 ?_
      refine r_goto (tgt := 99) dX7_goNight_84 (by decide) ?_
      refine r_top (show _ = nI (snw (zf ρ n) S.2.1 i) from by rw [snw, ← SNWM _ (by omega) _ (by omega), if_neg (fun h => absurd h (Int32.not_le.mpr (x_nle c80)))]) ?_
      refine h_ast (pc' := 100) dX7_goNight_99 rfl (hl_ rfl) rfl (vp_in_nI (by omega) (by decide)) (nI_clamp (by omega)) ?_
      refine r_in_2_5 (pc' := 103) dX7_goNight_100 rfl rfl (i1 _) ?_
      refine r_goto (tgt := 50) dX7_goNight_103 (by decide) ?_
      refine ih (i + 1) _ _ (by omega) (fun k hk => ?_) (fun k hk hkz => by rw [up_n (by omega)]; exact h3 k (by omega) hkz) (fun t ht => by rw [up_o ht]; exact h2 t ht)
      by_cases e : k = i
      · subst e; exact up_s
      · rw [up_n e]; exact h1 k (by omega)

set_option maxHeartbeats 4000000 in
set_option maxRecDepth 100000 in
theorem lpA_X7_goNight {call : sm_K} {Q : sm_Q} {x : hX} {v3 v4 : Value} {ρ : zR} {I0 : Nat → Nat → Int32} (hR : isMd I0 ρ) (hw : wfR ρ) {n rm : Nat} {S : zN} (hn : n < zn ρ) (hrm : I0 80 11 = rmI rm) (hok : okN ρ S) (hby : I0 80 24 = nI S.2.2) (hQ : ∀ I, (∀ g, g < zg ρ → I 93 g = nI (bck (zi ρ) S.2.2 S.1 g)) → (∀ t, t ≠ 93 → I t = I0 t) → sm_wp call 0 0 MX7_goNight Q 48 [.ref 80, .int (nI n), .int (nI (zg ρ)), v3, v4] [] (hp x I) 0 0) : ∀ (m i : Nat) (I : Nat → Nat → Int32), i + m = zg ρ → (∀ k, k < i → I 93 k = nI (bck (zi ρ) S.2.2 S.1 k)) → (∀ k, i ≤ k → k < zg ρ → I 93 k = nI (S.1 k)) → (∀ t, t ≠ 93 → I t = I0 t) → sm_wp call 0 0 MX7_goNight Q 2 [.ref 80, .int (nI n), .int (nI i), v3, v4] [] (hp x I) 0 0 := by
  have b6 : zi ρ ≤ 6 := hw.1
  have b8 : zn ρ ≤ 8 := hw.2.1
  have bg : zg ρ ≤ 8 := hw.2.2.1
  have bl : zl ρ ≤ 1 := hw.2.2.2.1
  intro m
  induction m with
  | zero =>
    intro i I hi h1 h3 h2
    have hi : i = zg ρ := by omega
    refine r_s (pc' := 3) dX7_goNight_2 rfl rfl ?_
    refine r_s (pc' := 4) dX7_goNight_3 rfl rfl ?_
    refine h_gi (pc' := 7) dX7_goNight_4 rfl fX7_93 (hl_ rfl) rfl ?_
    refine r_top ((show _ = nI (zg ρ) by rw [h2 _ (by decide)]; exact hR.2.2.1)) ?_
    refine r_cge_t (tgt := 48) dX7_goNight_7 (by decide) (by rw [hi]; exact Int32.le_refl _) ?_
    rw [hi] at h1 ⊢; exact hQ I h1 h2
  | succ m ih =>
    intro i I hi h1 h3 h2
    have hs6 := hok.1 i (by omega)
    refine r_s (pc' := 3) dX7_goNight_2 rfl rfl ?_
    refine r_s (pc' := 4) dX7_goNight_3 rfl rfl ?_
    refine h_gi (pc' := 7) dX7_goNight_4 rfl fX7_93 (hl_ rfl) rfl ?_
    refine r_top ((show _ = nI (zg ρ) by rw [h2 _ (by decide)]; exact hR.2.2.1)) ?_
    refine r_cge_f (pc' := 10) (tgt := 48) dX7_goNight_7 rfl (by decide) (nI_ge (by omega) (by omega)) ?_
    refine r_s (pc' := 11) dX7_goNight_10 rfl rfl ?_
    refine r_gr (pc' := 14) dX7_goNight_11 rfl fX7_46 (hl_ rfl) rfl rfl ?_
    refine r_s (pc' := 15) dX7_goNight_14 rfl rfl ?_
    refine r_s (pc' := 16) dX7_goNight_15 rfl rfl ?_
    refine r_gr (pc' := 19) dX7_goNight_16 rfl fX7_46 (hl_ rfl) rfl rfl ?_
    refine r_s (pc' := 20) dX7_goNight_19 rfl rfl ?_
    refine h_ald (pc' := 21) dX7_goNight_20 rfl (hl_ rfl) rfl (vp_in_nI (by omega) (by decide)) (nI_clamp (by omega)) ?_
    refine r_top ((show _ = nI (S.1 i) from h3 i (Nat.le_refl _) (by omega))) ?_
    refine r_s (pc' := 22) dX7_goNight_21 rfl rfl ?_
    refine h_gi (pc' := 25) dX7_goNight_22 rfl fX7_86 (hl_ rfl) rfl ?_
    refine r_top ((show _ = nI (zi ρ) by rw [h2 _ (by decide)]; exact hR.1)) ?_
    refine r_cne (pc' := 28) (tgt := 35) dX7_goNight_25 rfl (by decide) (fun c25 => ?_) (fun c25 => ?_)
    · refine r_s (pc' := 36) dX7_goNight_35 rfl rfl ?_
      refine r_gr (pc' := 39) dX7_goNight_36 rfl fX7_46 (hl_ rfl) rfl rfl ?_
      refine r_s (pc' := 40) dX7_goNight_39 rfl rfl ?_
      refine h_ald (pc' := 41) dX7_goNight_40 rfl (hl_ rfl) rfl (vp_in_nI (by omega) (by decide)) (nI_clamp (by omega)) ?_
      refine r_top ((show _ = nI (S.1 i) from h3 i (Nat.le_refl _) (by omega))) ?_
      refine r_top (show _ = nI (bck (zi ρ) S.2.2 S.1 i) from by rw [bck, if_neg (fun e => c25 (by rw [e]))]) ?_
      refine h_ast (pc' := 42) dX7_goNight_41 rfl (hl_ rfl) rfl (vp_in_nI (by omega) (by decide)) (nI_clamp (by omega)) ?_
      refine r_in_2_5 (pc' := 45) dX7_goNight_42 rfl rfl (i1 _) ?_
      refine r_goto (tgt := 2) dX7_goNight_45 (by decide) ?_
      refine ih (i + 1) _ (by omega) (fun k hk => ?_) (fun k hk hkz => by rw [up_n (by omega)]; exact h3 k (by omega) hkz) (fun t ht => by rw [up_o ht]; exact h2 t ht)
      by_cases e : k = i
      · subst e; exact up_s
      · rw [up_n e]; exact h1 k (by omega)
    · refine r_s (pc' := 29) dX7_goNight_28 rfl rfl ?_
      refine h_gi (pc' := 32) dX7_goNight_29 rfl fX7_179 (hl_ rfl) rfl ?_
      refine r_top ((show _ = nI S.2.2 by rw [h2 _ (by decide)]; exact hby)) ?_
      refine r_goto (tgt := 41) dX7_goNight_32 (by decide) ?_
      refine r_top (show _ = nI (bck (zi ρ) S.2.2 S.1 i) from by rw [bck, if_pos ((nI_eq (by omega) (by omega)).mp c25)]) ?_
      refine h_ast (pc' := 42) dX7_goNight_41 rfl (hl_ rfl) rfl (vp_in_nI (by omega) (by decide)) (nI_clamp (by omega)) ?_
      refine r_in_2_5 (pc' := 45) dX7_goNight_42 rfl rfl (i1 _) ?_
      refine r_goto (tgt := 2) dX7_goNight_45 (by decide) ?_
      refine ih (i + 1) _ (by omega) (fun k hk => ?_) (fun k hk hkz => by rw [up_n (by omega)]; exact h3 k (by omega) hkz) (fun t ht => by rw [up_o ht]; exact h2 t ht)
      by_cases e : k = i
      · subst e; exact up_s
      · rw [up_n e]; exact h1 k (by omega)

set_option maxHeartbeats 4000000 in
set_option maxRecDepth 100000 in
theorem ct_X7_goNight {d : Nat} {x : hX} {I : Nat → Nat → Int32} {ρ : zR} {n rm : Nat} {S : zN} (hR : isMd I ρ) (hw : wfR ρ) (hz : 0 < zi ρ) (hn : n < zn ρ) (hrm : I 80 11 = rmI rm) (hS : MR I ρ S) (hok : okN ρ S) : cv (d + 3) MX7_goNight [.ref 80, .int (nI n)] (hp x I) (fun h' => ∃ I', h' = hp x I' ∧ MR I' ρ (nig ρ rm (zw ρ n) n S) ∧ frM I I') := by
  have b6 : zi ρ ≤ 6 := hw.1
  have b8 : zn ρ ≤ 8 := hw.2.1
  have bg : zg ρ ≤ 8 := hw.2.2.1
  have bl : zl ρ ≤ 1 := hw.2.2.2.1
  have hw1 := hw.w1 hn
  have hA0 : ∀ g, g < zg ρ → bck (zi ρ) S.2.2 S.1 g ≤ zi ρ := fun g hg => by
    have := hok.1 g hg
    have := hok.2.2
    unfold bck; split <;> omega
  refine c_in (L := [.ref 80, .int (nI n), .null, .null, .null]) rfl rfl ?_
  refine r_c (pc' := 1) dX7_goNight_0 rfl kc_iconst_0 ?_
  refine r_st_2_5 (pc' := 2) dX7_goNight_1 rfl rfl rfl ?_
  refine lpA_X7_goNight (I0 := I) (S := S) (rm := rm) hR hw hn hrm hok hS.2.2 (fun I1 a1 a2 => ?_) (zg ρ) 0 _ (by omega) (fun k hk => absurd hk (by omega)) (fun k _ hk => hS.1 k hk) (fun t _ => rfl)
  have hR1 : isMd I1 ρ := hR.same (fun j _ => by rw [a2 80 (by decide)]) (fun t t1 t2 => a2 t (by omega))
  refine r_c (pc' := 49) dX7_goNight_48 rfl kc_iconst_0 ?_
  refine r_st_2_5 (pc' := 50) dX7_goNight_49 rfl rfl rfl ?_
  refine lpB_X7_goNight (I0 := I1) (S := S) (rm := rm) hR1 hw hn (by rw [a2 80 (by decide)]; exact hrm) hok (fun I2 v3 p1 p2 => ?_) (zi ρ) 0 _ _ (by omega) (fun k hk => absurd hk (by omega)) (fun k _ hk => by rw [a2 94 (by decide)]; exact hS.2.1 k hk) (fun t _ => rfl)
  have hR2 : isMd I2 ρ := hR1.same (fun j _ => by rw [p2 80 (by decide)]) (fun t t1 t2 => p2 t (by omega))
  refine r_s (pc' := 107) dX7_goNight_106 rfl rfl ?_
  refine r_s (pc' := 108) dX7_goNight_107 rfl rfl ?_
  refine r_gr (pc' := 111) dX7_goNight_108 rfl fX7_16 (hl_ rfl) rfl rfl ?_
  refine r_s (pc' := 112) dX7_goNight_111 rfl rfl ?_
  refine h_ald (pc' := 113) dX7_goNight_112 rfl (hl_ rfl) rfl (vp_in_nI (by omega) (by decide)) (nI_clamp (by omega)) ?_
  refine r_top (hR2.w n hn) ?_
  refine r_ifne (pc' := 116) (tgt := 125) dX7_goNight_113 rfl (by decide) (fun c113 => ?_) (fun c113 => ?_)
  · refine r_c (pc' := 126) dX7_goNight_125 rfl kc_iconst_0 ?_
    refine r_top (show _ = nI (gtn (zw ρ n) (zi ρ)) from by rw [gtn, if_neg (fun e => c113 (by rw [e]; rfl))]; rfl) ?_
    refine h_pi (pc' := 129) dX7_goNight_126 rfl fX7_179 rfl (hl_ rfl) rfl ?_
    refine r_c (pc' := 130) dX7_goNight_129 rfl kc_iconst_0 ?_
    refine r_st_2_5 (pc' := 131) dX7_goNight_130 rfl rfl rfl ?_
    refine lpC_X7_goNight (I0 := sm_up I2 80 24 (nI (gtn (zw ρ n) (zi ρ)))) (S := S) (rm := rm) (hR2.same (fun j hj => up_n (by omega)) (fun t t1 t2 => up_o (by omega))) hw hn (by rw [up_n (by decide), p2 80 (by decide), a2 80 (by decide)]; exact hrm) hok hz (fun k hk => by rw [up_o (by decide)]; exact p1 k hk) up_s hA0 (fun I3 q1 q2 => ⟨rfl, I3, rfl, ⟨q1, fun k hk => ?_, ?_⟩, fun t t1 t2 t3 => ?_, fun j hj => ?_⟩) (zi ρ) 0 _ _ _ (by omega) (fun g hg => by rw [up_o (by decide), p2 93 (by decide)]; exact a1 g hg) (fun t _ => rfl)
    · rw [q2 94 (by decide), up_o (by decide)]; exact p1 k hk
    · rw [q2 80 (by decide), up_s]; rfl
    · rw [q2 t t1, up_o t3, p2 t t2, a2 t t1]
    · rw [q2 80 (by decide), up_n hj, p2 80 (by decide), a2 80 (by decide)]
  · refine r_s (pc' := 117) dX7_goNight_116 rfl rfl ?_
    refine h_gi (pc' := 120) dX7_goNight_117 rfl fX7_86 (hl_ rfl) rfl ?_
    refine r_top (hR2.1) ?_
    refine r_c (pc' := 121) dX7_goNight_120 rfl kc_iconst_1 ?_
    refine r_s (pc' := 122) dX7_goNight_121 rfl rfl ?_
    refine r_top ((pk_sub (by omega) : nI (zi ρ) - nI 1 = nI (zi ρ - 1))) ?_
    refine r_goto (tgt := 126) dX7_goNight_122 (by decide) ?_
    refine r_top (show _ = nI (gtn (zw ρ n) (zi ρ)) from by rw [gtn, if_pos ((nI_eq (by omega) (by decide)).mp c113)]) ?_
    refine h_pi (pc' := 129) dX7_goNight_126 rfl fX7_179 rfl (hl_ rfl) rfl ?_
    refine r_c (pc' := 130) dX7_goNight_129 rfl kc_iconst_0 ?_
    refine r_st_2_5 (pc' := 131) dX7_goNight_130 rfl rfl rfl ?_
    refine lpC_X7_goNight (I0 := sm_up I2 80 24 (nI (gtn (zw ρ n) (zi ρ)))) (S := S) (rm := rm) (hR2.same (fun j hj => up_n (by omega)) (fun t t1 t2 => up_o (by omega))) hw hn (by rw [up_n (by decide), p2 80 (by decide), a2 80 (by decide)]; exact hrm) hok hz (fun k hk => by rw [up_o (by decide)]; exact p1 k hk) up_s hA0 (fun I3 q1 q2 => ⟨rfl, I3, rfl, ⟨q1, fun k hk => ?_, ?_⟩, fun t t1 t2 t3 => ?_, fun j hj => ?_⟩) (zi ρ) 0 _ _ _ (by omega) (fun g hg => by rw [up_o (by decide), p2 93 (by decide)]; exact a1 g hg) (fun t _ => rfl)
    · rw [q2 94 (by decide), up_o (by decide)]; exact p1 k hk
    · rw [q2 80 (by decide), up_s]; rfl
    · rw [q2 t t1, up_o t3, p2 t t2, a2 t t1]
    · rw [q2 80 (by decide), up_n hj, p2 80 (by decide), a2 80 (by decide)]

set_option maxHeartbeats 4000000 in
set_option maxRecDepth 100000 in
theorem lp_X7_goNights {d : Nat} {Q : sm_Q} {x : hX} {ρ : zR} {I0 : Nat → Nat → Int32} (hR : isMd I0 ρ) (hw : wfR ρ) {rm n : Nat} (hz : 0 < zi ρ) (hn : n ≤ zn ρ) (hrm : I0 80 11 = rmI rm) (hQ : ∀ I, MR I ρ (sim ρ rm (zw ρ) n) → frM I0 I → Q none (hp x I)) : ∀ (m i : Nat) (I : Nat → Nat → Int32), i + m = n → MR I ρ (sim ρ rm (zw ρ) i) → frM I0 I → sm_wp (sm_c (d + 3)) 0 0 MX7_goNights Q 6 [.ref 80, .int (nI n), .int (nI i)] [] (hp x I) 0 0 := by
  have b6 : zi ρ ≤ 6 := hw.1
  have b8 : zn ρ ≤ 8 := hw.2.1
  have bg : zg ρ ≤ 8 := hw.2.2.1
  have bl : zl ρ ≤ 1 := hw.2.2.2.1
  intro m
  induction m with
  | zero =>
    intro i I hi h1 h2
    have hi : i = n := by omega
    refine r_s (pc' := 7) dX7_goNights_6 rfl rfl ?_
    refine r_s (pc' := 8) dX7_goNights_7 rfl rfl ?_
    refine r_cge_t (tgt := 22) dX7_goNights_8 (by decide) (by rw [hi]; exact Int32.le_refl _) ?_
    refine r_retv dX7_goNights_22 rfl (Nat.le_of_ble_eq_true rfl) (Nat.le_of_ble_eq_true rfl) ?_
    rw [hi] at h1; exact hQ I h1 h2
  | succ m ih =>
    intro i I hi h1 h2
    refine r_s (pc' := 7) dX7_goNights_6 rfl rfl ?_
    refine r_s (pc' := 8) dX7_goNights_7 rfl rfl ?_
    refine r_cge_f (pc' := 11) (tgt := 22) dX7_goNights_8 rfl (by decide) (nI_ge (by omega) (by omega)) ?_
    refine r_s (pc' := 12) dX7_goNights_11 rfl rfl ?_
    refine r_s (pc' := 13) dX7_goNights_12 rfl rfl ?_
    refine r_Vv1 (pc' := 16) dX7_goNights_13 rfl lX7_189 (hl_ rfl) rfl rfl rfl rfl (Nat.le_of_ble_eq_true rfl) (Nat.le_of_ble_eq_true rfl) (ct_X7_goNight (S := sim ρ rm (zw ρ) i) (hR.fr h2) hw hz (by omega) (by rw [h2.2 11 (by decide)]; exact hrm) h1 (sim_ok hw hz rm (zw ρ) i)) (fun h13 e13 => ?_)
    obtain ⟨I1, rfl, a1, a2⟩ := e13
    refine r_in_2_3 (pc' := 19) dX7_goNights_16 rfl rfl (i1 _) ?_
    refine r_goto (tgt := 6) dX7_goNights_19 (by decide) ?_
    exact ih (i + 1) I1 (by omega) a1 (h2.tr a2)

set_option maxHeartbeats 4000000 in
set_option maxRecDepth 100000 in
theorem ct_X7_goNights {d : Nat} {x : hX} {I : Nat → Nat → Int32} {ρ : zR} {rm n : Nat} (hR : isMd I ρ) (hw : wfR ρ) (hz : 0 < zi ρ) (hn : n ≤ zn ρ) (hrm : I 80 11 = rmI rm) : cv (d + 4) MX7_goNights [.ref 80, .int (nI n)] (hp x I) (fun h' => ∃ I', h' = hp x I' ∧ MR I' ρ (sim ρ rm (zw ρ) n) ∧ frM I I') := by
  refine c_in (L := [.ref 80, .int (nI n), .null]) rfl rfl ?_
  refine r_s (pc' := 1) dX7_goNights_0 rfl rfl ?_
  refine r_Vv0 (pc' := 4) dX7_goNights_1 rfl lX7_186 (hl_ rfl) rfl rfl rfl rfl (Nat.le_of_ble_eq_true rfl) (Nat.le_of_ble_eq_true rfl) (ct_X7_begin hR hw) (fun h1 e1 => ?_)
  obtain ⟨I1, rfl, a1, a2⟩ := e1
  refine r_c (pc' := 5) dX7_goNights_4 rfl kc_iconst_0 ?_
  refine r_st_2_3 (pc' := 6) dX7_goNights_5 rfl rfl rfl ?_
  exact lp_X7_goNights (I0 := I) hR hw hz hn hrm (fun I2 g1 g2 => ⟨rfl, I2, rfl, g1, g2⟩) n 0 _ (by omega) a1 a2

set_option maxHeartbeats 4000000 in
set_option maxRecDepth 100000 in
theorem lp_X7_inBeds {call : sm_K} {Q : sm_Q} {x : hX} {ρ : zR} {I : Nat → Nat → Int32} (hR : isMd I ρ) (hw : wfR ρ) {k : Nat} {A : Nat → Nat} (hA1 : ∀ g, g < zg ρ → I 93 g = nI (A g)) (hA : ∀ g, g < zg ρ → A g ≤ zi ρ) (hk : k ≤ 6) (hQ : Q (some (.int (nI (mA A (zg ρ) k)))) (hp x I)) : ∀ (m i : Nat) , i + m = zg ρ → sm_wp call 0 0 MX7_inBeds Q 4 [.ref 80, .int (nI k), .int (nI (mA A i k)), .int (nI i)] [] (hp x I) 0 0 := by
  have b6 : zi ρ ≤ 6 := hw.1
  have b8 : zn ρ ≤ 8 := hw.2.1
  have bg : zg ρ ≤ 8 := hw.2.2.1
  have bl : zl ρ ≤ 1 := hw.2.2.2.1
  intro m
  induction m with
  | zero =>
    intro i  hi 
    have hi : i = zg ρ := by omega
    refine r_s (pc' := 5) dX7_inBeds_4 rfl rfl ?_
    refine r_s (pc' := 6) dX7_inBeds_5 rfl rfl ?_
    refine h_gi (pc' := 9) dX7_inBeds_6 rfl fX7_93 (hl_ rfl) rfl ?_
    refine r_top (hR.2.2.1) ?_
    refine r_cge_t (tgt := 38) dX7_inBeds_9 (by decide) (by rw [hi]; exact Int32.le_refl _) ?_
    refine r_s (pc' := 39) dX7_inBeds_38 rfl rfl ?_
    refine r_reti dX7_inBeds_39 rfl (rfl) (Nat.le_of_ble_eq_true rfl) (Nat.le_of_ble_eq_true rfl) ?_
    rw [hi]; exact hQ
  | succ m ih =>
    intro i  hi 
    have hAi := hA i (by omega)
    refine r_s (pc' := 5) dX7_inBeds_4 rfl rfl ?_
    refine r_s (pc' := 6) dX7_inBeds_5 rfl rfl ?_
    refine h_gi (pc' := 9) dX7_inBeds_6 rfl fX7_93 (hl_ rfl) rfl ?_
    refine r_top (hR.2.2.1) ?_
    refine r_cge_f (pc' := 12) (tgt := 38) dX7_inBeds_9 rfl (by decide) (nI_ge (by omega) (by omega)) ?_
    refine r_s (pc' := 13) dX7_inBeds_12 rfl rfl ?_
    refine r_s (pc' := 14) dX7_inBeds_13 rfl rfl ?_
    refine r_gr (pc' := 17) dX7_inBeds_14 rfl fX7_46 (hl_ rfl) rfl rfl ?_
    refine r_s (pc' := 18) dX7_inBeds_17 rfl rfl ?_
    refine h_ald (pc' := 19) dX7_inBeds_18 rfl (hl_ rfl) rfl (vp_in_nI (by omega) (by decide)) (nI_clamp (by omega)) ?_
    refine r_top (hA1 i (by omega)) ?_
    refine r_s (pc' := 20) dX7_inBeds_19 rfl rfl ?_
    refine r_cne (pc' := 23) (tgt := 29) dX7_inBeds_20 rfl (by decide) (fun c20 => ?_) (fun c20 => ?_)
    · refine r_c (pc' := 30) dX7_inBeds_29 rfl kc_iconst_0 ?_
      refine r_s (pc' := 31) dX7_inBeds_30 rfl rfl ?_
      refine r_top (show _ = nI (mA A (i + 1) k) from by rw [show (0 : Int32) = nI 0 from rfl, fa_or]; exact congrArg nI (by unfold mA; rw [mk_or, if_neg (by simpa using (fun e => c20 (by rw [e])))])) ?_
      refine r_st_2_4 (pc' := 32) dX7_inBeds_31 rfl rfl rfl ?_
      refine r_in_3_4 (pc' := 35) dX7_inBeds_32 rfl rfl (i1 _) ?_
      refine r_goto (tgt := 4) dX7_inBeds_35 (by decide) ?_
      exact ih (i + 1) (by omega)
    · refine r_c (pc' := 24) dX7_inBeds_23 rfl kc_iconst_1 ?_
      refine r_s (pc' := 25) dX7_inBeds_24 rfl rfl ?_
      refine r_s (pc' := 26) dX7_inBeds_25 rfl rfl ?_
      refine r_top (sh1 (by omega)) ?_
      refine r_goto (tgt := 30) dX7_inBeds_26 (by decide) ?_
      refine r_s (pc' := 31) dX7_inBeds_30 rfl rfl ?_
      refine r_top (show _ = nI (mA A (i + 1) k) from by rw [fa_or]; exact congrArg nI (by unfold mA; rw [mk_or, if_pos (decide_eq_true ((nI_eq (by omega) (by omega)).mp c20))])) ?_
      refine r_st_2_4 (pc' := 32) dX7_inBeds_31 rfl rfl rfl ?_
      refine r_in_3_4 (pc' := 35) dX7_inBeds_32 rfl rfl (i1 _) ?_
      refine r_goto (tgt := 4) dX7_inBeds_35 (by decide) ?_
      exact ih (i + 1) (by omega)

set_option maxHeartbeats 4000000 in
set_option maxRecDepth 100000 in
theorem ct_X7_inBeds {d : Nat} {x : hX} {I : Nat → Nat → Int32} {ρ : zR} (hR : isMd I ρ) (hw : wfR ρ) {k : Nat} {A : Nat → Nat} (hA1 : ∀ g, g < zg ρ → I 93 g = nI (A g)) (hA : ∀ g, g < zg ρ → A g ≤ zi ρ) (hk : k ≤ 6) : ci (d + 1) MX7_inBeds [.ref 80, .int (nI k)] (hp x I) (fun r h' => h' = hp x I ∧ r = nI (mA A (zg ρ) k)) := by
  refine c_in (L := [.ref 80, .int (nI k), .null, .null]) rfl rfl ?_
  refine r_c (pc' := 1) dX7_inBeds_0 rfl kc_iconst_0 ?_
  refine r_st_2_4 (pc' := 2) dX7_inBeds_1 rfl rfl rfl ?_
  refine r_c (pc' := 3) dX7_inBeds_2 rfl kc_iconst_0 ?_
  refine r_st_3_4 (pc' := 4) dX7_inBeds_3 rfl rfl rfl ?_
  exact lp_X7_inBeds hR hw hA1 hA hk ⟨_, rfl, rfl, rfl⟩ (zg ρ) 0 (by omega)
