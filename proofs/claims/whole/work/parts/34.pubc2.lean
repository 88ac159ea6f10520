/-- TRACE behind a body's number -/
def bt_ (n : Nat) (t : Int32) : Int32 := nI 31 * t + nI n
def sp_as (ρ : zR) (k w : Int32) : Int32 × Int32 := if ok k (zi ρ) = true then (if ok w 3 = true then (if ix w ≤ zk ρ (ix k) then (0, 1) else (2, -12)) else (0, -2)) else (0, -1)
def sp_tell (ρ : zR) (t k : Int32) : Int32 × Int32 := if ok k (zi ρ) = true then (if zk ρ (ix k) = 0 then (bt_ 1 t, nI (zs ρ (ix k))) else if zk ρ (ix k) = 1 then (bt_ 1 (bt_ 2 t), nI (zs ρ (ix k) + 100)) else (bt_ 1 (bt_ 1 (bt_ 2 (bt_ 3 t))), nI (2 * zs ρ (ix k) + 100))) else (t, -1)
def sp_light (ρ : zR) (t k : Int32) : Int32 × Int32 := if ok k (zi ρ) = true then (if zk ρ (ix k) = 2 then (bt_ 5 t, 80) else (bt_ 4 t, k)) else (t, -1)
def sp_back (δ : zD) (k : Int32) : zD × Int32 := if ok k (δ.1 + 1) = true then ((δ.1 - ix k, δ.2), nI (δ.1 - ix k)) else (δ, -2)
def sp_reading (ρ : zR) (δ : zD) (g k n : Int32) : zD × Int32 := if ok g (zg ρ) = true ∧ ok k (zi ρ + 1) = true then (if ok n (zn ρ) = true then (if δ.1 < 8 then ((δ.1 + 1, fun r => if r = δ.1 then (ix g, ix k, ix n) else δ.2 r), nI δ.1) else (δ, -4)) else (δ, -2)) else (δ, -1)
theorem CI.putD {I I' : Nat → Nat → Int32} {ρ : zR} {δ δ' : zD} {η : zH} {f t : Int32} (h : CI I (ρ, δ, η, f, t)) (hD : isDC I' δ') (hs : ∀ r, r < 38 ∨ 41 < r → I' r = I r) : CI I' (ρ, δ', η, f, t) :=
  ⟨h.R.same (fun r h1 h2 => hs r (by omega)), by rw [hs 2 (by omega)]; exact h.rm, hD, fun k hk => (h.S k hk).same (hs _ (by omega)) (hs _ (by omega)), by rw [hs 0 (by omega)]; exact h.f, by rw [hs 0 (by omega)]; exact h.t⟩
theorem MI.putD {I I' : Nat → Nat → Int32} {ρ : zR} {δ δ' : zD} {η : zH} {f t : Int32} (h : MI I (ρ, δ, η, f, t)) (hD : isDM I' δ') (h80 : ∀ j, j ≠ 25 → I' 80 j = I 80 j) (hs : ∀ r, r ≠ 80 → r ≠ 95 → r ≠ 96 → r ≠ 97 → I' r = I r) : MI I' (ρ, δ', η, f, t) :=
  ⟨h.R.same (fun j hj => h80 j (by omega)) (fun r h1 h2 => hs r (by omega) (by omega) (by omega) (by omega)), (h80 11 (by decide)).trans h.ck, hD, fun k hk => (h.S k hk).same (hs _ (by decide) (by decide) (by decide) (by decide)) (hs _ (by decide) (by decide) (by decide) (by decide)) (hs _ (by decide) (by decide) (by decide) (by decide)), (h80 0 (by decide)).trans h.f, (h80 33 (by decide)).trans h.t⟩

theorem sweep_to {j n b : Nat} (hj : j < n) (hn : n ≤ 6) {to : Int32} (hto : (b = 1 ∧ to = nI j + 1) ∨ (b = 0 ∧ to = nI j - 1)) : (∃ i, i < n ∧ to = nI i ∧ i = (if b = 1 then j + 1 else j - 1) ∧ ((b = 1 ∧ j + 1 < n) ∨ (b = 0 ∧ 0 < j))) ∨ ((∀ i, i < n → to ≠ nI i) ∧ ¬ ((b = 1 ∧ j + 1 < n) ∨ (b = 0 ∧ 0 < j))) := by
  rcases hto with ⟨hb, rfl⟩ | ⟨hb, rfl⟩
  · subst hb
    rw [nI_1]
    by_cases h : j + 1 < n
    · exact Or.inl ⟨j + 1, h, rfl, rfl, Or.inl ⟨rfl, h⟩⟩
    · refine Or.inr ⟨fun i hi e => ?_, by omega⟩
      have := (nI_eq (by omega) (by omega)).mp e
      omega
  · subst hb
    by_cases h : 0 < j
    · obtain ⟨i, rfl⟩ : ∃ i, j = i + 1 := ⟨j - 1, by omega⟩
      refine Or.inl ⟨i, by omega, nI_pred i, rfl, Or.inr ⟨rfl, h⟩⟩
    · have h0 : j = 0 := by omega
      subst h0
      refine Or.inr ⟨fun i hi e => ?_, by omega⟩
      have h1 : ∀ i, i < 6 → nI 0 - 1 ≠ nI i := by decide +kernel
      exact h1 i (by omega) e
theorem isRd.swp {I : Nat → Nat → Int32} {q : Nat} {ρ : zR} (h : isRd I q ρ) (i j v : Nat) (hne : i ≠ j) : isRd (sm_up (sm_up I (q + 2) i (nI (zs ρ i - min v (zs ρ i)))) (q + 2) j (nI (zs ρ j + min (min v (zs ρ i)) (9 - zs ρ j)))) q (wsn ρ (swp (zs ρ) i j v)) := (h.u_s i _).u_s j _
theorem isMd.swp {I : Nat → Nat → Int32} {ρ : zR} (h : isMd I ρ) (i j v : Nat) (hne : i ≠ j) : isMd (sm_up (sm_up I 82 i (nI (zs ρ i - min v (zs ρ i)))) 82 j (nI (zs ρ j + min (min v (zs ρ i)) (9 - zs ρ j)))) (wsn ρ (swp (zs ρ) i j v)) := (h.u_s i _).u_s j _

set_option maxHeartbeats 4000000 in
set_option maxRecDepth 100000 in
theorem fin_sweep {d : Nat} {x : hX} {I : Nat → Nat → Int32} {ρ : zR} {δ : zD} {η : zH} {ft tr : Int32} {j i b v : Nat} (hC : CI I (ρ, δ, η, ft, tr)) (hW : WF (ρ, δ, η, ft, tr)) (hj : j < zi ρ) (hi : i < zi ρ) (hne : j ≠ i) (ei : i = if b = 1 then j + 1 else j - 1) (hn : (b = 1 ∧ j + 1 < zi ρ) ∨ (b = 0 ∧ 0 < j)) (hv : v ≤ 9) : sm_wp (sm_c (d + 1)) 0 0 MX6_sweep (qi (fun r h' => ∃ I', h' = hp x I' ∧ (∀ q, 80 ≤ q → I' q = I q) ∧ CI I' ((sp_sweep ρ (nI j) b (nI v)).1, δ, η, ft, tr) ∧ r = (sp_sweep ρ (nI j) b (nI v)).2)) 55 [.ref 0, .int (nI j), .int (nI b), .int (nI v), .int (nI i)] [] (hp x I) 0 0 := by
  have hR : isRd I 2 ρ := hC.R
  have hw : wfR ρ := hW.1
  have b6 : zi ρ ≤ 6 := hw.1
  have b8 : zn ρ ≤ 8 := hw.2.1
  have bg : zg ρ ≤ 8 := hw.2.2.1
  have d8 : δ.1 ≤ 8 := hW.2.1.1
  have e3 : sp_sweep ρ (nI j) b (nI v) = (wsn ρ (swp (zs ρ) j i v), nI (swc (zs ρ) j i v)) := by rw [sp_sweep, if_pos (ok_in hj hw.bi), ix_nI (by omega), if_pos hn, if_pos (ok_in (by omega) (by decide)), ix_nI (by omega), ← ei]
  refine r_s (pc' := 56) dX6_sweep_55 rfl rfl ?_
  refine r_gr (pc' := 59) dX6_sweep_56 rfl fX6_20 (hl_ rfl) rfl rfl ?_
  refine r_s (pc' := 60) dX6_sweep_59 rfl rfl ?_
  refine r_s (pc' := 62) dX6_sweep_60 rfl rfl ?_
  refine r_s (pc' := 63) dX6_sweep_62 rfl rfl ?_
  refine r_Vi3 (pc' := 66) dX6_sweep_63 rfl lX6_136 (hl_ rfl) rfl rfl rfl rfl (Nat.le_of_ble_eq_true rfl) (Nat.le_of_ble_eq_true rfl) (ct_X2_sweepOver (Or.inl rfl) (by omega) (by omega) hne (hR.s _ hj) (hR.s _ hi) (hw.s9 hj) (hw.s9 hi) hv) (fun r63 h63 e63 => ?_)
  obtain ⟨rfl, rfl⟩ := e63
  refine r_reti dX6_sweep_66 rfl (rfl) (Nat.le_of_ble_eq_true rfl) (Nat.le_of_ble_eq_true rfl) ⟨_, rfl, ?_⟩
  refine ⟨_, rfl, fun q hq => by rw [up_o (by omega), up_o (by omega)], ?_, ?_⟩
  · rw [e3]; exact hC.putR (hR.swp j i v hne) (by rw [up_o (by decide), up_o (by decide)]) (fun r hr => by rw [up_o (by omega), up_o (by omega)])
  · rw [e3]; rfl

set_option maxHeartbeats 4000000 in
set_option maxRecDepth 100000 in
theorem pc_sweep {d : Nat} {x : hX} {I : Nat → Nat → Int32} {ρ : zR} {δ : zD} {η : zH} {ft tr : Int32} {k v : Int32} {b : Nat} (hC : CI I (ρ, δ, η, ft, tr)) (hW : WF (ρ, δ, η, ft, tr)) (hb : b ≤ 1) : ci (d + 2) MX6_sweep [.ref 0, .int k, .int (nI b), .int v] (hp x I) (fun r h' => ∃ I', h' = hp x I' ∧ (∀ q, 80 ≤ q → I' q = I q) ∧ CI I' ((sp_sweep ρ k b v).1, δ, η, ft, tr) ∧ r = (sp_sweep ρ k b v).2) := by
  have hR : isRd I 2 ρ := hC.R
  have hw : wfR ρ := hW.1
  have b6 : zi ρ ≤ 6 := hw.1
  have b8 : zn ρ ≤ 8 := hw.2.1
  have bg : zg ρ ≤ 8 := hw.2.2.1
  have d8 : δ.1 ≤ 8 := hW.2.1.1
  refine c_in (L := [.ref 0, .int k, .int (nI b), .int v, .null]) rfl rfl ?_
  refine r_s (pc' := 1) dX6_sweep_0 rfl rfl ?_
  refine r_gr (pc' := 4) dX6_sweep_1 rfl fX6_20 (hl_ rfl) rfl rfl ?_
  refine r_s (pc' := 5) dX6_sweep_4 rfl rfl ?_
  refine r_Vi1 (pc' := 8) dX6_sweep_5 rfl lX6_97 (hl_ rfl) rfl rfl rfl rfl (Nat.le_of_ble_eq_true rfl) (Nat.le_of_ble_eq_true rfl) (ct_X2_hasInn (Or.inl rfl) hR.1 hw.bi) (fun r5 h5 e5 => ?_)
  rcases e5 with ⟨rfl, rfl, j5, hj5, rfl⟩ | ⟨rfl, rfl, hn5⟩
  · refine r_ifne_t (tgt := 13) dX6_sweep_8 (by decide) (by decide) ?_
    refine r_s (pc' := 14) dX6_sweep_13 rfl rfl ?_
    refine r_ifeq (pc' := 17) (tgt := 23) dX6_sweep_14 rfl (by decide) (fun c14 => ?_) (fun c14 => ?_)
    · refine r_s (pc' := 24) dX6_sweep_23 rfl rfl ?_
      refine r_c (pc' := 25) dX6_sweep_24 rfl kc_iconst_1 ?_
      have hT : (b = 1 ∧ nI j5 - 1 = nI j5 + 1) ∨ (b = 0 ∧ nI j5 - 1 = nI j5 - 1) := Or.inr ⟨(nI_eq (by omega) (by omega)).mp (c14 : nI b = nI 0), rfl⟩
      refine r_s (pc' := 26) dX6_sweep_25 rfl rfl ?_
      have ht := hT
      refine r_st_4_5 (pc' := 28) dX6_sweep_26 rfl rfl rfl ?_
      refine r_s (pc' := 29) dX6_sweep_28 rfl rfl ?_
      refine r_gr (pc' := 32) dX6_sweep_29 rfl fX6_20 (hl_ rfl) rfl rfl ?_
      refine r_s (pc' := 34) dX6_sweep_32 rfl rfl ?_
      refine r_Vi1 (pc' := 37) dX6_sweep_34 rfl lX6_97 (hl_ rfl) rfl rfl rfl rfl (Nat.le_of_ble_eq_true rfl) (Nat.le_of_ble_eq_true rfl) (ct_X2_hasInn (Or.inl rfl) hR.1 hw.bi) (fun r34 h34 e34 => ?_)
      rcases e34 with ⟨rfl, rfl, j34, hj34, hk34⟩ | ⟨rfl, rfl, hn34⟩
      · refine r_ifne_t (tgt := 42) dX6_sweep_37 (by decide) (by decide) ?_
        refine r_s (pc' := 43) dX6_sweep_42 rfl rfl ?_
        refine r_iflt (pc' := 46) (tgt := 52) dX6_sweep_43 rfl (by decide) (fun c43 => ?_) (fun c43 => ?_)
        · refine r_c (pc' := 54) dX6_sweep_52 rfl kc_bipush_m2 ?_
          refine r_reti dX6_sweep_54 rfl (rfl) (Nat.le_of_ble_eq_true rfl) (Nat.le_of_ble_eq_true rfl) ⟨_, rfl, ?_⟩
          have hto : (b = 1 ∧ _ = nI j5 + 1) ∨ (b = 0 ∧ _ = nI j5 - 1) := ht
          rcases sweep_to hj5 b6 hto with ⟨i, hi, e, e2, hn⟩ | ⟨hn, -⟩
          rotate_left
          · exact absurd hk34 (hn _ hj34)
          · exact ⟨I, rfl, fun _ _ => rfl, by rw [show sp_sweep ρ (nI j5) b v = (ρ, -2) by rw [sp_sweep, if_pos (ok_in hj5 hw.bi), ix_nI (by omega), if_pos hn, ok_no (by decide) (x_lo c43 (by decide))]; rfl]; exact hC, by rw [show sp_sweep ρ (nI j5) b v = (ρ, -2) by rw [sp_sweep, if_pos (ok_in hj5 hw.bi), ix_nI (by omega), if_pos hn, ok_no (by decide) (x_lo c43 (by decide))]; rfl]⟩
        · refine r_s (pc' := 47) dX6_sweep_46 rfl rfl ?_
          refine r_c (pc' := 49) dX6_sweep_47 rfl kc_bipush_9 ?_
          refine r_cle (pc' := 52) (tgt := 55) dX6_sweep_49 rfl (by decide) (fun c49 => ?_) (fun c49 => ?_)
          · have hto : (b = 1 ∧ _ = nI j5 + 1) ∨ (b = 0 ∧ _ = nI j5 - 1) := ht
            rcases sweep_to hj5 b6 hto with ⟨i, hi, e, e2, hn⟩ | ⟨hn, -⟩
            rotate_left
            · exact absurd hk34 (hn _ hj34)
            obtain ⟨vv, hv, rfl⟩ := x_in' (n := 9) c43 c49 (by decide)
            rw [e]
            clear hk34 ht e hto
            have hne : j5 ≠ i := by (rw [e2]; split <;> omega)
            have hs9 := hw.s9 hj5
            have ht9 := hw.s9 hi
            exact fin_sweep hC hW hj5 hi hne e2 hn (by omega)
          · refine r_c (pc' := 54) dX6_sweep_52 rfl kc_bipush_m2 ?_
            refine r_reti dX6_sweep_54 rfl (rfl) (Nat.le_of_ble_eq_true rfl) (Nat.le_of_ble_eq_true rfl) ⟨_, rfl, ?_⟩
            have hto : (b = 1 ∧ _ = nI j5 + 1) ∨ (b = 0 ∧ _ = nI j5 - 1) := ht
            rcases sweep_to hj5 b6 hto with ⟨i, hi, e, e2, hn⟩ | ⟨hn, -⟩
            rotate_left
            · exact absurd hk34 (hn _ hj34)
            · exact ⟨I, rfl, fun _ _ => rfl, by rw [show sp_sweep ρ (nI j5) b v = (ρ, -2) by rw [sp_sweep, if_pos (ok_in hj5 hw.bi), ix_nI (by omega), if_pos hn, ok_no (by decide) (x_hi' (n := 9) (x_nle c49) (by decide))]; rfl]; exact hC, by rw [show sp_sweep ρ (nI j5) b v = (ρ, -2) by rw [sp_sweep, if_pos (ok_in hj5 hw.bi), ix_nI (by omega), if_pos hn, ok_no (by decide) (x_hi' (n := 9) (x_nle c49) (by decide))]; rfl]⟩
      · refine r_ifne_f (pc' := 40) (tgt := 42) dX6_sweep_37 rfl (by decide) (by decide) ?_
        refine r_c (pc' := 41) dX6_sweep_40 rfl kc_iconst_m1 ?_
        refine r_reti dX6_sweep_41 rfl (rfl) (Nat.le_of_ble_eq_true rfl) (Nat.le_of_ble_eq_true rfl) ⟨_, rfl, ?_⟩
        have hto : (b = 1 ∧ _ = nI j5 + 1) ∨ (b = 0 ∧ _ = nI j5 - 1) := ht
        rcases sweep_to hj5 b6 hto with ⟨i, hi, e, -⟩ | ⟨-, hn⟩
        · exact absurd e (hn34 i hi)
        · exact ⟨I, rfl, fun _ _ => rfl, by rw [show sp_sweep ρ (nI j5) b v = (ρ, -1) by rw [sp_sweep, if_pos (ok_in hj5 hw.bi), ix_nI (by omega), if_neg hn]]; exact hC, by rw [show sp_sweep ρ (nI j5) b v = (ρ, -1) by rw [sp_sweep, if_pos (ok_in hj5 hw.bi), ix_nI (by omega), if_neg hn]]⟩
    · refine r_s (pc' := 18) dX6_sweep_17 rfl rfl ?_
      refine r_c (pc' := 19) dX6_sweep_18 rfl kc_iconst_1 ?_
      have hT : (b = 1 ∧ nI j5 + 1 = nI j5 + 1) ∨ (b = 0 ∧ nI j5 + 1 = nI j5 - 1) := Or.inl ⟨by have := b01_1 hb c14; exact ((nI_eq (by omega) (by omega)).mp (this.symm : nI b = nI 1)), rfl⟩
      refine r_s (pc' := 20) dX6_sweep_19 rfl rfl ?_
      refine r_goto (tgt := 26) dX6_sweep_20 (by decide) ?_
      have ht := hT
      refine r_st_4_5 (pc' := 28) dX6_sweep_26 rfl rfl rfl ?_
      refine r_s (pc' := 29) dX6_sweep_28 rfl rfl ?_
      refine r_gr (pc' := 32) dX6_sweep_29 rfl fX6_20 (hl_ rfl) rfl rfl ?_
      refine r_s (pc' := 34) dX6_sweep_32 rfl rfl ?_
      refine r_Vi1 (pc' := 37) dX6_sweep_34 rfl lX6_97 (hl_ rfl) rfl rfl rfl rfl (Nat.le_of_ble_eq_true rfl) (Nat.le_of_ble_eq_true rfl) (ct_X2_hasInn (Or.inl rfl) hR.1 hw.bi) (fun r34 h34 e34 => ?_)
      rcases e34 with ⟨rfl, rfl, j34, hj34, hk34⟩ | ⟨rfl, rfl, hn34⟩
      · refine r_ifne_t (tgt := 42) dX6_sweep_37 (by decide) (by decide) ?_
        refine r_s (pc' := 43) dX6_sweep_42 rfl rfl ?_
        refine r_iflt (pc' := 46) (tgt := 52) dX6_sweep_43 rfl (by decide) (fun c43 => ?_) (fun c43 => ?_)
        · refine r_c (pc' := 54) dX6_sweep_52 rfl kc_bipush_m2 ?_
          refine r_reti dX6_sweep_54 rfl (rfl) (Nat.le_of_ble_eq_true rfl) (Nat.le_of_ble_eq_true rfl) ⟨_, rfl, ?_⟩
          have hto : (b = 1 ∧ _ = nI j5 + 1) ∨ (b = 0 ∧ _ = nI j5 - 1) := ht
          rcases sweep_to hj5 b6 hto with ⟨i, hi, e, e2, hn⟩ | ⟨hn, -⟩
          rotate_left
          · exact absurd hk34 (hn _ hj34)
          · exact ⟨I, rfl, fun _ _ => rfl, by rw [show sp_sweep ρ (nI j5) b v = (ρ, -2) by rw [sp_sweep, if_pos (ok_in hj5 hw.bi), ix_nI (by omega), if_pos hn, ok_no (by decide) (x_lo c43 (by decide))]; rfl]; exact hC, by rw [show sp_sweep ρ (nI j5) b v = (ρ, -2) by rw [sp_sweep, if_pos (ok_in hj5 hw.bi), ix_nI (by omega), if_pos hn, ok_no (by decide) (x_lo c43 (by decide))]; rfl]⟩
        · refine r_s (pc' := 47) dX6_sweep_46 rfl rfl ?_
          refine r_c (pc' := 49) dX6_sweep_47 rfl kc_bipush_9 ?_
          refine r_cle (pc' := 52) (tgt := 55) dX6_sweep_49 rfl (by decide) (fun c49 => ?_) (fun c49 => ?_)
          · have hto : (b = 1 ∧ _ = nI j5 + 1) ∨ (b = 0 ∧ _ = nI j5 - 1) := ht
            rcases sweep_to hj5 b6 hto with ⟨i, hi, e, e2, hn⟩ | ⟨hn, -⟩
            rotate_left
            · exact absurd hk34 (hn _ hj34)
            obtain ⟨vv, hv, rfl⟩ := x_in' (n := 9) c43 c49 (by decide)
            rw [e]
            clear hk34 ht e hto
            have hne : j5 ≠ i := by (rw [e2]; split <;> omega)
            have hs9 := hw.s9 hj5
            have ht9 := hw.s9 hi
            exact fin_sweep hC hW hj5 hi hne e2 hn (by omega)
          · refine r_c (pc' := 54) dX6_sweep_52 rfl kc_bipush_m2 ?_
            refine r_reti dX6_sweep_54 rfl (rfl) (Nat.le_of_ble_eq_true rfl) (Nat.le_of_ble_eq_true rfl) ⟨_, rfl, ?_⟩
            have hto : (b = 1 ∧ _ = nI j5 + 1) ∨ (b = 0 ∧ _ = nI j5 - 1) := ht
            rcases sweep_to hj5 b6 hto with ⟨i, hi, e, e2, hn⟩ | ⟨hn, -⟩
            rotate_left
            · exact absurd hk34 (hn _ hj34)
            · exact ⟨I, rfl, fun _ _ => rfl, by rw [show sp_sweep ρ (nI j5) b v = (ρ, -2) by rw [sp_sweep, if_pos (ok_in hj5 hw.bi), ix_nI (by omega), if_pos hn, ok_no (by decide) (x_hi' (n := 9) (x_nle c49) (by decide))]; rfl]; exact hC, by rw [show sp_sweep ρ (nI j5) b v = (ρ, -2) by rw [sp_sweep, if_pos (ok_in hj5 hw.bi), ix_nI (by omega), if_pos hn, ok_no (by decide) (x_hi' (n := 9) (x_nle c49) (by decide))]; rfl]⟩
      · refine r_ifne_f (pc' := 40) (tgt := 42) dX6_sweep_37 rfl (by decide) (by decide) ?_
        refine r_c (pc' := 41) dX6_sweep_40 rfl kc_iconst_m1 ?_
        refine r_reti dX6_sweep_41 rfl (rfl) (Nat.le_of_ble_eq_true rfl) (Nat.le_of_ble_eq_true rfl) ⟨_, rfl, ?_⟩
        have hto : (b = 1 ∧ _ = nI j5 + 1) ∨ (b = 0 ∧ _ = nI j5 - 1) := ht
        rcases sweep_to hj5 b6 hto with ⟨i, hi, e, -⟩ | ⟨-, hn⟩
        · exact absurd e (hn34 i hi)
        · exact ⟨I, rfl, fun _ _ => rfl, by rw [show sp_sweep ρ (nI j5) b v = (ρ, -1) by rw [sp_sweep, if_pos (ok_in hj5 hw.bi), ix_nI (by omega), if_neg hn]]; exact hC, by rw [show sp_sweep ρ (nI j5) b v = (ρ, -1) by rw [sp_sweep, if_pos (ok_in hj5 hw.bi), ix_nI (by omega), if_neg hn]]⟩
  · refine r_ifne_f (pc' := 11) (tgt := 13) dX6_sweep_8 rfl (by decide) (by decide) ?_
    refine r_c (pc' := 12) dX6_sweep_11 rfl kc_iconst_m1 ?_
    refine r_reti dX6_sweep_12 rfl (rfl) (Nat.le_of_ble_eq_true rfl) (Nat.le_of_ble_eq_true rfl) ⟨_, rfl, ?_⟩
    exact ⟨I, rfl, fun _ _ => rfl, by rw [show sp_sweep ρ k b v = (ρ, -1) by rw [sp_sweep, ok_no hw.bi hn5]; rfl]; exact hC, by rw [show sp_sweep ρ k b v = (ρ, -1) by rw [sp_sweep, ok_no hw.bi hn5]; rfl]⟩

set_option maxHeartbeats 4000000 in
set_option maxRecDepth 100000 in
theorem ct_X6_isSheet {d : Nat} {h : sm_H} {k : Int32} : ci (d + 1) MX6_isSheet [.int k] h (fun r h' => (h' = h ∧ r = 1 ∧ ∃ j, j < 4 ∧ k = nI j) ∨ (h' = h ∧ r = 0 ∧ ∀ j, j < 4 → k ≠ nI j)) := by
  refine c_in (L := [.int k]) rfl rfl ?_
  refine r_s (pc' := 1) dX6_isSheet_0 rfl rfl ?_
  refine r_iflt (pc' := 4) (tgt := 13) dX6_isSheet_1 rfl (by decide) (fun c1 => ?_) (fun c1 => ?_)
  · refine r_c (pc' := 14) dX6_isSheet_13 rfl kc_iconst_0 ?_
    refine r_reti dX6_isSheet_14 rfl (rfl) (Nat.le_of_ble_eq_true rfl) (Nat.le_of_ble_eq_true rfl) ⟨_, rfl, ?_⟩
    exact Or.inr ⟨rfl, rfl, x_lo ‹_› (by decide)⟩
  · refine r_s (pc' := 5) dX6_isSheet_4 rfl rfl ?_
    refine r_c (pc' := 6) dX6_isSheet_5 rfl kc_iconst_4 ?_
    refine r_cge (pc' := 9) (tgt := 13) dX6_isSheet_6 rfl (by decide) (fun c6 => ?_) (fun c6 => ?_)
    · refine r_c (pc' := 14) dX6_isSheet_13 rfl kc_iconst_0 ?_
      refine r_reti dX6_isSheet_14 rfl (rfl) (Nat.le_of_ble_eq_true rfl) (Nat.le_of_ble_eq_true rfl) ⟨_, rfl, ?_⟩
      exact Or.inr ⟨rfl, rfl, x_hi (n := 4) ‹_› (by decide)⟩
    · refine r_c (pc' := 10) dX6_isSheet_9 rfl kc_iconst_1 ?_
      refine r_goto (tgt := 14) dX6_isSheet_10 (by decide) ?_
      refine r_reti dX6_isSheet_14 rfl (rfl) (Nat.le_of_ble_eq_true rfl) (Nat.le_of_ble_eq_true rfl) ⟨_, rfl, ?_⟩
      exact Or.inl ⟨rfl, rfl, x_in (n := 4) ‹_› (x_nle ‹_›) (by decide)⟩

set_option maxHeartbeats 4000000 in
set_option maxRecDepth 100000 in
theorem ct_X6_isLane {d : Nat} {h : sm_H} {k : Int32} : ci (d + 1) MX6_isLane [.int k] h (fun r h' => (h' = h ∧ r = 1 ∧ ∃ j, j < 3 ∧ k = nI j) ∨ (h' = h ∧ r = 0 ∧ ∀ j, j < 3 → k ≠ nI j)) := by
  refine c_in (L := [.int k]) rfl rfl ?_
  refine r_s (pc' := 1) dX6_isLane_0 rfl rfl ?_
  refine r_iflt (pc' := 4) (tgt := 13) dX6_isLane_1 rfl (by decide) (fun c1 => ?_) (fun c1 => ?_)
  · refine r_c (pc' := 14) dX6_isLane_13 rfl kc_iconst_0 ?_
    refine r_reti dX6_isLane_14 rfl (rfl) (Nat.le_of_ble_eq_true rfl) (Nat.le_of_ble_eq_true rfl) ⟨_, rfl, ?_⟩
    exact Or.inr ⟨rfl, rfl, x_lo ‹_› (by decide)⟩
  · refine r_s (pc' := 5) dX6_isLane_4 rfl rfl ?_
    refine r_c (pc' := 6) dX6_isLane_5 rfl kc_iconst_3 ?_
    refine r_cge (pc' := 9) (tgt := 13) dX6_isLane_6 rfl (by decide) (fun c6 => ?_) (fun c6 => ?_)
    · refine r_c (pc' := 14) dX6_isLane_13 rfl kc_iconst_0 ?_
      refine r_reti dX6_isLane_14 rfl (rfl) (Nat.le_of_ble_eq_true rfl) (Nat.le_of_ble_eq_true rfl) ⟨_, rfl, ?_⟩
      exact Or.inr ⟨rfl, rfl, x_hi (n := 3) ‹_› (by decide)⟩
    · refine r_c (pc' := 10) dX6_isLane_9 rfl kc_iconst_1 ?_
      refine r_goto (tgt := 14) dX6_isLane_10 (by decide) ?_
      refine r_reti dX6_isLane_14 rfl (rfl) (Nat.le_of_ble_eq_true rfl) (Nat.le_of_ble_eq_true rfl) ⟨_, rfl, ?_⟩
      exact Or.inl ⟨rfl, rfl, x_in (n := 3) ‹_› (x_nle ‹_›) (by decide)⟩

set_option maxHeartbeats 4000000 in
set_option maxRecDepth 100000 in
theorem ct_X6_faulted {d : Nat} {x : hX} {I : Nat → Nat → Int32} {f : Int32} : ci (d + 1) MX6_faulted [.ref 0, .int f] (hp x I) (fun r h' => h' = hp x (sm_up I 0 6 f) ∧ r = -10 - f) := by
  refine c_in (L := [.ref 0, .int f]) rfl rfl ?_
  refine r_s (pc' := 1) dX6_faulted_0 rfl rfl ?_
  refine r_s (pc' := 2) dX6_faulted_1 rfl rfl ?_
  refine h_pi (pc' := 5) dX6_faulted_2 rfl fX6_52 rfl (hl_ rfl) rfl ?_
  refine r_c (pc' := 7) dX6_faulted_5 rfl kc_bipush_m10 ?_
  refine r_s (pc' := 8) dX6_faulted_7 rfl rfl ?_
  refine r_s (pc' := 9) dX6_faulted_8 rfl rfl ?_
  refine r_reti dX6_faulted_9 rfl (rfl) (Nat.le_of_ble_eq_true rfl) (Nat.le_of_ble_eq_true rfl) ⟨_, rfl, ?_⟩
  exact ⟨rfl, rfl⟩

set_option maxHeartbeats 4000000 in
set_option maxRecDepth 100000 in
theorem ct_X6_beginBody {d : Nat} {x : hX} {I : Nat → Nat → Int32} {n : Nat} : cv (d + 1) MX6_beginBody [.ref 0, .int (nI n)] (hp x I) (fun h' => h' = hp x (sm_up I 0 7 (bt_ n (I 0 7)))) := by
  refine c_in (L := [.ref 0, .int (nI n)]) rfl rfl ?_
  refine r_s (pc' := 1) dX6_beginBody_0 rfl rfl ?_
  refine r_c (pc' := 3) dX6_beginBody_1 rfl kc_bipush_31 ?_
  refine r_s (pc' := 4) dX6_beginBody_3 rfl rfl ?_
  refine h_gi (pc' := 7) dX6_beginBody_4 rfl fX6_56 (hl_ rfl) rfl ?_
  refine r_s (pc' := 8) dX6_beginBody_7 rfl rfl ?_
  refine r_s (pc' := 9) dX6_beginBody_8 rfl rfl ?_
  refine r_s (pc' := 10) dX6_beginBody_9 rfl rfl ?_
  refine h_pi (pc' := 13) dX6_beginBody_10 rfl fX6_56 rfl (hl_ rfl) rfl ?_
  refine r_retv dX6_beginBody_13 rfl (Nat.le_of_ble_eq_true rfl) (Nat.le_of_ble_eq_true rfl) ⟨rfl, ?_⟩
  exact rfl

set_option maxHeartbeats 4000000 in
set_option maxRecDepth 100000 in
theorem ct_X6_innTelling {d : Nat} {x : hX} {I : Nat → Nat → Int32} {j s : Nat} (hj : j < 6) (hs : I 4 j = nI s) : ci (d + 2) MX6_innTelling [.ref 0, .int (nI j)] (hp x I) (fun r h' => h' = hp x (sm_up I 0 7 (bt_ 1 (I 0 7))) ∧ r = nI s) := by
  refine c_in (L := [.ref 0, .int (nI j)]) rfl rfl ?_
  refine r_s (pc' := 1) dX6_innTelling_0 rfl rfl ?_
  refine r_c (pc' := 2) dX6_innTelling_1 rfl kc_iconst_1 ?_
  refine r_Vv1 (pc' := 5) dX6_innTelling_2 rfl lX6_252 (hl_ rfl) rfl rfl rfl rfl (Nat.le_of_ble_eq_true rfl) (Nat.le_of_ble_eq_true rfl) (ct_X6_beginBody (n := 1)) (fun h2 e2 => ?_)
  obtain rfl := e2
  refine r_s (pc' := 6) dX6_innTelling_5 rfl rfl ?_
  refine r_gr (pc' := 9) dX6_innTelling_6 rfl fX6_20 (hl_ rfl) rfl rfl ?_
  refine r_gr (pc' := 12) dX6_innTelling_9 rfl fX6_104 (hl_ rfl) rfl rfl ?_
  refine r_s (pc' := 13) dX6_innTelling_12 rfl rfl ?_
  refine h_ald (pc' := 14) dX6_innTelling_13 rfl (hl_ rfl) rfl (vp_in_nI (by omega) (by decide)) (nI_clamp (by omega)) ?_
  refine r_top (show sm_up I 0 7 _ 4 j = nI s by rw [up_o (by decide)]; exact hs) ?_
  refine r_reti dX6_innTelling_14 rfl (rfl) (Nat.le_of_ble_eq_true rfl) (Nat.le_of_ble_eq_true rfl) ⟨_, rfl, ?_⟩
  exact ⟨rfl, rfl⟩

set_option maxHeartbeats 4000000 in
set_option maxRecDepth 100000 in
theorem ct_X6_lodgeTelling {d : Nat} {x : hX} {I : Nat → Nat → Int32} {j s : Nat} (hj : j < 6) (hs : I 4 j = nI s) : ci (d + 3) MX6_lodgeTelling [.ref 0, .int (nI j)] (hp x I) (fun r h' => (∃ I', h' = hp x I' ∧ I' 0 7 = bt_ 1 (bt_ 2 (I 0 7)) ∧ (∀ i, i ≠ 7 → I' 0 i = I 0 i) ∧ (∀ q, q ≠ 0 → I' q = I q)) ∧ r = nI (s + 100)) := by
  refine c_in (L := [.ref 0, .int (nI j)]) rfl rfl ?_
  refine r_s (pc' := 1) dX6_lodgeTelling_0 rfl rfl ?_
  refine r_c (pc' := 2) dX6_lodgeTelling_1 rfl kc_iconst_2 ?_
  refine r_Vv1 (pc' := 5) dX6_lodgeTelling_2 rfl lX6_252 (hl_ rfl) rfl rfl rfl rfl (Nat.le_of_ble_eq_true rfl) (Nat.le_of_ble_eq_true rfl) (ct_X6_beginBody (n := 2)) (fun h2 e2 => ?_)
  obtain rfl := e2
  refine r_s (pc' := 6) dX6_lodgeTelling_5 rfl rfl ?_
  refine r_s (pc' := 7) dX6_lodgeTelling_6 rfl rfl ?_
  refine r_Vi1 (pc' := 10) dX6_lodgeTelling_7 rfl lX6_240 (hl_ rfl) rfl rfl rfl rfl (Nat.le_of_ble_eq_true rfl) (Nat.le_of_ble_eq_true rfl) (ct_X6_innTelling (s := s) hj (show sm_up _ 0 7 _ 4 j = nI s by rw [up_o (by decide)]; exact hs)) (fun r7 h7 e7 => ?_)
  obtain ⟨rfl, rfl⟩ := e7
  refine r_c (pc' := 12) dX6_lodgeTelling_10 rfl kc_bipush_100 ?_
  refine r_s (pc' := 13) dX6_lodgeTelling_12 rfl rfl ?_
  refine r_top (nI_add s 100) ?_
  refine r_reti dX6_lodgeTelling_13 rfl (rfl) (Nat.le_of_ble_eq_true rfl) (Nat.le_of_ble_eq_true rfl) ⟨_, rfl, ?_⟩
  exact ⟨⟨_, rfl, by rw [up_s, up_s], fun i hi => by rw [up_n hi, up_n hi], fun q hq => by rw [up_o hq, up_o hq]⟩, rfl⟩

set_option maxHeartbeats 4000000 in
set_option maxRecDepth 100000 in
theorem ct_X6_castleTelling {d : Nat} {x : hX} {I : Nat → Nat → Int32} {j s : Nat} (hj : j < 6) (hs : I 4 j = nI s) : ci (d + 4) MX6_castleTelling [.ref 0, .int (nI j)] (hp x I) (fun r h' => (∃ I', h' = hp x I' ∧ I' 0 7 = bt_ 1 (bt_ 1 (bt_ 2 (bt_ 3 (I 0 7)))) ∧ (∀ i, i ≠ 7 → I' 0 i = I 0 i) ∧ (∀ q, q ≠ 0 → I' q = I q)) ∧ r = nI (2 * s + 100)) := by
  refine c_in (L := [.ref 0, .int (nI j)]) rfl rfl ?_
  refine r_s (pc' := 1) dX6_castleTelling_0 rfl rfl ?_
  refine r_c (pc' := 2) dX6_castleTelling_1 rfl kc_iconst_3 ?_
  refine r_Vv1 (pc' := 5) dX6_castleTelling_2 rfl lX6_252 (hl_ rfl) rfl rfl rfl rfl (Nat.le_of_ble_eq_true rfl) (Nat.le_of_ble_eq_true rfl) (ct_X6_beginBody (n := 3)) (fun h2 e2 => ?_)
  obtain rfl := e2
  refine r_s (pc' := 6) dX6_castleTelling_5 rfl rfl ?_
  refine r_s (pc' := 7) dX6_castleTelling_6 rfl rfl ?_
  refine r_Vi1 (pc' := 10) dX6_castleTelling_7 rfl lX6_237 (hl_ rfl) rfl rfl rfl rfl (Nat.le_of_ble_eq_true rfl) (Nat.le_of_ble_eq_true rfl) (ct_X6_lodgeTelling (s := s) hj (show sm_up _ 0 7 _ 4 j = nI s by rw [up_o (by decide)]; exact hs)) (fun r7 h7 e7 => ?_)
  obtain ⟨⟨I1, rfl, a1, a2, a3⟩, rfl⟩ := e7
  refine r_s (pc' := 11) dX6_castleTelling_10 rfl rfl ?_
  refine r_s (pc' := 12) dX6_castleTelling_11 rfl rfl ?_
  refine r_Vi1 (pc' := 15) dX6_castleTelling_12 rfl lX6_240 (hl_ rfl) rfl rfl rfl rfl (Nat.le_of_ble_eq_true rfl) (Nat.le_of_ble_eq_true rfl) (ct_X6_innTelling (s := s) hj (by rw [a3 4 (by decide), up_o (by decide)]; exact hs)) (fun r12 h12 e12 => ?_)
  obtain ⟨rfl, rfl⟩ := e12
  refine r_s (pc' := 16) dX6_castleTelling_15 rfl rfl ?_
  refine r_top ((nI_add _ _).trans (congrArg nI (show s + 100 + s = 2 * s + 100 by omega))) ?_
  refine r_reti dX6_castleTelling_16 rfl (rfl) (Nat.le_of_ble_eq_true rfl) (Nat.le_of_ble_eq_true rfl) ⟨_, rfl, ?_⟩
  exact ⟨⟨_, rfl, by rw [up_s, a1, up_s], fun i hi => by rw [up_n hi, a2 i hi, up_n hi], fun q hq => by rw [up_o hq, a3 q hq, up_o hq]⟩, rfl⟩

set_option maxHeartbeats 4000000 in
set_option maxRecDepth 100000 in
theorem ct_X6_lentLight {d : Nat} {x : hX} {I : Nat → Nat → Int32} {k : Int32} : ci (d + 2) MX6_lentLight [.ref 0, .int k] (hp x I) (fun r h' => h' = hp x (sm_up I 0 7 (bt_ 4 (I 0 7))) ∧ r = k) := by
  refine c_in (L := [.ref 0, .int k]) rfl rfl ?_
  refine r_s (pc' := 1) dX6_lentLight_0 rfl rfl ?_
  refine r_c (pc' := 2) dX6_lentLight_1 rfl kc_iconst_4 ?_
  refine r_Vv1 (pc' := 5) dX6_lentLight_2 rfl lX6_252 (hl_ rfl) rfl rfl rfl rfl (Nat.le_of_ble_eq_true rfl) (Nat.le_of_ble_eq_true rfl) (ct_X6_beginBody (n := 4)) (fun h2 e2 => ?_)
  obtain rfl := e2
  refine r_s (pc' := 6) dX6_lentLight_5 rfl rfl ?_
  refine r_reti dX6_lentLight_6 rfl (rfl) (Nat.le_of_ble_eq_true rfl) (Nat.le_of_ble_eq_true rfl) ⟨_, rfl, ?_⟩
  exact ⟨rfl, rfl⟩

set_option maxHeartbeats 4000000 in
set_option maxRecDepth 100000 in
theorem ct_X6_castleLight {d : Nat} {x : hX} {I : Nat → Nat → Int32} : ci (d + 2) MX6_castleLight [.ref 0] (hp x I) (fun r h' => h' = hp x (sm_up I 0 7 (bt_ 5 (I 0 7))) ∧ r = 80) := by
  refine c_in (L := [.ref 0]) rfl rfl ?_
  refine r_s (pc' := 1) dX6_castleLight_0 rfl rfl ?_
  refine r_c (pc' := 2) dX6_castleLight_1 rfl kc_iconst_5 ?_
  refine r_Vv1 (pc' := 5) dX6_castleLight_2 rfl lX6_252 (hl_ rfl) rfl rfl rfl rfl (Nat.le_of_ble_eq_true rfl) (Nat.le_of_ble_eq_true rfl) (ct_X6_beginBody (n := 5)) (fun h2 e2 => ?_)
  obtain rfl := e2
  refine r_c (pc' := 7) dX6_castleLight_5 rfl kc_bipush_80 ?_
  refine r_reti dX6_castleLight_7 rfl (rfl) (Nat.le_of_ble_eq_true rfl) (Nat.le_of_ble_eq_true rfl) ⟨_, rfl, ?_⟩
  exact ⟨rfl, rfl⟩

theorem CI.tr {I I' : Nat → Nat → Int32} {ρ : zR} {δ : zD} {η : zH} {f t v : Int32} (h : CI I (ρ, δ, η, f, t)) (h7 : I' 0 7 = v) (h0 : ∀ i, i ≠ 7 → I' 0 i = I 0 i) (hs : ∀ q, q ≠ 0 → I' q = I q) : CI I' (ρ, δ, η, f, v) := by
  have e : I' = sm_up I 0 7 v := by
    funext q i
    by_cases hq : q = 0
    · subst hq
      by_cases hi : i = 7
      · subst hi; rw [up_s, h7]
      · rw [up_n hi, h0 i hi]
    · rw [up_o hq, hs q hq]
  rw [e]
  exact h.upt v

set_option maxHeartbeats 4000000 in
set_option maxRecDepth 100000 in
theorem pc_tell {d : Nat} {x : hX} {I : Nat → Nat → Int32} {ρ : zR} {δ : zD} {η : zH} {ft tr : Int32} {k : Int32} (hC : CI I (ρ, δ, η, ft, tr)) (hW : WF (ρ, δ, η, ft, tr)) : ci (d + 5) MX6_tell [.ref 0, .int k] (hp x I) (fun r h' => ∃ I', h' = hp x I' ∧ (∀ q, 80 ≤ q → I' q = I q) ∧ CI I' (ρ, δ, η, ft, (sp_tell ρ tr k).1) ∧ r = (sp_tell ρ tr k).2) := by
  have hR : isRd I 2 ρ := hC.R
  have hw : wfR ρ := hW.1
  have b6 : zi ρ ≤ 6 := hw.1
  have b8 : zn ρ ≤ 8 := hw.2.1
  have bg : zg ρ ≤ 8 := hw.2.2.1
  have d8 : δ.1 ≤ 8 := hW.2.1.1
  refine c_in (L := [.ref 0, .int k]) rfl rfl ?_
  refine r_s (pc' := 1) dX6_tell_0 rfl rfl ?_
  refine r_gr (pc' := 4) dX6_tell_1 rfl fX6_20 (hl_ rfl) rfl rfl ?_
  refine r_s (pc' := 5) dX6_tell_4 rfl rfl ?_
  refine r_Vi1 (pc' := 8) dX6_tell_5 rfl lX6_97 (hl_ rfl) rfl rfl rfl rfl (Nat.le_of_ble_eq_true rfl) (Nat.le_of_ble_eq_true rfl) (ct_X2_hasInn (Or.inl rfl) hR.1 hw.bi) (fun r5 h5 e5 => ?_)
  rcases e5 with ⟨rfl, rfl, j5, hj5, rfl⟩ | ⟨rfl, rfl, hn5⟩
  · refine r_ifne_t (tgt := 13) dX6_tell_8 (by decide) (by decide) ?_
    refine r_s (pc' := 14) dX6_tell_13 rfl rfl ?_
    refine r_gr (pc' := 17) dX6_tell_14 rfl fX6_20 (hl_ rfl) rfl rfl ?_
    refine r_gr (pc' := 20) dX6_tell_17 rfl fX6_100 (hl_ rfl) rfl rfl ?_
    refine r_s (pc' := 21) dX6_tell_20 rfl rfl ?_
    refine h_ald (pc' := 22) dX6_tell_21 rfl (hl_ rfl) rfl (vp_in_nI (by omega) (by decide)) (nI_clamp (by omega)) ?_
    refine r_top (hR.k _ hj5) ?_
    rcases hw.kd hj5 with kd | kd | kd <;> rw [kd]
    · refine r_look (off := 38) (tgt := 60) dX6_tell_22 (by decide) (by decide) (by decide) ?_
      refine r_s (pc' := 61) dX6_tell_60 rfl rfl ?_
      refine r_s (pc' := 62) dX6_tell_61 rfl rfl ?_
      refine r_Vi1 (pc' := 65) dX6_tell_62 rfl lX6_240 (hl_ rfl) rfl rfl rfl rfl (Nat.le_of_ble_eq_true rfl) (Nat.le_of_ble_eq_true rfl) (ct_X6_innTelling (by omega) (hR.s _ hj5)) (fun r62 h62 e62 => ?_)
      obtain ⟨rfl, rfl⟩ := e62
      refine r_reti dX6_tell_65 rfl (rfl) (Nat.le_of_ble_eq_true rfl) (Nat.le_of_ble_eq_true rfl) ⟨_, rfl, ?_⟩
      have e2 : sp_tell ρ tr (nI j5) = (bt_ 1 tr, nI (zs ρ j5)) := by rw [sp_tell, if_pos (ok_in hj5 hw.bi), ix_nI (by omega), if_pos kd]
      rw [e2]
      exact ⟨_, rfl, fun q hq => up_o (by omega), by have := hC.upt (bt_ 1 (I 0 7)); rw [show I 0 7 = tr from hC.t] at this ⊢; exact this, rfl⟩
    · refine r_look (off := 32) (tgt := 54) dX6_tell_22 (by decide) (by decide) (by decide) ?_
      refine r_s (pc' := 55) dX6_tell_54 rfl rfl ?_
      refine r_s (pc' := 56) dX6_tell_55 rfl rfl ?_
      refine r_Vi1 (pc' := 59) dX6_tell_56 rfl lX6_237 (hl_ rfl) rfl rfl rfl rfl (Nat.le_of_ble_eq_true rfl) (Nat.le_of_ble_eq_true rfl) (ct_X6_lodgeTelling (by omega) (hR.s _ hj5)) (fun r56 h56 e56 => ?_)
      obtain ⟨⟨I1, rfl, a1, a2, a3⟩, rfl⟩ := e56
      refine r_reti dX6_tell_59 rfl (rfl) (Nat.le_of_ble_eq_true rfl) (Nat.le_of_ble_eq_true rfl) ⟨_, rfl, ?_⟩
      have e2 : sp_tell ρ tr (nI j5) = (bt_ 1 (bt_ 2 tr), nI (zs ρ j5 + 100)) := by rw [sp_tell, if_pos (ok_in hj5 hw.bi), ix_nI (by omega), if_neg (by rw [kd]; decide), if_pos kd]
      rw [e2]
      exact ⟨I1, rfl, fun q hq => a3 q (by omega), hC.tr (by rw [a1, show I 0 7 = tr from hC.t]) a2 a3, rfl⟩
    · refine r_look (off := 26) (tgt := 48) dX6_tell_22 (by decide) (by decide) (by decide) ?_
      refine r_s (pc' := 49) dX6_tell_48 rfl rfl ?_
      refine r_s (pc' := 50) dX6_tell_49 rfl rfl ?_
      refine r_Vi1 (pc' := 53) dX6_tell_50 rfl lX6_234 (hl_ rfl) rfl rfl rfl rfl (Nat.le_of_ble_eq_true rfl) (Nat.le_of_ble_eq_true rfl) (ct_X6_castleTelling (by omega) (hR.s _ hj5)) (fun r50 h50 e50 => ?_)
      obtain ⟨⟨I1, rfl, a1, a2, a3⟩, rfl⟩ := e50
      refine r_reti dX6_tell_53 rfl (rfl) (Nat.le_of_ble_eq_true rfl) (Nat.le_of_ble_eq_true rfl) ⟨_, rfl, ?_⟩
      have e2 : sp_tell ρ tr (nI j5) = (bt_ 1 (bt_ 1 (bt_ 2 (bt_ 3 tr))), nI (2 * zs ρ j5 + 100)) := by rw [sp_tell, if_pos (ok_in hj5 hw.bi), ix_nI (by omega), if_neg (by rw [kd]; decide), if_neg (by rw [kd]; decide)]
      rw [e2]
      exact ⟨I1, rfl, fun q hq => a3 q (by omega), hC.tr (by rw [a1, show I 0 7 = tr from hC.t]) a2 a3, rfl⟩
  · refine r_ifne_f (pc' := 11) (tgt := 13) dX6_tell_8 rfl (by decide) (by decide) ?_
    refine r_c (pc' := 12) dX6_tell_11 rfl kc_iconst_m1 ?_
    refine r_reti dX6_tell_12 rfl (rfl) (Nat.le_of_ble_eq_true rfl) (Nat.le_of_ble_eq_true rfl) ⟨_, rfl, ?_⟩
    exact ⟨I, rfl, fun _ _ => rfl, by rw [show sp_tell ρ tr k = (tr, -1) by rw [sp_tell, ok_no hw.bi hn5]; rfl]; exact hC, by rw [show sp_tell ρ tr k = (tr, -1) by rw [sp_tell, ok_no hw.bi hn5]; rfl]⟩

set_option maxHeartbeats 4000000 in
set_option maxRecDepth 100000 in
theorem pc_light {d : Nat} {x : hX} {I : Nat → Nat → Int32} {ρ : zR} {δ : zD} {η : zH} {ft tr : Int32} {k : Int32} (hC : CI I (ρ, δ, η, ft, tr)) (hW : WF (ρ, δ, η, ft, tr)) : ci (d + 3) MX6_light [.ref 0, .int k] (hp x I) (fun r h' => ∃ I', h' = hp x I' ∧ (∀ q, 80 ≤ q → I' q = I q) ∧ CI I' (ρ, δ, η, ft, (sp_light ρ tr k).1) ∧ r = (sp_light ρ tr k).2) := by
  have hR : isRd I 2 ρ := hC.R
  have hw : wfR ρ := hW.1
  have b6 : zi ρ ≤ 6 := hw.1
  have b8 : zn ρ ≤ 8 := hw.2.1
  have bg : zg ρ ≤ 8 := hw.2.2.1
  have d8 : δ.1 ≤ 8 := hW.2.1.1
  refine c_in (L := [.ref 0, .int k]) rfl rfl ?_
  refine r_s (pc' := 1) dX6_light_0 rfl rfl ?_
  refine r_gr (pc' := 4) dX6_light_1 rfl fX6_20 (hl_ rfl) rfl rfl ?_
  refine r_s (pc' := 5) dX6_light_4 rfl rfl ?_
  refine r_Vi1 (pc' := 8) dX6_light_5 rfl lX6_97 (hl_ rfl) rfl rfl rfl rfl (Nat.le_of_ble_eq_true rfl) (Nat.le_of_ble_eq_true rfl) (ct_X2_hasInn (Or.inl rfl) hR.1 hw.bi) (fun r5 h5 e5 => ?_)
  rcases e5 with ⟨rfl, rfl, j5, hj5, rfl⟩ | ⟨rfl, rfl, hn5⟩
  · refine r_ifne_t (tgt := 13) dX6_light_8 (by decide) (by decide) ?_
    refine r_s (pc' := 14) dX6_light_13 rfl rfl ?_
    refine r_gr (pc' := 17) dX6_light_14 rfl fX6_20 (hl_ rfl) rfl rfl ?_
    refine r_gr (pc' := 20) dX6_light_17 rfl fX6_100 (hl_ rfl) rfl rfl ?_
    refine r_s (pc' := 21) dX6_light_20 rfl rfl ?_
    refine h_ald (pc' := 22) dX6_light_21 rfl (hl_ rfl) rfl (vp_in_nI (by omega) (by decide)) (nI_clamp (by omega)) ?_
    refine r_top (hR.k _ hj5) ?_
    refine r_c (pc' := 23) dX6_light_22 rfl kc_iconst_2 ?_
    refine r_cne (pc' := 26) (tgt := 33) dX6_light_23 rfl (by decide) (fun c23 => ?_) (fun c23 => ?_)
    · refine r_s (pc' := 34) dX6_light_33 rfl rfl ?_
      refine r_s (pc' := 35) dX6_light_34 rfl rfl ?_
      refine r_Vi1 (pc' := 38) dX6_light_35 rfl lX6_246 (hl_ rfl) rfl rfl rfl rfl (Nat.le_of_ble_eq_true rfl) (Nat.le_of_ble_eq_true rfl) (ct_X6_lentLight) (fun r35 h35 e35 => ?_)
      obtain ⟨rfl, rfl⟩ := e35
      refine r_reti dX6_light_38 rfl (rfl) (Nat.le_of_ble_eq_true rfl) (Nat.le_of_ble_eq_true rfl) ⟨_, rfl, ?_⟩
      have kd : ¬ zk ρ j5 = 2 := fun e => c23 (by rw [e]; rfl)
      have e2 : sp_light ρ tr (nI j5) = (bt_ 4 tr, nI j5) := by rw [sp_light, if_pos (ok_in hj5 hw.bi), ix_nI (by omega), if_neg kd]
      rw [e2]
      exact ⟨_, rfl, fun q hq => up_o (by omega), by have := hC.upt (bt_ 4 (I 0 7)); rw [show I 0 7 = tr from hC.t] at this ⊢; exact this, rfl⟩
    · refine r_s (pc' := 27) dX6_light_26 rfl rfl ?_
      refine r_Vi0 (pc' := 30) dX6_light_27 rfl lX6_243 (hl_ rfl) rfl rfl rfl rfl (Nat.le_of_ble_eq_true rfl) (Nat.le_of_ble_eq_true rfl) (ct_X6_castleLight) (fun r27 h27 e27 => ?_)
      obtain ⟨rfl, rfl⟩ := e27
      refine r_goto (tgt := 38) dX6_light_30 (by decide) ?_
      refine r_reti dX6_light_38 rfl (rfl) (Nat.le_of_ble_eq_true rfl) (Nat.le_of_ble_eq_true rfl) ⟨_, rfl, ?_⟩
      have kd : zk ρ j5 = 2 := (nI_eq (by have := hw.kd hj5; omega) (by decide)).mp c23
      have e2 : sp_light ρ tr (nI j5) = (bt_ 5 tr, 80) := by rw [sp_light, if_pos (ok_in hj5 hw.bi), ix_nI (by omega), if_pos kd]
      rw [e2]
      exact ⟨_, rfl, fun q hq => up_o (by omega), by have := hC.upt (bt_ 5 (I 0 7)); rw [show I 0 7 = tr from hC.t] at this ⊢; exact this, rfl⟩
  · refine r_ifne_f (pc' := 11) (tgt := 13) dX6_light_8 rfl (by decide) (by decide) ?_
    refine r_c (pc' := 12) dX6_light_11 rfl kc_iconst_m1 ?_
    refine r_reti dX6_light_12 rfl (rfl) (Nat.le_of_ble_eq_true rfl) (Nat.le_of_ble_eq_true rfl) ⟨_, rfl, ?_⟩
    exact ⟨I, rfl, fun _ _ => rfl, by rw [show sp_light ρ tr k = (tr, -1) by rw [sp_light, ok_no hw.bi hn5]; rfl]; exact hC, by rw [show sp_light ρ tr k = (tr, -1) by rw [sp_light, ok_no hw.bi hn5]; rfl]⟩

set_option maxHeartbeats 4000000 in
set_option maxRecDepth 100000 in
theorem pc_trace {d : Nat} {x : hX} {I : Nat → Nat → Int32} {ρ : zR} {δ : zD} {η : zH} {ft tr : Int32} (hC : CI I (ρ, δ, η, ft, tr)) (hW : WF (ρ, δ, η, ft, tr)) : ci (d + 1) MX6_trace [.ref 0] (hp x I) (fun r h' => h' = hp x I ∧ r = tr) := by
  have hR : isRd I 2 ρ := hC.R
  have hw : wfR ρ := hW.1
  have b6 : zi ρ ≤ 6 := hw.1
  have b8 : zn ρ ≤ 8 := hw.2.1
  have bg : zg ρ ≤ 8 := hw.2.2.1
  have d8 : δ.1 ≤ 8 := hW.2.1.1
  refine c_in (L := [.ref 0]) rfl rfl ?_
  refine r_s (pc' := 1) dX6_trace_0 rfl rfl ?_
  refine h_gi (pc' := 4) dX6_trace_1 rfl fX6_56 (hl_ rfl) rfl ?_
  refine r_reti dX6_trace_4 rfl (rfl) (Nat.le_of_ble_eq_true rfl) (Nat.le_of_ble_eq_true rfl) ⟨_, rfl, ?_⟩
  exact ⟨rfl, hC.t⟩

set_option maxHeartbeats 4000000 in
set_option maxRecDepth 100000 in
theorem pc_fault {d : Nat} {x : hX} {I : Nat → Nat → Int32} {ρ : zR} {δ : zD} {η : zH} {ft tr : Int32} (hC : CI I (ρ, δ, η, ft, tr)) (hW : WF (ρ, δ, η, ft, tr)) : ci (d + 1) MX6_fault [.ref 0] (hp x I) (fun r h' => h' = hp x I ∧ r = ft) := by
  have hR : isRd I 2 ρ := hC.R
  have hw : wfR ρ := hW.1
  have b6 : zi ρ ≤ 6 := hw.1
  have b8 : zn ρ ≤ 8 := hw.2.1
  have bg : zg ρ ≤ 8 := hw.2.2.1
  have d8 : δ.1 ≤ 8 := hW.2.1.1
  refine c_in (L := [.ref 0]) rfl rfl ?_
  refine r_s (pc' := 1) dX6_fault_0 rfl rfl ?_
  refine h_gi (pc' := 4) dX6_fault_1 rfl fX6_52 (hl_ rfl) rfl ?_
  refine r_reti dX6_fault_4 rfl (rfl) (Nat.le_of_ble_eq_true rfl) (Nat.le_of_ble_eq_true rfl) ⟨_, rfl, ?_⟩
  exact ⟨rfl, hC.f⟩

set_option maxHeartbeats 4000000 in
set_option maxRecDepth 100000 in
theorem pc_as {d : Nat} {x : hX} {I : Nat → Nat → Int32} {ρ : zR} {δ : zD} {η : zH} {ft tr : Int32} {k w : Int32} (hC : CI I (ρ, δ, η, ft, tr)) (hW : WF (ρ, δ, η, ft, tr)) : ci (d + 2) MX6_as [.ref 0, .int k, .int w] (hp x I) (fun r h' => ∃ I', h' = hp x I' ∧ (∀ q, 80 ≤ q → I' q = I q) ∧ CI I' (ρ, δ, η, (sp_as ρ k w).1, tr) ∧ r = (sp_as ρ k w).2) := by
  have hR : isRd I 2 ρ := hC.R
  have hw : wfR ρ := hW.1
  have b6 : zi ρ ≤ 6 := hw.1
  have b8 : zn ρ ≤ 8 := hw.2.1
  have bg : zg ρ ≤ 8 := hw.2.2.1
  have d8 : δ.1 ≤ 8 := hW.2.1.1
  refine c_in (L := [.ref 0, .int k, .int w]) rfl rfl ?_
  refine r_s (pc' := 1) dX6_as_0 rfl rfl ?_
  refine r_c (pc' := 2) dX6_as_1 rfl kc_iconst_0 ?_
  refine h_pi (pc' := 5) dX6_as_2 rfl fX6_52 rfl (hl_ rfl) rfl ?_
  refine r_s (pc' := 6) dX6_as_5 rfl rfl ?_
  refine r_gr (pc' := 9) dX6_as_6 rfl fX6_20 (hl_ rfl) rfl rfl ?_
  refine r_s (pc' := 10) dX6_as_9 rfl rfl ?_
  refine r_Vi1 (pc' := 13) dX6_as_10 rfl lX6_97 (hl_ rfl) rfl rfl rfl rfl (Nat.le_of_ble_eq_true rfl) (Nat.le_of_ble_eq_true rfl) (ct_X2_hasInn (Or.inl rfl) (show isRd (sm_up I 0 6 0) 2 ρ from (hC.upf 0).R).1 hw.bi) (fun r10 h10 e10 => ?_)
  rcases e10 with ⟨rfl, rfl, j10, hj10, rfl⟩ | ⟨rfl, rfl, hn10⟩
  · refine r_ifne_t (tgt := 18) dX6_as_13 (by decide) (by decide) ?_
    refine r_s (pc' := 19) dX6_as_18 rfl rfl ?_
    refine r_iflt (pc' := 22) (tgt := 27) dX6_as_19 rfl (by decide) (fun c19 => ?_) (fun c19 => ?_)
    · refine r_c (pc' := 29) dX6_as_27 rfl kc_bipush_m2 ?_
      refine r_reti dX6_as_29 rfl (rfl) (Nat.le_of_ble_eq_true rfl) (Nat.le_of_ble_eq_true rfl) ⟨_, rfl, ?_⟩
      have e2 : sp_as ρ (nI j10) w = (0, -2) := by rw [sp_as, if_pos (ok_in hj10 hw.bi), ok_no (by decide) (x_lo c19 (by decide))]; rfl
      rw [e2]
      exact ⟨_, rfl, fun q hq => up_o (by omega), hC.upf 0, rfl⟩
    · refine r_s (pc' := 23) dX6_as_22 rfl rfl ?_
      refine r_c (pc' := 24) dX6_as_23 rfl kc_iconst_3 ?_
      refine r_clt (pc' := 27) (tgt := 30) dX6_as_24 rfl (by decide) (fun c24 => ?_) (fun c24 => ?_)
      · refine r_s (pc' := 31) dX6_as_30 rfl rfl ?_
        refine r_gr (pc' := 34) dX6_as_31 rfl fX6_20 (hl_ rfl) rfl rfl ?_
        refine r_gr (pc' := 37) dX6_as_34 rfl fX6_100 (hl_ rfl) rfl rfl ?_
        refine r_s (pc' := 38) dX6_as_37 rfl rfl ?_
        refine h_ald (pc' := 39) dX6_as_38 rfl (hl_ rfl) rfl (vp_in_nI (by omega) (by decide)) (nI_clamp (by omega)) ?_
        refine r_top ((show isRd (sm_up I 0 6 0) 2 ρ from (hC.upf 0).R).k _ hj10) ?_
        refine r_s (pc' := 40) dX6_as_39 rfl rfl ?_
        refine r_clt (pc' := 43) (tgt := 47) dX6_as_40 rfl (by decide) (fun c40 => ?_) (fun c40 => ?_)
        · refine r_s (pc' := 48) dX6_as_47 rfl rfl ?_
          refine r_c (pc' := 49) dX6_as_48 rfl kc_iconst_2 ?_
          refine r_Vi1 (pc' := 52) dX6_as_49 rfl lX6_71 (hl_ rfl) rfl rfl rfl rfl (Nat.le_of_ble_eq_true rfl) (Nat.le_of_ble_eq_true rfl) (ct_X6_faulted (f := 2)) (fun r49 h49 e49 => ?_)
          obtain ⟨rfl, rfl⟩ := e49
          refine r_reti dX6_as_52 rfl (rfl) (Nat.le_of_ble_eq_true rfl) (Nat.le_of_ble_eq_true rfl) ⟨_, rfl, ?_⟩
          obtain ⟨v, hv, rfl⟩ := x_in (n := 3) c19 c24 (by decide)
          have hkd := hw.kd hj10
          have e2 : sp_as ρ (nI j10) (nI v) = (2, -12) := by rw [sp_as, if_pos (ok_in hj10 hw.bi), if_pos (ok_in hv (by decide)), ix_nI (by omega), ix_nI (by omega), if_neg (fun h => absurd c40 (nI_nlt h (by omega)))]
          rw [e2]
          exact ⟨_, rfl, fun q hq => by rw [up_o (by omega), up_o (by omega)], (hC.upf 0).upf 2, rfl⟩
        · refine r_c (pc' := 44) dX6_as_43 rfl kc_iconst_1 ?_
          refine r_goto (tgt := 52) dX6_as_44 (by decide) ?_
          refine r_reti dX6_as_52 rfl (rfl) (Nat.le_of_ble_eq_true rfl) (Nat.le_of_ble_eq_true rfl) ⟨_, rfl, ?_⟩
          obtain ⟨v, hv, rfl⟩ := x_in (n := 3) c19 c24 (by decide)
          have hkd := hw.kd hj10
          have e2 : sp_as ρ (nI j10) (nI v) = (0, 1) := by rw [sp_as, if_pos (ok_in hj10 hw.bi), if_pos (ok_in hv (by decide)), ix_nI (by omega), ix_nI (by omega), if_pos ((nI_leI (by omega) (by omega)).mp (x_nlt c40))]
          rw [e2]
          exact ⟨_, rfl, fun q hq => up_o (by omega), hC.upf 0, rfl⟩
      · refine r_c (pc' := 29) dX6_as_27 rfl kc_bipush_m2 ?_
        refine r_reti dX6_as_29 rfl (rfl) (Nat.le_of_ble_eq_true rfl) (Nat.le_of_ble_eq_true rfl) ⟨_, rfl, ?_⟩
        have e2 : sp_as ρ (nI j10) w = (0, -2) := by rw [sp_as, if_pos (ok_in hj10 hw.bi), ok_no (by decide) (x_hi (n := 3) (x_nlt c24) (by decide))]; rfl
        rw [e2]
        exact ⟨_, rfl, fun q hq => up_o (by omega), hC.upf 0, rfl⟩
  · refine r_ifne_f (pc' := 16) (tgt := 18) dX6_as_13 rfl (by decide) (by decide) ?_
    refine r_c (pc' := 17) dX6_as_16 rfl kc_iconst_m1 ?_
    refine r_reti dX6_as_17 rfl (rfl) (Nat.le_of_ble_eq_true rfl) (Nat.le_of_ble_eq_true rfl) ⟨_, rfl, ?_⟩
    have e2 : sp_as ρ k w = (0, -1) := by rw [sp_as, ok_no hw.bi hn10]; rfl
    rw [e2]
    exact ⟨_, rfl, fun q hq => up_o (by omega), hC.upf 0, rfl⟩

set_option maxHeartbeats 4000000 in
set_option maxRecDepth 100000 in
theorem pc_back {d : Nat} {x : hX} {I : Nat → Nat → Int32} {ρ : zR} {δ : zD} {η : zH} {ft tr : Int32} {k : Int32} (hC : CI I (ρ, δ, η, ft, tr)) (hW : WF (ρ, δ, η, ft, tr)) : ci (d + 1) MX6_back [.ref 0, .int k] (hp x I) (fun r h' => ∃ I', h' = hp x I' ∧ (∀ q, 80 ≤ q → I' q = I q) ∧ CI I' (ρ, (sp_back δ k).1, η, ft, tr) ∧ r = (sp_back δ k).2) := by
  have hR : isRd I 2 ρ := hC.R
  have hw : wfR ρ := hW.1
  have b6 : zi ρ ≤ 6 := hw.1
  have b8 : zn ρ ≤ 8 := hw.2.1
  have bg : zg ρ ≤ 8 := hw.2.2.1
  have d8 : δ.1 ≤ 8 := hW.2.1.1
  have hD : isDC I δ := hC.D
  refine c_in (L := [.ref 0, .int k]) rfl rfl ?_
  refine r_s (pc' := 1) dX6_back_0 rfl rfl ?_
  refine r_iflt (pc' := 4) (tgt := 15) dX6_back_1 rfl (by decide) (fun c1 => ?_) (fun c1 => ?_)
  · refine r_c (pc' := 17) dX6_back_15 rfl kc_bipush_m2 ?_
    refine r_reti dX6_back_17 rfl (rfl) (Nat.le_of_ble_eq_true rfl) (Nat.le_of_ble_eq_true rfl) ⟨_, rfl, ?_⟩
    exact ⟨I, rfl, fun _ _ => rfl, by rw [show sp_back δ k = (δ, -2) by rw [sp_back, ok_no (by omega) (x_lo c1 (by omega))]; rfl]; exact hC, by rw [show sp_back δ k = (δ, -2) by rw [sp_back, ok_no (by omega) (x_lo c1 (by omega))]; rfl]⟩
  · refine r_s (pc' := 5) dX6_back_4 rfl rfl ?_
    refine r_s (pc' := 6) dX6_back_5 rfl rfl ?_
    refine r_gr (pc' := 9) dX6_back_6 rfl fX6_39 (hl_ rfl) rfl rfl ?_
    refine h_gi (pc' := 12) dX6_back_9 rfl fX6_178 (hl_ rfl) rfl ?_
    refine r_top (hD.1) ?_
    refine r_cle (pc' := 15) (tgt := 18) dX6_back_12 rfl (by decide) (fun c12 => ?_) (fun c12 => ?_)
    · refine r_s (pc' := 19) dX6_back_18 rfl rfl ?_
      refine r_gr (pc' := 22) dX6_back_19 rfl fX6_39 (hl_ rfl) rfl rfl ?_
      refine r_s (pc' := 23) dX6_back_22 rfl rfl ?_
      refine h_gi (pc' := 26) dX6_back_23 rfl fX6_178 (hl_ rfl) rfl ?_
      refine r_top (hD.1) ?_
      refine r_s (pc' := 27) dX6_back_26 rfl rfl ?_
      refine r_s (pc' := 28) dX6_back_27 rfl rfl ?_
      refine h_pi (pc' := 31) dX6_back_28 rfl fX6_178 rfl (hl_ rfl) rfl ?_
      refine r_s (pc' := 32) dX6_back_31 rfl rfl ?_
      refine r_gr (pc' := 35) dX6_back_32 rfl fX6_39 (hl_ rfl) rfl rfl ?_
      refine h_gi (pc' := 38) dX6_back_35 rfl fX6_178 (hl_ rfl) rfl ?_
      refine r_reti dX6_back_38 rfl (rfl) (Nat.le_of_ble_eq_true rfl) (Nat.le_of_ble_eq_true rfl) ⟨_, rfl, ?_⟩
      obtain ⟨j, hj, rfl⟩ := x_in' c1 c12 (by omega)
      have e2 : sp_back δ (nI j) = ((δ.1 - j, δ.2), nI (δ.1 - j)) := by rw [sp_back, if_pos (ok_in hj (by omega)), ix_nI (by omega)]
      have e3 : nI δ.1 - nI j = nI (δ.1 - j) := pk_sub (by omega)
      rw [e2, e3]
      refine ⟨_, rfl, fun q hq => up_o (by omega), hC.putD ⟨up_s, fun r hr => ?_⟩ (fun r hr => up_o (by omega)), up_s⟩
      rw [up_o (by decide), up_o (by decide), up_o (by decide)]
      exact hD.2 r (by have : r < δ.1 - j := hr; omega)
    · refine r_c (pc' := 17) dX6_back_15 rfl kc_bipush_m2 ?_
      refine r_reti dX6_back_17 rfl (rfl) (Nat.le_of_ble_eq_true rfl) (Nat.le_of_ble_eq_true rfl) ⟨_, rfl, ?_⟩
      exact ⟨I, rfl, fun _ _ => rfl, by rw [show sp_back δ k = (δ, -2) by rw [sp_back, ok_no (by omega) (x_hi' (x_nle c12) (by omega))]; rfl]; exact hC, by rw [show sp_back δ k = (δ, -2) by rw [sp_back, ok_no (by omega) (x_hi' (x_nle c12) (by omega))]; rfl]⟩

set_option maxHeartbeats 4000000 in
set_option maxRecDepth 100000 in
theorem ct_X1_add {d : Nat} {x : hX} {I : Nat → Nat → Int32} {c g k n : Nat} (hc : I 38 0 = nI c) (hc8 : c < 8) : ci (d + 1) MX1_add [.ref 38, .int (nI g), .int (nI k), .int (nI n)] (hp x I) (fun r h' => h' = hp x (sm_up (sm_up (sm_up (sm_up I 39 c (nI g)) 40 c (nI k)) 41 c (nI n)) 38 0 (nI (c + 1))) ∧ r = nI c) := by
  refine c_in (L := [.ref 38, .int (nI g), .int (nI k), .int (nI n)]) rfl rfl ?_
  refine r_s (pc' := 1) dX1_add_0 rfl rfl ?_
  refine r_gr (pc' := 4) dX1_add_1 rfl fX1_15 (hl_ rfl) rfl rfl ?_
  refine r_s (pc' := 5) dX1_add_4 rfl rfl ?_
  refine h_gi (pc' := 8) dX1_add_5 rfl fX1_9 (hl_ rfl) rfl ?_
  refine r_top (hc) ?_
  refine r_s (pc' := 9) dX1_add_8 rfl rfl ?_
  refine h_ast (pc' := 10) dX1_add_9 rfl (hl_ rfl) rfl (vp_in_nI (by omega) (by decide)) (nI_clamp (by omega)) ?_
  refine r_s (pc' := 11) dX1_add_10 rfl rfl ?_
  refine r_gr (pc' := 14) dX1_add_11 rfl fX1_19 (hl_ rfl) rfl rfl ?_
  refine r_s (pc' := 15) dX1_add_14 rfl rfl ?_
  refine h_gi (pc' := 18) dX1_add_15 rfl fX1_9 (hl_ rfl) rfl ?_
  refine r_top (show sm_up I 39 _ _ 38 0 = nI c by rw [up_o (by decide)]; exact hc) ?_
  refine r_s (pc' := 19) dX1_add_18 rfl rfl ?_
  refine h_ast (pc' := 20) dX1_add_19 rfl (hl_ rfl) rfl (vp_in_nI (by omega) (by decide)) (nI_clamp (by omega)) ?_
  refine r_s (pc' := 21) dX1_add_20 rfl rfl ?_
  refine r_gr (pc' := 24) dX1_add_21 rfl fX1_22 (hl_ rfl) rfl rfl ?_
  refine r_s (pc' := 25) dX1_add_24 rfl rfl ?_
  refine h_gi (pc' := 28) dX1_add_25 rfl fX1_9 (hl_ rfl) rfl ?_
  refine r_top (show sm_up (sm_up I 39 _ _) 40 _ _ 38 0 = nI c by rw [up_o (by decide), up_o (by decide)]; exact hc) ?_
  refine r_s (pc' := 29) dX1_add_28 rfl rfl ?_
  refine h_ast (pc' := 30) dX1_add_29 rfl (hl_ rfl) rfl (vp_in_nI (by omega) (by decide)) (nI_clamp (by omega)) ?_
  refine r_s (pc' := 31) dX1_add_30 rfl rfl ?_
  refine r_s (pc' := 32) dX1_add_31 rfl rfl ?_
  refine h_gi (pc' := 35) dX1_add_32 rfl fX1_9 (hl_ rfl) rfl ?_
  refine r_top (show sm_up (sm_up (sm_up I 39 _ _) 40 _ _) 41 _ _ 38 0 = nI c by rw [up_o (by decide), up_o (by decide), up_o (by decide)]; exact hc) ?_
  refine r_c (pc' := 36) dX1_add_35 rfl kc_iconst_1 ?_
  refine r_s (pc' := 37) dX1_add_36 rfl rfl ?_
  refine r_top (nI_1 c) ?_
  refine h_pi (pc' := 40) dX1_add_37 rfl fX1_9 rfl (hl_ rfl) rfl ?_
  refine r_s (pc' := 41) dX1_add_40 rfl rfl ?_
  refine h_gi (pc' := 44) dX1_add_41 rfl fX1_9 (hl_ rfl) rfl ?_
  refine r_top (show sm_up _ 38 0 (nI (c + 1)) 38 0 = nI (c + 1) from up_s) ?_
  refine r_c (pc' := 45) dX1_add_44 rfl kc_iconst_1 ?_
  refine r_s (pc' := 46) dX1_add_45 rfl rfl ?_
  refine r_top (nI_pred c) ?_
  refine r_reti dX1_add_46 rfl (rfl) (Nat.le_of_ble_eq_true rfl) (Nat.le_of_ble_eq_true rfl) ⟨_, rfl, ?_⟩
  exact ⟨rfl, rfl⟩

set_option maxHeartbeats 4000000 in
set_option maxRecDepth 100000 in
theorem pc_reading {d : Nat} {x : hX} {I : Nat → Nat → Int32} {ρ : zR} {δ : zD} {η : zH} {ft tr : Int32} {g k n : Int32} (hC : CI I (ρ, δ, η, ft, tr)) (hW : WF (ρ, δ, η, ft, tr)) : ci (d + 3) MX6_reading [.ref 0, .int g, .int k, .int n] (hp x I) (fun r h' => ∃ I', h' = hp x I' ∧ (∀ q, 80 ≤ q → I' q = I q) ∧ CI I' (ρ, (sp_reading ρ δ g k n).1, η, ft, tr) ∧ r = (sp_reading ρ δ g k n).2) := by
  have hR : isRd I 2 ρ := hC.R
  have hw : wfR ρ := hW.1
  have b6 : zi ρ ≤ 6 := hw.1
  have b8 : zn ρ ≤ 8 := hw.2.1
  have bg : zg ρ ≤ 8 := hw.2.2.1
  have d8 : δ.1 ≤ 8 := hW.2.1.1
  have hD : isDC I δ := hC.D
  refine c_in (L := [.ref 0, .int g, .int k, .int n]) rfl rfl ?_
  refine r_s (pc' := 1) dX6_reading_0 rfl rfl ?_
  refine r_gr (pc' := 4) dX6_reading_1 rfl fX6_20 (hl_ rfl) rfl rfl ?_
  refine r_s (pc' := 5) dX6_reading_4 rfl rfl ?_
  refine r_Vi1 (pc' := 8) dX6_reading_5 rfl lX6_111 (hl_ rfl) rfl rfl rfl rfl (Nat.le_of_ble_eq_true rfl) (Nat.le_of_ble_eq_true rfl) (ct_X2_hasGuest (Or.inl rfl) hR.2.2.1 hw.bg) (fun r5 h5 e5 => ?_)
  rcases e5 with ⟨rfl, rfl, j5, hj5, rfl⟩ | ⟨rfl, rfl, hn5⟩
  · refine r_ifeq_f (pc' := 11) (tgt := 22) dX6_reading_8 rfl (by decide) (by decide) ?_
    refine r_s (pc' := 12) dX6_reading_11 rfl rfl ?_
    refine r_gr (pc' := 15) dX6_reading_12 rfl fX6_20 (hl_ rfl) rfl rfl ?_
    refine r_s (pc' := 16) dX6_reading_15 rfl rfl ?_
    refine r_Vi1 (pc' := 19) dX6_reading_16 rfl lX6_152 (hl_ rfl) rfl rfl rfl rfl (Nat.le_of_ble_eq_true rfl) (Nat.le_of_ble_eq_true rfl) (ct_X2_hasInnOrRoad (Or.inl rfl) hR.1 (by omega)) (fun r16 h16 e16 => ?_)
    rcases e16 with ⟨rfl, rfl, hs16, j16, hj16, rfl⟩ | ⟨rfl, rfl, hn16⟩
    · refine r_ifne_t (tgt := 24) dX6_reading_19 (by decide) (by decide) ?_
      refine r_s (pc' := 25) dX6_reading_24 rfl rfl ?_
      refine r_gr (pc' := 28) dX6_reading_25 rfl fX6_20 (hl_ rfl) rfl rfl ?_
      refine r_s (pc' := 29) dX6_reading_28 rfl rfl ?_
      refine r_Vi1 (pc' := 32) dX6_reading_29 rfl lX6_124 (hl_ rfl) rfl rfl rfl rfl (Nat.le_of_ble_eq_true rfl) (Nat.le_of_ble_eq_true rfl) (ct_X2_hasNight (Or.inl rfl) hR.2.1 hw.bn) (fun r29 h29 e29 => ?_)
      rcases e29 with ⟨rfl, rfl, j29, hj29, rfl⟩ | ⟨rfl, rfl, hn29⟩
      · refine r_ifne_t (tgt := 38) dX6_reading_32 (by decide) (by decide) ?_
        refine r_s (pc' := 39) dX6_reading_38 rfl rfl ?_
        refine r_gr (pc' := 42) dX6_reading_39 rfl fX6_39 (hl_ rfl) rfl rfl ?_
        refine h_gi (pc' := 45) dX6_reading_42 rfl fX6_178 (hl_ rfl) rfl ?_
        refine r_top (hD.1) ?_
        refine r_c (pc' := 47) dX6_reading_45 rfl kc_bipush_8 ?_
        refine r_clt (pc' := 50) (tgt := 53) dX6_reading_47 rfl (by decide) (fun c47 => ?_) (fun c47 => ?_)
        · have h8 : δ.1 < 8 := (nI_ltI (by omega) (by decide)).mp c47
          refine r_s (pc' := 54) dX6_reading_53 rfl rfl ?_
          refine r_gr (pc' := 57) dX6_reading_54 rfl fX6_39 (hl_ rfl) rfl rfl ?_
          refine r_s (pc' := 58) dX6_reading_57 rfl rfl ?_
          refine r_s (pc' := 59) dX6_reading_58 rfl rfl ?_
          refine r_s (pc' := 60) dX6_reading_59 rfl rfl ?_
          refine r_Vi3 (pc' := 63) dX6_reading_60 rfl lX6_181 (hl_ rfl) rfl rfl rfl rfl (Nat.le_of_ble_eq_true rfl) (Nat.le_of_ble_eq_true rfl) (ct_X1_add hD.1 h8) (fun r60 h60 e60 => ?_)
          obtain ⟨rfl, rfl⟩ := e60
          refine r_reti dX6_reading_63 rfl (rfl) (Nat.le_of_ble_eq_true rfl) (Nat.le_of_ble_eq_true rfl) ⟨_, rfl, ?_⟩
          have e2 : sp_reading ρ δ (nI j5) (nI j16) (nI j29) = ((δ.1 + 1, fun r => if r = δ.1 then (j5, j16, j29) else δ.2 r), nI δ.1) := by rw [sp_reading, if_pos ⟨ok_in hj5 hw.bg, ok_in hj16 (by omega)⟩, if_pos (ok_in hj29 hw.bn), if_pos h8, ix_nI (by omega), ix_nI (by omega), ix_nI (by omega)]
          rw [e2]
          refine ⟨_, rfl, fun q hq => by rw [up_o (by omega), up_o (by omega), up_o (by omega), up_o (by omega)], hC.putD ⟨up_s, fun r hr => ?_⟩ (fun r hr => by rw [up_o (by omega), up_o (by omega), up_o (by omega), up_o (by omega)]), rfl⟩
          have hr : r < δ.1 + 1 := hr
          by_cases er : r = δ.1
          · subst er; simp [sm_up]
          · have h := hD.2 r (by omega)
            simp [sm_up, er]; exact h
        · refine r_c (pc' := 52) dX6_reading_50 rfl kc_bipush_m4 ?_
          refine r_reti dX6_reading_52 rfl (rfl) (Nat.le_of_ble_eq_true rfl) (Nat.le_of_ble_eq_true rfl) ⟨_, rfl, ?_⟩
          exact ⟨I, rfl, fun _ _ => rfl, by rw [show sp_reading ρ δ (nI j5) (nI j16) (nI j29) = (δ, -4) by rw [sp_reading, if_pos ⟨ok_in hj5 hw.bg, ok_in hj16 (by omega)⟩, if_pos (ok_in hj29 hw.bn), if_neg (fun h => c47 (nI_lt h (by decide)))]]; exact hC, by rw [show sp_reading ρ δ (nI j5) (nI j16) (nI j29) = (δ, -4) by rw [sp_reading, if_pos ⟨ok_in hj5 hw.bg, ok_in hj16 (by omega)⟩, if_pos (ok_in hj29 hw.bn), if_neg (fun h => c47 (nI_lt h (by decide)))]]⟩
      · refine r_ifne_f (pc' := 35) (tgt := 38) dX6_reading_32 rfl (by decide) (by decide) ?_
        refine r_c (pc' := 37) dX6_reading_35 rfl kc_bipush_m2 ?_
        refine r_reti dX6_reading_37 rfl (rfl) (Nat.le_of_ble_eq_true rfl) (Nat.le_of_ble_eq_true rfl) ⟨_, rfl, ?_⟩
        exact ⟨I, rfl, fun _ _ => rfl, by rw [show sp_reading ρ δ (nI j5) (nI j16) n = (δ, -2) by rw [sp_reading, if_pos ⟨ok_in hj5 hw.bg, ok_in hj16 (by omega)⟩, ok_no hw.bn hn29]; rfl]; exact hC, by rw [show sp_reading ρ δ (nI j5) (nI j16) n = (δ, -2) by rw [sp_reading, if_pos ⟨ok_in hj5 hw.bg, ok_in hj16 (by omega)⟩, ok_no hw.bn hn29]; rfl]⟩
    · refine r_ifne_f (pc' := 22) (tgt := 24) dX6_reading_19 rfl (by decide) (by decide) ?_
      refine r_c (pc' := 23) dX6_reading_22 rfl kc_iconst_m1 ?_
      refine r_reti dX6_reading_23 rfl (rfl) (Nat.le_of_ble_eq_true rfl) (Nat.le_of_ble_eq_true rfl) ⟨_, rfl, ?_⟩
      have e2 : sp_reading ρ δ (nI j5) k n = (δ, -1) := by
        rw [sp_reading, if_neg]
        intro ⟨a, b⟩
        rcases hn16 with h | h; exact absurd (hw.2.2.2.2.1 h).2 (by omega); rw [ok_no (by omega) h] at b; cases b
      exact ⟨I, rfl, fun _ _ => rfl, by rw [e2]; exact hC, by rw [e2]⟩
  · refine r_ifeq_t (tgt := 22) dX6_reading_8 (by decide) (by decide) ?_
    refine r_c (pc' := 23) dX6_reading_22 rfl kc_iconst_m1 ?_
    refine r_reti dX6_reading_23 rfl (rfl) (Nat.le_of_ble_eq_true rfl) (Nat.le_of_ble_eq_true rfl) ⟨_, rfl, ?_⟩
    have e2 : sp_reading ρ δ g k n = (δ, -1) := by
      rw [sp_reading, if_neg]
      intro ⟨a, b⟩
      rw [ok_no hw.bg hn5] at a; cases a
    exact ⟨I, rfl, fun _ _ => rfl, by rw [e2]; exact hC, by rw [e2]⟩

set_option maxHeartbeats 4000000 in
set_option maxRecDepth 100000 in
theorem ct_X1_clear {d : Nat} {x : hX} {I : Nat → Nat → Int32} : cv (d + 1) MX1_clear [.ref 38] (hp x I) (fun h' => h' = hp x (sm_up I 38 0 0)) := by
  refine c_in (L := [.ref 38]) rfl rfl ?_
  refine r_s (pc' := 1) dX1_clear_0 rfl rfl ?_
  refine r_c (pc' := 2) dX1_clear_1 rfl kc_iconst_0 ?_
  refine h_pi (pc' := 5) dX1_clear_2 rfl fX1_9 rfl (hl_ rfl) rfl ?_
  refine r_retv dX1_clear_5 rfl (Nat.le_of_ble_eq_true rfl) (Nat.le_of_ble_eq_true rfl) ⟨rfl, ?_⟩
  exact rfl
