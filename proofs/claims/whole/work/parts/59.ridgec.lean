theorem ff_0_0 : sm_FF 0 0 := ⟨rfl, _, rfl, fun a => ⟨rfl, rfl⟩⟩
theorem ff_0_1 : sm_FF 0 1 := ⟨rfl, _, rfl, fun a => ⟨rfl, rfl⟩⟩
theorem ff_0_2 : sm_FF 0 2 := ⟨rfl, _, rfl, fun a => ⟨rfl, rfl⟩⟩
theorem ff_0_3 : sm_FF 0 3 := ⟨rfl, _, rfl, fun a => ⟨rfl, rfl⟩⟩
theorem ff_1_1 : sm_FF 1 1 := ⟨rfl, _, rfl, fun a => ⟨rfl, rfl⟩⟩
theorem ff_1_2 : sm_FF 1 2 := ⟨rfl, _, rfl, fun a => ⟨rfl, rfl⟩⟩
theorem ff_1_3 : sm_FF 1 3 := ⟨rfl, _, rfl, fun a => ⟨rfl, rfl⟩⟩
theorem ff_2_1 : sm_FF 2 1 := ⟨rfl, _, rfl, fun a => ⟨rfl, rfl⟩⟩
theorem ff_2_2 : sm_FF 2 2 := ⟨rfl, _, rfl, fun a => ⟨rfl, rfl⟩⟩
theorem ff_2_4 : sm_FF 2 4 := ⟨rfl, _, rfl, fun a => ⟨rfl, rfl⟩⟩
theorem ff_2_5 : sm_FF 2 5 := ⟨rfl, _, rfl, fun a => ⟨rfl, rfl⟩⟩
theorem ff_2_7 : sm_FF 2 7 := ⟨rfl, _, rfl, fun a => ⟨rfl, rfl⟩⟩
theorem ff_2_8 : sm_FF 2 8 := ⟨rfl, _, rfl, fun a => ⟨rfl, rfl⟩⟩
theorem ff_3_0 : sm_FF 3 0 := ⟨rfl, _, rfl, fun a => ⟨rfl, rfl⟩⟩
theorem ff_4_0 : sm_FF 4 0 := ⟨rfl, _, rfl, fun a => ⟨rfl, rfl⟩⟩
theorem ff_5_0 : sm_FF 5 0 := ⟨rfl, _, rfl, fun a => ⟨rfl, rfl⟩⟩
theorem ff_5_1 : sm_FF 5 1 := ⟨rfl, _, rfl, fun a => ⟨rfl, rfl⟩⟩
theorem ff_5_2 : sm_FF 5 2 := ⟨rfl, _, rfl, fun a => ⟨rfl, rfl⟩⟩
theorem ff_5_3 : sm_FF 5 3 := ⟨rfl, _, rfl, fun a => ⟨rfl, rfl⟩⟩
theorem ff_6_0 : sm_FF 6 0 := ⟨rfl, _, rfl, fun a => ⟨rfl, rfl⟩⟩
theorem ff_6_1 : sm_FF 6 1 := ⟨rfl, _, rfl, fun a => ⟨rfl, rfl⟩⟩
theorem ff_6_2 : sm_FF 6 2 := ⟨rfl, _, rfl, fun a => ⟨rfl, rfl⟩⟩
theorem ff_6_3 : sm_FF 6 3 := ⟨rfl, _, rfl, fun a => ⟨rfl, rfl⟩⟩
theorem ff_6_4 : sm_FF 6 4 := ⟨rfl, _, rfl, fun a => ⟨rfl, rfl⟩⟩
theorem ff_6_5 : sm_FF 6 5 := ⟨rfl, _, rfl, fun a => ⟨rfl, rfl⟩⟩
theorem ff_7_2 : sm_FF 7 2 := ⟨rfl, _, rfl, fun a => ⟨rfl, rfl⟩⟩
theorem ff_7_3 : sm_FF 7 3 := ⟨rfl, _, rfl, fun a => ⟨rfl, rfl⟩⟩
theorem ff_7_5 : sm_FF 7 5 := ⟨rfl, _, rfl, fun a => ⟨rfl, rfl⟩⟩
theorem ff_7_6 : sm_FF 7 6 := ⟨rfl, _, rfl, fun a => ⟨rfl, rfl⟩⟩
theorem ff_7_8 : sm_FF 7 8 := ⟨rfl, _, rfl, fun a => ⟨rfl, rfl⟩⟩
theorem ff_7_9 : sm_FF 7 9 := ⟨rfl, _, rfl, fun a => ⟨rfl, rfl⟩⟩
theorem ff_7_16 : sm_FF 7 16 := ⟨rfl, _, rfl, fun a => ⟨rfl, rfl⟩⟩
theorem ff_7_17 : sm_FF 7 17 := ⟨rfl, _, rfl, fun a => ⟨rfl, rfl⟩⟩
theorem ff_7_18 : sm_FF 7 18 := ⟨rfl, _, rfl, fun a => ⟨rfl, rfl⟩⟩
theorem ff_7_19 : sm_FF 7 19 := ⟨rfl, _, rfl, fun a => ⟨rfl, rfl⟩⟩
theorem ff_7_20 : sm_FF 7 20 := ⟨rfl, _, rfl, fun a => ⟨rfl, rfl⟩⟩
theorem ff_7_21 : sm_FF 7 21 := ⟨rfl, _, rfl, fun a => ⟨rfl, rfl⟩⟩
theorem ff_7_22 : sm_FF 7 22 := ⟨rfl, _, rfl, fun a => ⟨rfl, rfl⟩⟩
theorem ff_7_23 : sm_FF 7 23 := ⟨rfl, _, rfl, fun a => ⟨rfl, rfl⟩⟩
theorem ff_7_26 : sm_FF 7 26 := ⟨rfl, _, rfl, fun a => ⟨rfl, rfl⟩⟩
theorem ff_7_27 : sm_FF 7 27 := ⟨rfl, _, rfl, fun a => ⟨rfl, rfl⟩⟩
theorem ff_7_28 : sm_FF 7 28 := ⟨rfl, _, rfl, fun a => ⟨rfl, rfl⟩⟩
theorem ff_7_29 : sm_FF 7 29 := ⟨rfl, _, rfl, fun a => ⟨rfl, rfl⟩⟩
theorem ff_7_30 : sm_FF 7 30 := ⟨rfl, _, rfl, fun a => ⟨rfl, rfl⟩⟩
theorem ff_7_31 : sm_FF 7 31 := ⟨rfl, _, rfl, fun a => ⟨rfl, rfl⟩⟩
theorem ff_7_32 : sm_FF 7 32 := ⟨rfl, _, rfl, fun a => ⟨rfl, rfl⟩⟩

def nwR (x : hX) : Nat → Nat → Option Nat := fun q j => if q < 102 + x.1 then x.2 q j else none
def nwI (x : hX) (I : Nat → Nat → Int32) : Nat → Nat → Int32 := fun q j => if q < 102 + x.1 then I q j else 0
theorem hp_nw (x : hX) (I : Nat → Nat → Int32) : sm_nw (hp x I) 1 (fun _ => (4 + 3, 0)) (fun _ _ => none) = hp (x.1 + 1, nwR x) (nwI x I) := by
  have h1 : (fun q => if q < 102 + x.1 then K0 q else (4 + 3, 0)) = K0 := funext (fun q => by
    by_cases h : q < 102 + x.1
    · rw [if_pos h]
    · rw [if_neg h, K0_T (by omega)])
  have h2 : (fun q j => if q < 102 + x.1 then hR x q j else none) = hR (x.1 + 1, nwR x) := funext (fun q => funext (fun j => by
    unfold hR nwR
    by_cases h : q < 102
    · rw [if_pos (show q < 102 + x.1 by omega), if_pos h, if_pos h]
    · rw [if_neg h, if_neg h]))
  show (102 + x.1 + 1, (fun q => if q < 102 + x.1 then K0 q else (4 + 3, 0)), nwI x I, (fun q j => if q < 102 + x.1 then hR x q j else none)) = _
  rw [h1, h2]
  rfl
theorem h_new {call : sm_K} {mc ms : Nat} {M : sm_M} {Q : sm_Q} {pc pc' : Nat} {L st : List Value} {x : hX} {I : Nat → Nat → Int32} {c s idx : Nat} (hd : decode M.2.1 pc = .ok (.new idx, 3)) (hp' : pc + 3 = pc') (hL : sm_LC M.1.cls idx 4) (hc : c + 1 ≤ mc) (hs : s + 4 ≤ ms) (k : sm_wp call mc ms M Q pc' L (.ref (102 + x.1) :: st) (hp (x.1 + 1, nwR x) (nwI x I)) (c + 1) (s + 4)) : sm_wp call mc ms M Q pc L st (hp x I) c s := r_new hd hp' hL hc hs (by rw [hp_nw]; exact k)
theorem hp_sr {x : hX} {I : Nat → Nat → Int32} {T j : Nat} {v : Option Nat} (hT : 102 ≤ T) : sm_sr (hp x I) T j v = hp (x.1, sm_up x.2 T j v) I := by
  have h2 : sm_up (hR x) T j v = hR (x.1, sm_up x.2 T j v) := funext (fun q => funext (fun i => by
    show (if q = T then (if i = j then v else hR x q i) else hR x q i) = (if q < 102 then R0 q i else (if q = T then (if i = j then v else x.2 q i) else x.2 q i))
    by_cases h : q < 102
    · rw [if_neg (show ¬ q = T by omega), if_pos h]; unfold hR; rw [if_pos h]
    · have h3 : hR x q i = x.2 q i := by unfold hR; rw [if_neg h]
      rw [if_neg h, h3]))
  show (102 + x.1, K0, I, sm_up (hR x) T j v) = _
  rw [h2]

set_option maxHeartbeats 4000000 in
set_option maxRecDepth 100000 in
theorem ct_X4_init {d : Nat} {x : hX} {I : Nat → Nat → Int32} {T k f m : Nat} (hT1 : 102 ≤ T) (hT2 : T < 102 + x.1) (hk : k < 4) (hfm : f + m ≤ 60) : cv (d + 1) MX4_init [.ref T, .ref (72 + 2 * k), .int (nI f), .int (nI m)] (hp x I) (fun h' => ∃ x' I', h' = hp x' I' ∧ x'.1 = x.1 ∧ isT x' I' T k f m 0 ∧ ∀ t, t ≠ T → I' t = I t) := by
  have hTK : (K0 T).1 = 4 + 3 := by rw [K0_T hT1]
  refine c_in (L := [.ref T, .ref (72 + 2 * k), .int (nI f), .int (nI m)]) rfl rfl ?_
  refine r_s (pc' := 1) dX4_init_0 rfl rfl ?_
  refine r_obj (pc' := 4) dX4_init_1 rfl oX4_3 rfl ?_
  refine r_s (pc' := 5) dX4_init_4 rfl rfl ?_
  refine r_c (pc' := 6) dX4_init_5 rfl kc_iconst_0 ?_
  refine h_pi (pc' := 9) dX4_init_6 rfl fX4_9 rfl hT2 hTK ?_
  refine r_s (pc' := 10) dX4_init_9 rfl rfl ?_
  refine r_s (pc' := 11) dX4_init_10 rfl rfl ?_
  refine r_gr (pc' := 14) dX4_init_11 rfl fX4_15 (isS_of hk).l (isS_of hk).K (isS_of hk).r0 ?_
  refine r_pfr (pc' := 17) dX4_init_14 rfl fX4_21 ff_4_0 rfl rfl hT2 hTK ?_
  rw [hp_sr hT1]
  refine r_s (pc' := 18) dX4_init_17 rfl rfl ?_
  refine r_s (pc' := 19) dX4_init_18 rfl rfl ?_
  refine r_pfi (pc' := 22) dX4_init_19 rfl fX4_24 rfl rfl rfl hT2 hTK ?_
  rw [hp_si]
  refine r_s (pc' := 23) dX4_init_22 rfl rfl ?_
  refine r_s (pc' := 24) dX4_init_23 rfl rfl ?_
  refine r_pfi (pc' := 27) dX4_init_24 rfl fX4_27 rfl rfl rfl hT2 hTK ?_
  rw [hp_si]
  refine r_retv dX4_init_27 rfl (Nat.le_of_ble_eq_true rfl) (Nat.le_of_ble_eq_true rfl) ⟨rfl, ?_⟩
  refine ⟨_, _, rfl, rfl, ⟨hT1, hT2, hk, hfm, Nat.zero_le _, (by show sm_up x.2 T 0 _ T 0 = _; unfold sm_up; rw [if_pos rfl, if_pos rfl]), ?_, up_s, ?_⟩, fun t ht => by rw [up_o ht, up_o ht, up_o ht]⟩
  · rw [up_n (by decide), up_s]
  · rw [up_n (by decide), up_n (by decide), up_s]; rfl

def sp_ridge (ρ : zR) (δ : zD) (η : zH) (k ln i n : Int32) : zR × zD × Int32 × Int32 := if ok k 4 = true then (if ok ln 3 = true then (match η (ix k) with
  | none => (ρ, δ, 1, -11)
  | some (a, sz, f) => if nI a = ln then (if n < 0 then (ρ, δ, 4, -14) else if rowok sz i n = true then (if (prs (cde (fun j => f (ix i + j)) (ix n)) (ix n)).1 = true then ((prs (cde (fun j => f (ix i + j)) (ix n)) (ix n)).2.2, (0, δ.2), 0, nI (zg (prs (cde (fun j => f (ix i + j)) (ix n)) (ix n)).2.2)) else (ρ, δ, 0, -100 - nI (prs (cde (fun j => f (ix i + j)) (ix n)) (ix n)).2.1)) else (ρ, δ, 3, -13)) else (ρ, δ, 2, -12)) else (ρ, δ, 0, -2)) else (ρ, δ, 0, -1)
theorem CI.same2 {I I' : Nat → Nat → Int32} {ρ ρ' : zR} {δ δ' : zD} {η : zH} {ft tr : Int32} (h : CI I (ρ, δ, η, ft, tr)) (hR : isRd I' 2 ρ') (hrm : I' 2 10 = -9) (hD : isDC I' δ') (hs : ∀ t, (t = 0 ∨ (72 ≤ t ∧ t ≤ 79)) → I' t = I t) : CI I' (ρ', δ', η, ft, tr) :=
  ⟨hR, hrm, hD, fun k hk => (h.S k hk).same (hs _ (by omega)) (hs _ (by omega)), by rw [hs 0 (by omega)]; exact h.f, by rw [hs 0 (by omega)]; exact h.t⟩

set_option maxHeartbeats 4000000 in
set_option maxRecDepth 100000 in
theorem ct_X4_place {d : Nat} {x : hX} {I : Nat → Nat → Int32} {T k f m a : Nat} (hT : isT x I T k f m a) : ci (d + 1) MX4_place [.ref T] (hp x I) (fun r h' => h' = hp x I ∧ r = nI a) := by
  refine c_in (L := [.ref T]) rfl rfl ?_
  refine r_s (pc' := 1) dX4_place_0 rfl rfl ?_
  refine h_gi (pc' := 4) dX4_place_1 rfl fX4_9 hT.2.1 hT.K ?_
  refine r_top (hT.2.2.2.2.2.2.2.2) ?_
  refine r_reti dX4_place_4 rfl (rfl) (Nat.le_of_ble_eq_true rfl) (Nat.le_of_ble_eq_true rfl) ⟨_, rfl, ?_⟩
  exact ⟨rfl, rfl⟩

set_option maxHeartbeats 4000000 in
set_option maxRecDepth 100000 in
theorem pc_ridge {d : Nat} {x : hX} {I : Nat → Nat → Int32} {ρ : zR} {δ : zD} {η : zH} {ft tr : Int32} {k ln i n : Int32} (hC : CI I (ρ, δ, η, ft, tr)) (hW : WF (ρ, δ, η, ft, tr)) : sm_c (d + 6) 1 4 MX6_ridge [.ref 0, .int k, .int ln, .int i, .int n] (hp x I) (qi (fun r h' => ∃ x' I', h' = hp x' I' ∧ x'.1 ≤ x.1 + 1 ∧ (∀ q, 80 ≤ q → q < 102 → I' q = I q) ∧ CI I' ((sp_ridge ρ δ η k ln i n).1, (sp_ridge ρ δ η k ln i n).2.1, η, (sp_ridge ρ δ η k ln i n).2.2.1, tr) ∧ r = (sp_ridge ρ δ η k ln i n).2.2.2 ∧ wfR (sp_ridge ρ δ η k ln i n).1 ∧ wfD (sp_ridge ρ δ η k ln i n).1 (sp_ridge ρ δ η k ln i n).2.1)) := by
  have hR : isRd I 2 ρ := hC.R
  have hw : wfR ρ := hW.1
  have b6 : zi ρ ≤ 6 := hw.1
  have b8 : zn ρ ≤ 8 := hw.2.1
  have bg : zg ρ ≤ 8 := hw.2.2.1
  have d8 : δ.1 ≤ 8 := hW.2.1.1
  have hSh : ∀ k, k < 4 → shC I k (η k) := hC.S
  have hWh : ∀ k, k < 4 → okO (η k) := fun k hk a n f e => hW.2.2 k hk a n f e
  have hS1 : CI (sm_up I 0 6 0) (ρ, δ, η, 0, tr) := hC.upf 0
  have hSh1 : ∀ k, k < 4 → shC (sm_up I 0 6 0) k (η k) := hS1.S
  refine c_in (L := [.ref 0, .int k, .int ln, .int i, .int n, .null, .null]) rfl rfl ?_
  refine r_s (pc' := 1) dX6_ridge_0 rfl rfl ?_
  refine r_c (pc' := 2) dX6_ridge_1 rfl kc_iconst_0 ?_
  refine h_pi (pc' := 5) dX6_ridge_2 rfl fX6_52 rfl (hl_ rfl) rfl ?_
  refine r_s (pc' := 6) dX6_ridge_5 rfl rfl ?_
  refine r_Si1 (pc' := 9) dX6_ridge_6 rfl lX6_60 rfl (Nat.le_of_ble_eq_true rfl) (Nat.le_of_ble_eq_true rfl) (ct_X6_isSheet) (fun r6 h6 e6 => ?_)
  rcases e6 with ⟨rfl, rfl, j6, hj6, rfl⟩ | ⟨rfl, rfl, hn6⟩
  · refine r_ifne_t (tgt := 14) dX6_ridge_9 (by decide) (by decide) ?_
    refine r_s (pc' := 15) dX6_ridge_14 rfl rfl ?_
    refine r_Si1 (pc' := 18) dX6_ridge_15 rfl lX6_64 rfl (Nat.le_of_ble_eq_true rfl) (Nat.le_of_ble_eq_true rfl) (ct_X6_isLane) (fun r15 h15 e15 => ?_)
    rcases e15 with ⟨rfl, rfl, j15, hj15, rfl⟩ | ⟨rfl, rfl, hn15⟩
    · refine r_ifne_t (tgt := 24) dX6_ridge_18 (by decide) (by decide) ?_
      refine r_s (pc' := 25) dX6_ridge_24 rfl rfl ?_
      refine r_gr (pc' := 28) dX6_ridge_25 rfl fX6_13 (hl_ rfl) rfl rfl ?_
      refine r_s (pc' := 29) dX6_ridge_28 rfl rfl ?_
      refine r_sald (pc' := 30) dX6_ridge_29 rfl (hl_ rfl) rfl (vp_in_nI (by omega) (by decide)) (by rw [nI_clamp (by omega : j6 < 2 ^ 31)]; exact isS_r (x := x) (by omega)) ?_
      refine r_s (pc' := 31) dX6_ridge_30 rfl rfl ?_
      refine r_s (pc' := 32) dX6_ridge_31 rfl rfl ?_
      refine r_s (pc' := 34) dX6_ridge_32 rfl rfl ?_
      refine r_Vi3 (pc' := 37) dX6_ridge_34 rfl lX6_67 ((isS_of (by omega : j6 < 4))).l ((isS_of (by omega : j6 < 4))).K rfl rfl rfl (Nat.le_of_ble_eq_true rfl) (Nat.le_of_ble_eq_true rfl) (ct_X3_faultOfRow (isS_of hj6) (hSh1 _ hj6).Q (hWh _ hj6)) (fun r34 h34 e34 => ?_)
      rcases e34 with ⟨rfl, rfl, heta⟩ | ⟨rfl, rfl, a, sz, fc, heta, hne⟩ | ⟨rfl, rfl, a, sz, fc, heta, hln, hm0⟩ | ⟨rfl, rfl, a, sz, fc, heta, hln, hm0, hro⟩ | ⟨rfl, rfl, a, sz, fc, f1, m1, heta, hln, hle, rfl, rfl⟩
      · refine r_st_5_7 (pc' := 39) dX6_ridge_37 rfl rfl rfl ?_
        refine r_s (pc' := 41) dX6_ridge_39 rfl rfl ?_
        refine r_ifeq_f (pc' := 44) (tgt := 51) dX6_ridge_41 rfl (by decide) (by decide) ?_
        refine r_s (pc' := 45) dX6_ridge_44 rfl rfl ?_
        refine r_s (pc' := 47) dX6_ridge_45 rfl rfl ?_
        refine r_Vi1 (pc' := 50) dX6_ridge_47 rfl lX6_71 (hl_ rfl) rfl rfl rfl rfl (Nat.le_of_ble_eq_true rfl) (Nat.le_of_ble_eq_true rfl) (ct_X6_faulted (f := 1)) (fun r47 h47 e47 => ?_)
        obtain ⟨rfl, rfl⟩ := e47
        refine r_reti dX6_ridge_50 rfl (rfl) (Nat.le_of_ble_eq_true rfl) (Nat.le_of_ble_eq_true rfl) ⟨_, rfl, ?_⟩
        have e0 : sp_ridge ρ δ η (nI j6) (nI j15) i n = (ρ, δ, 1, -11) := by
          unfold sp_ridge
          rw [if_pos (ok_in hj6 (by decide))]
          rw [if_pos (ok_in hj15 (by decide))]
          rw [ix_nI (show j6 < 2 ^ 31 by omega), heta]
        exact ⟨x, _, rfl, Nat.le_succ _, fun q hq _ => by rw [up_o (by omega), up_o (by omega)], by rw [e0]; exact (hC.upf 0).upf 1, by rw [e0]; rfl, by rw [e0]; exact ⟨hw, hW.2.1⟩⟩
      · refine r_st_5_7 (pc' := 39) dX6_ridge_37 rfl rfl rfl ?_
        refine r_s (pc' := 41) dX6_ridge_39 rfl rfl ?_
        refine r_ifeq_f (pc' := 44) (tgt := 51) dX6_ridge_41 rfl (by decide) (by decide) ?_
        refine r_s (pc' := 45) dX6_ridge_44 rfl rfl ?_
        refine r_s (pc' := 47) dX6_ridge_45 rfl rfl ?_
        refine r_Vi1 (pc' := 50) dX6_ridge_47 rfl lX6_71 (hl_ rfl) rfl rfl rfl rfl (Nat.le_of_ble_eq_true rfl) (Nat.le_of_ble_eq_true rfl) (ct_X6_faulted (f := 2)) (fun r47 h47 e47 => ?_)
        obtain ⟨rfl, rfl⟩ := e47
        refine r_reti dX6_ridge_50 rfl (rfl) (Nat.le_of_ble_eq_true rfl) (Nat.le_of_ble_eq_true rfl) ⟨_, rfl, ?_⟩
        have e0 : sp_ridge ρ δ η (nI j6) (nI j15) i n = (ρ, δ, 2, -12) := by
          unfold sp_ridge
          rw [if_pos (ok_in hj6 (by decide))]
          rw [if_pos (ok_in hj15 (by decide))]
          rw [ix_nI (show j6 < 2 ^ 31 by omega), heta]
          exact if_neg hne
        exact ⟨x, _, rfl, Nat.le_succ _, fun q hq _ => by rw [up_o (by omega), up_o (by omega)], by rw [e0]; exact (hC.upf 0).upf 2, by rw [e0]; rfl, by rw [e0]; exact ⟨hw, hW.2.1⟩⟩
      · refine r_st_5_7 (pc' := 39) dX6_ridge_37 rfl rfl rfl ?_
        refine r_s (pc' := 41) dX6_ridge_39 rfl rfl ?_
        refine r_ifeq_f (pc' := 44) (tgt := 51) dX6_ridge_41 rfl (by decide) (by decide) ?_
        refine r_s (pc' := 45) dX6_ridge_44 rfl rfl ?_
        refine r_s (pc' := 47) dX6_ridge_45 rfl rfl ?_
        refine r_Vi1 (pc' := 50) dX6_ridge_47 rfl lX6_71 (hl_ rfl) rfl rfl rfl rfl (Nat.le_of_ble_eq_true rfl) (Nat.le_of_ble_eq_true rfl) (ct_X6_faulted (f := 4)) (fun r47 h47 e47 => ?_)
        obtain ⟨rfl, rfl⟩ := e47
        refine r_reti dX6_ridge_50 rfl (rfl) (Nat.le_of_ble_eq_true rfl) (Nat.le_of_ble_eq_true rfl) ⟨_, rfl, ?_⟩
        have e0 : sp_ridge ρ δ η (nI j6) (nI j15) i n = (ρ, δ, 4, -14) := by
          unfold sp_ridge
          rw [if_pos (ok_in hj6 (by decide))]
          rw [if_pos (ok_in hj15 (by decide))]
          rw [ix_nI (show j6 < 2 ^ 31 by omega), heta]
          exact (if_pos hln.symm).trans (if_pos hm0)
        exact ⟨x, _, rfl, Nat.le_succ _, fun q hq _ => by rw [up_o (by omega), up_o (by omega)], by rw [e0]; exact (hC.upf 0).upf 4, by rw [e0]; rfl, by rw [e0]; exact ⟨hw, hW.2.1⟩⟩
      · refine r_st_5_7 (pc' := 39) dX6_ridge_37 rfl rfl rfl ?_
        refine r_s (pc' := 41) dX6_ridge_39 rfl rfl ?_
        refine r_ifeq_f (pc' := 44) (tgt := 51) dX6_ridge_41 rfl (by decide) (by decide) ?_
        refine r_s (pc' := 45) dX6_ridge_44 rfl rfl ?_
        refine r_s (pc' := 47) dX6_ridge_45 rfl rfl ?_
        refine r_Vi1 (pc' := 50) dX6_ridge_47 rfl lX6_71 (hl_ rfl) rfl rfl rfl rfl (Nat.le_of_ble_eq_true rfl) (Nat.le_of_ble_eq_true rfl) (ct_X6_faulted (f := 3)) (fun r47 h47 e47 => ?_)
        obtain ⟨rfl, rfl⟩ := e47
        refine r_reti dX6_ridge_50 rfl (rfl) (Nat.le_of_ble_eq_true rfl) (Nat.le_of_ble_eq_true rfl) ⟨_, rfl, ?_⟩
        have e0 : sp_ridge ρ δ η (nI j6) (nI j15) i n = (ρ, δ, 3, -13) := by
          unfold sp_ridge
          rw [if_pos (ok_in hj6 (by decide))]
          rw [if_pos (ok_in hj15 (by decide))]
          rw [ix_nI (show j6 < 2 ^ 31 by omega), heta]
          exact (if_pos hln.symm).trans ((if_neg hm0).trans (by rw [hro]; rfl))
        exact ⟨x, _, rfl, Nat.le_succ _, fun q hq _ => by rw [up_o (by omega), up_o (by omega)], by rw [e0]; exact (hC.upf 0).upf 3, by rw [e0]; rfl, by rw [e0]; exact ⟨hw, hW.2.1⟩⟩
      · refine r_st_5_7 (pc' := 39) dX6_ridge_37 rfl rfl rfl ?_
        refine r_s (pc' := 41) dX6_ridge_39 rfl rfl ?_
        refine r_ifeq_t (tgt := 51) dX6_ridge_41 (by decide) (by decide) ?_
        have hbd := hWh _ hj6 a sz fc heta
        have hro : rowok sz (nI f1) (nI m1) = true := by
          unfold rowok; rw [nI_toInt (by omega), nI_toInt (by omega)]; exact decide_eq_true (by omega)
        have hs34 := hSh1 _ hj6
        rw [heta] at hs34
        refine h_new (pc' := 54) dX6_ridge_51 rfl nX6_75 (Nat.le_of_ble_eq_true rfl) (Nat.le_of_ble_eq_true rfl) ?_
        refine r_s (pc' := 55) dX6_ridge_54 rfl rfl ?_
        refine r_s (pc' := 56) dX6_ridge_55 rfl rfl ?_
        refine r_gr (pc' := 59) dX6_ridge_56 rfl fX6_13 (hl_ rfl) rfl rfl ?_
        refine r_s (pc' := 60) dX6_ridge_59 rfl rfl ?_
        refine r_sald (pc' := 61) dX6_ridge_60 rfl (hl_ rfl) rfl (vp_in_nI (by omega) (by decide)) (by rw [nI_clamp (by omega : j6 < 2 ^ 31)]; exact isS_r (x := (x.1 + 1, nwR x)) (by omega)) ?_
        refine r_s (pc' := 62) dX6_ridge_61 rfl rfl ?_
        refine r_s (pc' := 64) dX6_ridge_62 rfl rfl ?_
        refine r_Iv3 (pc' := 67) dX6_ridge_64 rfl lX6_77 rfl (Nat.le_of_ble_eq_true rfl) (Nat.le_of_ble_eq_true rfl) (ct_X4_init (x := (x.1 + 1, nwR x)) (Nat.le_add_right _ _) (by show 102 + x.1 < 102 + (x.1 + 1); omega) hj6 (by omega)) (fun h64 e64 => ?_)
        obtain ⟨x2, I2, rfl, hx2, ht2, hsm0⟩ := e64
        have hx2 : x2.1 = x.1 + 1 := hx2
        have hsm : ∀ t, t < 102 → I2 t = sm_up I 0 6 0 t := fun t ht => by rw [hsm0 t (by omega)]; unfold nwI; funext j; rw [if_pos (by omega)]
        have hcc : isC I2 j6 f1 m1 (fun j => fc (f1 + j)) := fun j hj => by rw [hsm _ (by omega)]; exact hs34.2.2 (f1 + j) (by omega)
        refine r_st_6_7 (pc' := 69) dX6_ridge_67 rfl rfl rfl ?_
        refine r_s (pc' := 71) dX6_ridge_69 rfl rfl ?_
        refine r_s (pc' := 72) dX6_ridge_71 rfl rfl ?_
        refine r_gr (pc' := 75) dX6_ridge_72 rfl fX6_24 (hl_ rfl) rfl rfl ?_
        refine r_Vi1 (pc' := 78) dX6_ridge_75 rfl lX6_80 ht2.2.1 ht2.K rfl rfl rfl (Nat.le_of_ble_eq_true rfl) (Nat.le_of_ble_eq_true rfl) (ct_X4_readInto ht2 hcc) (fun r75 h75 e75 => ?_)
        rcases e75 with ⟨I3, rfl, rfl, hb75, t75, r75, w75, f75⟩ | ⟨I3, rfl, rfl, hb75, t75, f75⟩
        · refine r_ifne_t (tgt := 90) dX6_ridge_78 (by decide) (by decide) ?_
          refine r_s (pc' := 91) dX6_ridge_90 rfl rfl ?_
          refine r_gr (pc' := 94) dX6_ridge_91 rfl fX6_20 (hl_ rfl) rfl rfl ?_
          refine r_s (pc' := 95) dX6_ridge_94 rfl rfl ?_
          refine r_gr (pc' := 98) dX6_ridge_95 rfl fX6_24 (hl_ rfl) rfl rfl ?_
          refine r_Vv1 (pc' := 101) dX6_ridge_98 rfl lX6_88 (hl_ rfl) rfl rfl rfl rfl (Nat.le_of_ble_eq_true rfl) (Nat.le_of_ble_eq_true rfl) (ct_X2_become_2 r75 w75) (fun h98 e98 => ?_)
          obtain ⟨I4, rfl, b1, b2, b3⟩ := e98
          refine r_s (pc' := 102) dX6_ridge_101 rfl rfl ?_
          refine r_gr (pc' := 105) dX6_ridge_102 rfl fX6_39 (hl_ rfl) rfl rfl ?_
          refine r_Vv0 (pc' := 108) dX6_ridge_105 rfl lX6_91 (hl_ rfl) rfl rfl rfl rfl (Nat.le_of_ble_eq_true rfl) (Nat.le_of_ble_eq_true rfl) (ct_X1_clear) (fun h105 e105 => ?_)
          obtain rfl := e105
          refine r_s (pc' := 109) dX6_ridge_108 rfl rfl ?_
          refine r_gr (pc' := 112) dX6_ridge_109 rfl fX6_20 (hl_ rfl) rfl rfl ?_
          refine h_gi (pc' := 115) dX6_ridge_112 rfl fX6_94 (hl_ rfl) rfl ?_
          refine r_top ((show _ = nI (zg (prs (cde (fun j => fc (f1 + j)) m1) m1).2.2) by rw [up_o (by decide)]; exact b2.2.2.1)) ?_
          refine r_reti dX6_ridge_115 rfl (rfl) (Nat.le_of_ble_eq_true rfl) (Nat.le_of_ble_eq_true rfl) ⟨_, rfl, ?_⟩
          have e0 : sp_ridge ρ δ η (nI j6) (nI j15) (nI f1) (nI m1) = ((prs (cde (fun j => fc (f1 + j)) m1) m1).2.2, (0, δ.2), 0, nI (zg (prs (cde (fun j => fc (f1 + j)) m1) m1).2.2)) := by
            unfold sp_ridge
            rw [if_pos (ok_in hj6 (by decide))]
            rw [if_pos (ok_in hj15 (by decide))]
            rw [ix_nI (show j6 < 2 ^ 31 by omega), heta]
            refine (if_pos hln.symm).trans ((if_neg (nI_pos (by omega))).trans ((if_pos hro).trans ?_))
            rw [ix_nI (show f1 < 2 ^ 31 by omega), ix_nI (show m1 < 2 ^ 31 by omega)]
            rw [if_pos hb75]
          refine ⟨x2, _, rfl, by omega, fun q hq hq2 => ?_, ?_, by rw [e0], by rw [e0]; exact ⟨w75, Nat.zero_le _, fun r hr => absurd hr (Nat.not_lt_zero _)⟩⟩
          · rw [up_o (by omega), b1 q (by omega), f75.1 q (by omega) (by omega), hsm q (by omega)]; exact up_o (by omega)
          · rw [e0]
            refine (hC.upf 0).same2 (b2.same (fun t t1 t2 => up_o (by omega))) (by rw [up_o (by decide), b3]; exact f75.2) ⟨up_s, fun r hr => absurd hr (Nat.not_lt_zero _)⟩ (fun t ht => ?_)
            rw [up_o (by omega), b1 t (by omega), f75.1 t (by omega) (by omega), hsm t (by omega)]
        · refine r_ifne_f (pc' := 81) (tgt := 90) dX6_ridge_78 rfl (by decide) (by decide) ?_
          refine r_c (pc' := 83) dX6_ridge_81 rfl kc_bipush_m100 ?_
          refine r_s (pc' := 85) dX6_ridge_83 rfl rfl ?_
          refine r_Vi0 (pc' := 88) dX6_ridge_85 rfl lX6_84 t75.2.1 t75.K rfl rfl rfl (Nat.le_of_ble_eq_true rfl) (Nat.le_of_ble_eq_true rfl) (ct_X4_place t75) (fun r85 h85 e85 => ?_)
          obtain ⟨rfl, rfl⟩ := e85
          refine r_s (pc' := 89) dX6_ridge_88 rfl rfl ?_
          refine r_reti dX6_ridge_89 rfl (rfl) (Nat.le_of_ble_eq_true rfl) (Nat.le_of_ble_eq_true rfl) ⟨_, rfl, ?_⟩
          have e0 : sp_ridge ρ δ η (nI j6) (nI j15) (nI f1) (nI m1) = (ρ, δ, 0, -100 - nI (prs (cde (fun j => fc (f1 + j)) m1) m1).2.1) := by
            unfold sp_ridge
            rw [if_pos (ok_in hj6 (by decide))]
            rw [if_pos (ok_in hj15 (by decide))]
            rw [ix_nI (show j6 < 2 ^ 31 by omega), heta]
            refine (if_pos hln.symm).trans ((if_neg (nI_pos (by omega))).trans ((if_pos hro).trans ?_))
            rw [ix_nI (show f1 < 2 ^ 31 by omega), ix_nI (show m1 < 2 ^ 31 by omega)]
            rw [if_neg (fun e => by rw [hb75] at e; cases e)]
          exact ⟨x2, I3, rfl, by omega, fun q hq hq2 => by rw [f75.1 q (by omega) (by omega), hsm q (by omega)]; exact up_o (by omega), by rw [e0]; exact (hC.upf 0).same (fun r hr => by unfold atC at hr; rw [f75.1 r (by omega) (by omega), hsm r (by omega)]), by rw [e0], by rw [e0]; exact ⟨hw, hW.2.1⟩⟩
    · refine r_ifne_f (pc' := 21) (tgt := 24) dX6_ridge_18 rfl (by decide) (by decide) ?_
      refine r_c (pc' := 23) dX6_ridge_21 rfl kc_bipush_m2 ?_
      refine r_reti dX6_ridge_23 rfl (rfl) (Nat.le_of_ble_eq_true rfl) (Nat.le_of_ble_eq_true rfl) ⟨_, rfl, ?_⟩
      have e0 : sp_ridge ρ δ η (nI j6) ln i n = (ρ, δ, 0, -2) := by
        unfold sp_ridge
        rw [if_pos (ok_in hj6 (by decide))]
        rw [ok_no (by decide) hn15]; rfl
      exact ⟨x, _, rfl, Nat.le_succ _, fun q hq _ => up_o (by omega), by rw [e0]; exact hC.upf 0, by rw [e0], by rw [e0]; exact ⟨hw, hW.2.1⟩⟩
  · refine r_ifne_f (pc' := 12) (tgt := 14) dX6_ridge_9 rfl (by decide) (by decide) ?_
    refine r_c (pc' := 13) dX6_ridge_12 rfl kc_iconst_m1 ?_
    refine r_reti dX6_ridge_13 rfl (rfl) (Nat.le_of_ble_eq_true rfl) (Nat.le_of_ble_eq_true rfl) ⟨_, rfl, ?_⟩
    have e0 : sp_ridge ρ δ η k ln i n = (ρ, δ, 0, -1) := by
      unfold sp_ridge
      rw [ok_no (by decide) hn6]; rfl
    exact ⟨x, _, rfl, Nat.le_succ _, fun q hq _ => up_o (by omega), by rw [e0]; exact hC.upf 0, by rw [e0], by rw [e0]; exact ⟨hw, hW.2.1⟩⟩
