set_option maxHeartbeats 4000000 in
set_option maxRecDepth 100000 in
theorem lp0_X7_rr {call : sm_K} {Q : sm_Q} {x : hX} {k f m a : Nat} {I : Nat → Nat → Int32} (hT : isTm I k f m a) (hQ : Q (some (.int 0)) (hp x I)) : sm_wp call 0 0 MX7_readsRidge Q 88 [.ref 80, .int (nI (60 * k + f)), .int (nI m), .int 0] [] (hp x I) 0 0 := by
  refine r_s (pc' := 89) dX7_readsRidge_88 rfl rfl ?_
  refine r_ifeq_t (tgt := 107) dX7_readsRidge_89 (by decide) (by decide) ?_
  refine r_c (pc' := 108) dX7_readsRidge_107 rfl kc_iconst_0 ?_
  refine r_st_3_4 (pc' := 109) dX7_readsRidge_108 rfl rfl rfl ?_
  refine r_s (pc' := 110) dX7_readsRidge_109 rfl rfl ?_
  refine r_s (pc' := 111) dX7_readsRidge_110 rfl rfl ?_
  refine h_gi (pc' := 114) dX7_readsRidge_111 rfl fX7_99 (hl_ rfl) rfl ?_
  refine r_top (hT.1) ?_
  refine r_s (pc' := 115) dX7_readsRidge_114 rfl rfl ?_
  refine r_ifeq_t (tgt := 122) dX7_readsRidge_115 (by decide) (by decide) ?_
  refine r_c (pc' := 123) dX7_readsRidge_122 rfl kc_iconst_0 ?_
  refine r_s (pc' := 124) dX7_readsRidge_123 rfl rfl ?_
  refine r_top (Int32.add_zero _) ?_
  refine h_pi (pc' := 127) dX7_readsRidge_124 rfl fX7_99 rfl (hl_ rfl) rfl ?_
  refine r_s (pc' := 128) dX7_readsRidge_127 rfl rfl ?_
  refine r_ifeq_t (tgt := 170) dX7_readsRidge_128 (by decide) (by decide) ?_
  refine r_s (pc' := 171) dX7_readsRidge_170 rfl rfl ?_
  refine r_ifeq_t (tgt := 199) dX7_readsRidge_171 (by decide) (by decide) ?_
  refine r_s (pc' := 200) dX7_readsRidge_199 rfl rfl ?_
  refine r_reti dX7_readsRidge_200 rfl (rfl) (Nat.le_of_ble_eq_true rfl) (Nat.le_of_ble_eq_true rfl) ?_
  rw [up_id hT.1]; exact hQ

set_option maxHeartbeats 4000000 in
set_option maxRecDepth 100000 in
theorem lp9_X7_rr {call : sm_K} {Q : sm_Q} {x : hX} {k f m : Nat} {I : Nat → Nat → Int32} (hQ : Q (some (.int 0)) (hp x I)) : sm_wp call 0 0 MX7_readsRidge Q 170 [.ref 80, .int (nI (60 * k + f)), .int (nI m), .int 0] [] (hp x I) 0 0 := by
  refine r_s (pc' := 171) dX7_readsRidge_170 rfl rfl ?_
  refine r_ifeq_t (tgt := 199) dX7_readsRidge_171 (by decide) (by decide) ?_
  refine r_s (pc' := 200) dX7_readsRidge_199 rfl rfl ?_
  refine r_reti dX7_readsRidge_200 rfl (rfl) (Nat.le_of_ble_eq_true rfl) (Nat.le_of_ble_eq_true rfl) ?_
  exact hQ

theorem pr1_f {e : Nat → Int32} {n : Nat} {a : Bool × zpS} (h : ¬ ((a.1 = true ∧ 2 ≤ zi a.2.2) ∧ e a.2.1 = 59)) : pr1 e n a = (false, a.2) := by
  unfold pr1
  by_cases h1 : a.1 = true ∧ 2 ≤ zi a.2.2
  · rw [if_pos h1, if_neg (fun q => h ⟨h1, q⟩)]
  · rw [if_neg h1]
theorem pr2_f {e : Nat → Int32} {n : Nat} {b : Bool × zpS} (h : ¬ (b.1 = true ∧ 0 < zn b.2.2)) : pr2 e n b = (false, b.2) := by unfold pr2; rw [if_neg h]
theorem pr3_f {n : Nat} {g : Bool × zpS} (h : ¬ ((g.1 = true ∧ 0 < zg g.2.2) ∧ g.2.1 = n)) : pr3 n g = (false, g.2) := by unfold pr3; rw [if_neg h]
theorem rG_s {e : Nat → Int32} {s : zpS} (h : ¬ e s.1 = 43) : ∀ n, rG e n s = (true, s)
  | 0 => rfl
  | n + 1 => by rw [rG, if_neg h]
theorem rI_s {e : Nat → Int32} {s : zpS} (h : ¬ e s.1 = 44) : ∀ n, rI e n s = (true, s)
  | 0 => rfl
  | n + 1 => by rw [rI, if_neg h]
theorem rN_s {e : Nat → Int32} {s : zpS} (h : wnd (e s.1) = none) : ∀ n, rN e n s = (true, s)
  | 0 => rfl
  | n + 1 => by unfold rN; rw [h]
theorem pr2_8 {e : Nat → Int32} {n : Nat} {s : zpS} {w : Nat} (h : wnd (e s.1) = some w) (hg : zg s.2 = 0) : pr2 e n (true, s) = (false, s) := by
  unfold pr2
  by_cases h1 : ((true, s) : Bool × zpS).1 = true ∧ 0 < zn ((true, s) : Bool × zpS).2.2
  · rw [if_pos h1]
    have h43 : ¬ e s.1 = 43 := fun q => by rw [q, show wnd 43 = none by decide] at h; cases h
    show pr3 n (rG e 8 s) = _
    rw [rG_s h43, pr3_f (fun q => by have : 0 < zg s.2 := q.1.2; omega)]
  · rw [if_neg h1]

theorem pI_z {e : Nat → Int32} {s : zpS} (h : (pI e s).1 = true) : zi (pI e s).2.2 = zi s.2 + 1 := by
  unfold pI at h ⊢
  cases h1 : kdc (e (s.1 + 1)) with
  | none => rw [h1] at h; cases h
  | some kd =>
    rw [h1] at h
    simp only [] at h ⊢
    cases h2 : dgt (e (s.1 + 1 + 1)) 10 with
    | none => rw [h2] at h; cases h
    | some v => rfl
theorem pI_n {e : Nat → Int32} {s : zpS} : zn (pI e s).2.2 = zn s.2 := by
  unfold pI
  cases h1 : kdc (e (s.1 + 1)) with
  | none => rfl
  | some kd =>
    simp only []
    cases h2 : dgt (e (s.1 + 1 + 1)) 10 with
    | none => rfl
    | some v => rfl
theorem pI_g {e : Nat → Int32} {s : zpS} : zg (pI e s).2.2 = zg s.2 := by
  unfold pI
  cases h1 : kdc (e (s.1 + 1)) with
  | none => rfl
  | some kd =>
    simp only []
    cases h2 : dgt (e (s.1 + 1 + 1)) 10 with
    | none => rfl
    | some v => rfl
theorem pN_z {e : Nat → Int32} {s : zpS} {w : Nat} (h : (pN e w s).1 = true) : zn (pN e w s).2.2 = zn s.2 + 1 := by
  unfold pN at h ⊢
  cases h1 : dgt (e (s.1 + 1)) 6 with
  | none => rw [h1] at h; cases h
  | some v => rfl
theorem pN_i {e : Nat → Int32} {s : zpS} {w : Nat} : zi (pN e w s).2.2 = zi s.2 := by
  unfold pN
  cases h1 : dgt (e (s.1 + 1)) 6 with
  | none => rfl
  | some v => rfl
theorem pN_g {e : Nat → Int32} {s : zpS} {w : Nat} : zg (pN e w s).2.2 = zg s.2 := by
  unfold pN
  cases h1 : dgt (e (s.1 + 1)) 6 with
  | none => rfl
  | some v => rfl
theorem pG_z {e : Nat → Int32} {s : zpS} (h : (pG e s).1 = true) : zg (pG e s).2.2 = zg s.2 + 1 := by
  unfold pG at h ⊢
  cases h1 : dgt (e (s.1 + 1)) 4 with
  | none => rw [h1] at h; cases h
  | some y =>
    rw [h1] at h
    simp only [] at h ⊢
    cases h2 : dgt (e (s.1 + 1 + 1)) (zi s.2) with
    | none => rw [h2] at h; cases h
    | some v => rfl
theorem pG_i {e : Nat → Int32} {s : zpS} : zi (pG e s).2.2 = zi s.2 := by
  unfold pG
  cases h1 : dgt (e (s.1 + 1)) 4 with
  | none => rfl
  | some y =>
    simp only []
    cases h2 : dgt (e (s.1 + 1 + 1)) (zi s.2) with
    | none => rfl
    | some v => rfl
theorem pG_n {e : Nat → Int32} {s : zpS} : zn (pG e s).2.2 = zn s.2 := by
  unfold pG
  cases h1 : dgt (e (s.1 + 1)) 4 with
  | none => rfl
  | some y =>
    simp only []
    cases h2 : dgt (e (s.1 + 1 + 1)) (zi s.2) with
    | none => rfl
    | some v => rfl

set_option maxHeartbeats 4000000 in
set_option maxRecDepth 100000 in
theorem lp1_X7_rr {d : Nat} {Q : sm_Q} {x : hX} {k f m : Nat} {c : Nat → Int32} {I0 : Nat → Nat → Int32} (hc0 : isCm I0 k f m c) {A : Bool × zpS} (hex1 : ∀ I, (A.1 = true ∧ 2 ≤ zi A.2.2) → isTm I k f m A.2.1 → isRm I A.2.2 → wfP A.2.2 → zn A.2.2 = 0 → zg A.2.2 = 0 → frP I0 I → sm_wp (sm_c (d + 3)) 0 0 MX7_readsRidge Q 88 [.ref 80, .int (nI (60 * k + f)), .int (nI m), .int 1] [] (hp x I) 0 0) (hex0 : ∀ I, pr1 (cde c m) m A = (false, A.2) → isTm I k f m A.2.1 → frP I0 I → sm_wp (sm_c (d + 3)) 0 0 MX7_readsRidge Q 88 [.ref 80, .int (nI (60 * k + f)), .int (nI m), .int 0] [] (hp x I) 0 0) : ∀ (n : Nat) (s : zpS) (I : Nat → Nat → Int32), zi s.2 + n = 6 → rI (cde c m) n s = A → isTm I k f m s.1 → isRm I s.2 → wfP s.2 → zn s.2 = 0 → zg s.2 = 0 → frP I0 I → sm_wp (sm_c (d + 3)) 0 0 MX7_readsRidge Q 55 [.ref 80, .int (nI (60 * k + f)), .int (nI m), .int 1] [] (hp x I) 0 0 := by
  intro n
  induction n with
  | zero =>
    intro s I hn ha hT hR hw hn0 hg0 h2
    have ham := hT.2.1
    have hfm := hT.2.2.1
    have hk4 := hT.2.2.2
    have hb := hw.1
    have hbn := hw.2.1
    have hbg := hw.2.2.1
    have hc : isCm I k f m c := hc0.fr h2
    refine r_s (pc' := 56) dX7_readsRidge_55 rfl rfl ?_
    refine r_ifeq_f (pc' := 59) (tgt := 88) dX7_readsRidge_56 rfl (by decide) (by decide) ?_
    refine r_s (pc' := 60) dX7_readsRidge_59 rfl rfl ?_
    refine h_gi (pc' := 63) dX7_readsRidge_60 rfl fX7_106 (hl_ rfl) rfl ?_
    refine r_top (hR.1) ?_
    refine r_c (pc' := 64) dX7_readsRidge_63 rfl kc_iconst_2 ?_
    refine r_clt (pc' := 67) (tgt := 78) dX7_readsRidge_64 rfl (by decide) (fun c64 => ?_) (fun c64 => ?_)
    · refine r_s (pc' := 79) dX7_readsRidge_78 rfl rfl ?_
      refine r_s (pc' := 80) dX7_readsRidge_79 rfl rfl ?_
      refine r_s (pc' := 81) dX7_readsRidge_80 rfl rfl ?_
      refine r_Vi2 (pc' := 84) dX7_readsRidge_81 rfl lX7_119 (hl_ rfl) rfl rfl rfl rfl (Nat.le_of_ble_eq_true rfl) (Nat.le_of_ble_eq_true rfl) (ct_X7_readsInn hT hc hR hw hg0) (fun r81 h81 e81 => ?_)
      rcases e81 with ⟨rfl, rfl, hq⟩ | ⟨I1, rfl, rfl, hq, hp1, ht1, hr1, hw1, f1⟩ | ⟨I1, rfl, rfl, hq, hp1, ht1, f1⟩
      · refine r_st_3_4 (pc' := 85) dX7_readsRidge_84 rfl rfl rfl ?_
        refine r_goto (tgt := 55) dX7_readsRidge_85 (by decide) ?_
        exact absurd ((nI_ltI (a := zi s.2) (b := 2) (by omega) (by decide)).mp c64) (by omega)
      · refine r_st_3_4 (pc' := 85) dX7_readsRidge_84 rfl rfl rfl ?_
        refine r_goto (tgt := 55) dX7_readsRidge_85 (by decide) ?_
        exact absurd hq.1 (by omega)
      · refine r_st_3_4 (pc' := 85) dX7_readsRidge_84 rfl rfl rfl ?_
        refine r_goto (tgt := 55) dX7_readsRidge_85 (by decide) ?_
        exact absurd hq.1 (by omega)
    · refine r_s (pc' := 68) dX7_readsRidge_67 rfl rfl ?_
      refine r_s (pc' := 69) dX7_readsRidge_68 rfl rfl ?_
      refine r_s (pc' := 70) dX7_readsRidge_69 rfl rfl ?_
      refine r_Vi2 (pc' := 73) dX7_readsRidge_70 rfl lX7_102 (hl_ rfl) rfl rfl rfl rfl (Nat.le_of_ble_eq_true rfl) (Nat.le_of_ble_eq_true rfl) (ct_X7_codeAt hT hc) (fun r70 h70 e70 => ?_)
      obtain ⟨rfl, rfl⟩ := e70
      refine r_c (pc' := 75) dX7_readsRidge_73 rfl kc_bipush_44 ?_
      refine r_cne (pc' := 78) (tgt := 88) dX7_readsRidge_75 rfl (by decide) (fun c75 => ?_) (fun c75 => ?_)
      · rw [rI_s c75] at ha
        exact hex1 I ⟨by rw [← ha], by rw [← ha]; exact Nat.le_of_not_lt (fun h => c64 (nI_lt h (by decide)))⟩ (by rw [← ha]; exact hT) (by rw [← ha]; exact hR) (by rw [← ha]; exact hw) (by rw [← ha]; exact hn0) (by rw [← ha]; exact hg0) h2
      · refine r_s (pc' := 79) dX7_readsRidge_78 rfl rfl ?_
        refine r_s (pc' := 80) dX7_readsRidge_79 rfl rfl ?_
        refine r_s (pc' := 81) dX7_readsRidge_80 rfl rfl ?_
        refine r_Vi2 (pc' := 84) dX7_readsRidge_81 rfl lX7_119 (hl_ rfl) rfl rfl rfl rfl (Nat.le_of_ble_eq_true rfl) (Nat.le_of_ble_eq_true rfl) (ct_X7_readsInn hT hc hR hw hg0) (fun r81 h81 e81 => ?_)
        rcases e81 with ⟨rfl, rfl, hq⟩ | ⟨I1, rfl, rfl, hq, hp1, ht1, hr1, hw1, f1⟩ | ⟨I1, rfl, rfl, hq, hp1, ht1, f1⟩
        · refine r_st_3_4 (pc' := 85) dX7_readsRidge_84 rfl rfl rfl ?_
          refine r_goto (tgt := 55) dX7_readsRidge_85 (by decide) ?_
          have ha : (true, s) = A := ha
          have hx := hex0 I (by rw [← ha]; exact pr1_f (fun q => by have q2 : (cde c m) s.1 = 59 := q.2; rw [c75] at q2; exact absurd q2 (by decide))) (by rw [← ha]; exact hT) h2
          refine r_s (pc' := 56) dX7_readsRidge_55 rfl rfl ?_
          refine r_ifeq_t (tgt := 88) dX7_readsRidge_56 (by decide) (by decide) ?_
          exact hx
        · refine r_st_3_4 (pc' := 85) dX7_readsRidge_84 rfl rfl rfl ?_
          refine r_goto (tgt := 55) dX7_readsRidge_85 (by decide) ?_
          exact absurd hq.1 (by omega)
        · refine r_st_3_4 (pc' := 85) dX7_readsRidge_84 rfl rfl rfl ?_
          refine r_goto (tgt := 55) dX7_readsRidge_85 (by decide) ?_
          exact absurd hq.1 (by omega)
  | succ n ih =>
    intro s I hn ha hT hR hw hn0 hg0 h2
    have ham := hT.2.1
    have hfm := hT.2.2.1
    have hk4 := hT.2.2.2
    have hb := hw.1
    have hbn := hw.2.1
    have hbg := hw.2.2.1
    have hc : isCm I k f m c := hc0.fr h2
    refine r_s (pc' := 56) dX7_readsRidge_55 rfl rfl ?_
    refine r_ifeq_f (pc' := 59) (tgt := 88) dX7_readsRidge_56 rfl (by decide) (by decide) ?_
    refine r_s (pc' := 60) dX7_readsRidge_59 rfl rfl ?_
    refine h_gi (pc' := 63) dX7_readsRidge_60 rfl fX7_106 (hl_ rfl) rfl ?_
    refine r_top (hR.1) ?_
    refine r_c (pc' := 64) dX7_readsRidge_63 rfl kc_iconst_2 ?_
    refine r_clt (pc' := 67) (tgt := 78) dX7_readsRidge_64 rfl (by decide) (fun c64 => ?_) (fun c64 => ?_)
    · refine r_s (pc' := 79) dX7_readsRidge_78 rfl rfl ?_
      refine r_s (pc' := 80) dX7_readsRidge_79 rfl rfl ?_
      refine r_s (pc' := 81) dX7_readsRidge_80 rfl rfl ?_
      refine r_Vi2 (pc' := 84) dX7_readsRidge_81 rfl lX7_119 (hl_ rfl) rfl rfl rfl rfl (Nat.le_of_ble_eq_true rfl) (Nat.le_of_ble_eq_true rfl) (ct_X7_readsInn hT hc hR hw hg0) (fun r81 h81 e81 => ?_)
      rcases e81 with ⟨rfl, rfl, hq⟩ | ⟨I1, rfl, rfl, hq, hp1, ht1, hr1, hw1, f1⟩ | ⟨I1, rfl, rfl, hq, hp1, ht1, f1⟩
      · refine r_st_3_4 (pc' := 85) dX7_readsRidge_84 rfl rfl rfl ?_
        refine r_goto (tgt := 55) dX7_readsRidge_85 (by decide) ?_
        have h44 : ¬ (cde c m) s.1 = 44 := by rcases hq with h | h; omega; exact h
        rw [rI_s h44] at ha
        have hx := hex0 I (by rw [← ha]; exact pr1_f (fun q => absurd ((nI_ltI (a := zi s.2) (b := 2) (by omega) (by decide)).mp c64) (Nat.not_lt.mpr (show 2 ≤ zi s.2 from q.1.2)))) (by rw [← ha]; exact hT) h2
        refine r_s (pc' := 56) dX7_readsRidge_55 rfl rfl ?_
        refine r_ifeq_t (tgt := 88) dX7_readsRidge_56 (by decide) (by decide) ?_
        exact hx
      · refine r_st_3_4 (pc' := 85) dX7_readsRidge_84 rfl rfl rfl ?_
        refine r_goto (tgt := 55) dX7_readsRidge_85 (by decide) ?_
        rw [rI, if_pos hq.2, if_pos hp1] at ha
        exact ih (pI (cde c m) s).2 I1 (by have : zi (pI (cde c m) s).2.2 = zi s.2 + 1 := pI_z hp1; omega) ha ht1 hr1 hw1 (by rw [pI_n]; exact hn0) (by rw [pI_g]; exact hg0) (h2.tr f1)
      · refine r_st_3_4 (pc' := 85) dX7_readsRidge_84 rfl rfl rfl ?_
        refine r_goto (tgt := 55) dX7_readsRidge_85 (by decide) ?_
        rw [rI, if_pos hq.2, if_neg (fun h => by rw [hp1] at h; cases h)] at ha
        have hx := hex0 I1 (by rw [← ha]; exact pr1_f (fun q => by rw [hp1] at q; cases q.1.1)) (by rw [← ha]; exact ht1) (h2.tr f1)
        refine r_s (pc' := 56) dX7_readsRidge_55 rfl rfl ?_
        refine r_ifeq_t (tgt := 88) dX7_readsRidge_56 (by decide) (by decide) ?_
        exact hx
    · refine r_s (pc' := 68) dX7_readsRidge_67 rfl rfl ?_
      refine r_s (pc' := 69) dX7_readsRidge_68 rfl rfl ?_
      refine r_s (pc' := 70) dX7_readsRidge_69 rfl rfl ?_
      refine r_Vi2 (pc' := 73) dX7_readsRidge_70 rfl lX7_102 (hl_ rfl) rfl rfl rfl rfl (Nat.le_of_ble_eq_true rfl) (Nat.le_of_ble_eq_true rfl) (ct_X7_codeAt hT hc) (fun r70 h70 e70 => ?_)
      obtain ⟨rfl, rfl⟩ := e70
      refine r_c (pc' := 75) dX7_readsRidge_73 rfl kc_bipush_44 ?_
      refine r_cne (pc' := 78) (tgt := 88) dX7_readsRidge_75 rfl (by decide) (fun c75 => ?_) (fun c75 => ?_)
      · rw [rI_s c75] at ha
        exact hex1 I ⟨by rw [← ha], by rw [← ha]; exact Nat.le_of_not_lt (fun h => c64 (nI_lt h (by decide)))⟩ (by rw [← ha]; exact hT) (by rw [← ha]; exact hR) (by rw [← ha]; exact hw) (by rw [← ha]; exact hn0) (by rw [← ha]; exact hg0) h2
      · refine r_s (pc' := 79) dX7_readsRidge_78 rfl rfl ?_
        refine r_s (pc' := 80) dX7_readsRidge_79 rfl rfl ?_
        refine r_s (pc' := 81) dX7_readsRidge_80 rfl rfl ?_
        refine r_Vi2 (pc' := 84) dX7_readsRidge_81 rfl lX7_119 (hl_ rfl) rfl rfl rfl rfl (Nat.le_of_ble_eq_true rfl) (Nat.le_of_ble_eq_true rfl) (ct_X7_readsInn hT hc hR hw hg0) (fun r81 h81 e81 => ?_)
        rcases e81 with ⟨rfl, rfl, hq⟩ | ⟨I1, rfl, rfl, hq, hp1, ht1, hr1, hw1, f1⟩ | ⟨I1, rfl, rfl, hq, hp1, ht1, f1⟩
        · refine r_st_3_4 (pc' := 85) dX7_readsRidge_84 rfl rfl rfl ?_
          refine r_goto (tgt := 55) dX7_readsRidge_85 (by decide) ?_
          exact absurd hq (by rintro (h | h); omega; exact h c75)
        · refine r_st_3_4 (pc' := 85) dX7_readsRidge_84 rfl rfl rfl ?_
          refine r_goto (tgt := 55) dX7_readsRidge_85 (by decide) ?_
          rw [rI, if_pos hq.2, if_pos hp1] at ha
          exact ih (pI (cde c m) s).2 I1 (by have : zi (pI (cde c m) s).2.2 = zi s.2 + 1 := pI_z hp1; omega) ha ht1 hr1 hw1 (by rw [pI_n]; exact hn0) (by rw [pI_g]; exact hg0) (h2.tr f1)
        · refine r_st_3_4 (pc' := 85) dX7_readsRidge_84 rfl rfl rfl ?_
          refine r_goto (tgt := 55) dX7_readsRidge_85 (by decide) ?_
          rw [rI, if_pos hq.2, if_neg (fun h => by rw [hp1] at h; cases h)] at ha
          have hx := hex0 I1 (by rw [← ha]; exact pr1_f (fun q => by rw [hp1] at q; cases q.1.1)) (by rw [← ha]; exact ht1) (h2.tr f1)
          refine r_s (pc' := 56) dX7_readsRidge_55 rfl rfl ?_
          refine r_ifeq_t (tgt := 88) dX7_readsRidge_56 (by decide) (by decide) ?_
          exact hx

set_option maxHeartbeats 4000000 in
set_option maxRecDepth 100000 in
theorem lp2_X7_rr {d : Nat} {Q : sm_Q} {x : hX} {k f m : Nat} {c : Nat → Int32} {I0 : Nat → Nat → Int32} (hc0 : isCm I0 k f m c) {A : Bool × zpS} (hex1 : ∀ I, (A.1 = true ∧ 0 < zn A.2.2) → isTm I k f m A.2.1 → isRm I A.2.2 → wfP A.2.2 → 2 ≤ zi A.2.2 → zg A.2.2 = 0 → frP I0 I → sm_wp (sm_c (d + 3)) 0 0 MX7_readsRidge Q 170 [.ref 80, .int (nI (60 * k + f)), .int (nI m), .int 1] [] (hp x I) 0 0) (hex0 : ∀ I, pr2 (cde c m) m A = (false, A.2) → isTm I k f m A.2.1 → frP I0 I → sm_wp (sm_c (d + 3)) 0 0 MX7_readsRidge Q 170 [.ref 80, .int (nI (60 * k + f)), .int (nI m), .int 0] [] (hp x I) 0 0) : ∀ (n : Nat) (s : zpS) (I : Nat → Nat → Int32), zn s.2 + n = 8 → rN (cde c m) n s = A → isTm I k f m s.1 → isRm I s.2 → wfP s.2 → 2 ≤ zi s.2 → zg s.2 = 0 → frP I0 I → sm_wp (sm_c (d + 3)) 0 0 MX7_readsRidge Q 127 [.ref 80, .int (nI (60 * k + f)), .int (nI m), .int 1] [] (hp x I) 0 0 := by
  intro n
  induction n with
  | zero =>
    intro s I hn ha hT hR hw hi2 hg0 h2
    have ham := hT.2.1
    have hfm := hT.2.2.1
    have hk4 := hT.2.2.2
    have hb := hw.1
    have hbn := hw.2.1
    have hbg := hw.2.2.1
    have hc : isCm I k f m c := hc0.fr h2
    refine r_s (pc' := 128) dX7_readsRidge_127 rfl rfl ?_
    refine r_ifeq_f (pc' := 131) (tgt := 170) dX7_readsRidge_128 rfl (by decide) (by decide) ?_
    refine r_s (pc' := 132) dX7_readsRidge_131 rfl rfl ?_
    refine h_gi (pc' := 135) dX7_readsRidge_132 rfl fX7_113 (hl_ rfl) rfl ?_
    refine r_top (hR.2.1) ?_
    refine r_ifeq (pc' := 138) (tgt := 160) dX7_readsRidge_135 rfl (by decide) (fun c135 => ?_) (fun c135 => ?_)
    · refine r_s (pc' := 161) dX7_readsRidge_160 rfl rfl ?_
      refine r_s (pc' := 162) dX7_readsRidge_161 rfl rfl ?_
      refine r_s (pc' := 163) dX7_readsRidge_162 rfl rfl ?_
      refine r_Vi2 (pc' := 166) dX7_readsRidge_163 rfl lX7_123 (hl_ rfl) rfl rfl rfl rfl (Nat.le_of_ble_eq_true rfl) (Nat.le_of_ble_eq_true rfl) (ct_X7_readsNight hT hc hR hw) (fun r163 h163 e163 => ?_)
      rcases e163 with ⟨rfl, rfl, hq⟩ | ⟨w1, I1, rfl, rfl, hq, hp1, ht1, hr1, hw1, f1⟩ | ⟨w1, I1, rfl, rfl, hq, hp1, ht1, f1⟩
      · refine r_st_3_4 (pc' := 167) dX7_readsRidge_166 rfl rfl rfl ?_
        refine r_goto (tgt := 127) dX7_readsRidge_167 (by decide) ?_
        exact absurd c135 (nI_ne0 (by omega) (by omega))
      · refine r_st_3_4 (pc' := 167) dX7_readsRidge_166 rfl rfl rfl ?_
        refine r_goto (tgt := 127) dX7_readsRidge_167 (by decide) ?_
        exact absurd hq.1 (by omega)
      · refine r_st_3_4 (pc' := 167) dX7_readsRidge_166 rfl rfl rfl ?_
        refine r_goto (tgt := 127) dX7_readsRidge_167 (by decide) ?_
        exact absurd hq.1 (by omega)
    · refine r_s (pc' := 139) dX7_readsRidge_138 rfl rfl ?_
      refine r_s (pc' := 140) dX7_readsRidge_139 rfl rfl ?_
      refine r_s (pc' := 141) dX7_readsRidge_140 rfl rfl ?_
      refine r_Vi2 (pc' := 144) dX7_readsRidge_141 rfl lX7_102 (hl_ rfl) rfl rfl rfl rfl (Nat.le_of_ble_eq_true rfl) (Nat.le_of_ble_eq_true rfl) (ct_X7_codeAt hT hc) (fun r141 h141 e141 => ?_)
      obtain ⟨rfl, rfl⟩ := e141
      refine r_c (pc' := 146) dX7_readsRidge_144 rfl kc_bipush_62 ?_
      refine r_ceq (pc' := 149) (tgt := 160) dX7_readsRidge_146 rfl (by decide) (fun c146 => ?_) (fun c146 => ?_)
      · refine r_s (pc' := 161) dX7_readsRidge_160 rfl rfl ?_
        refine r_s (pc' := 162) dX7_readsRidge_161 rfl rfl ?_
        refine r_s (pc' := 163) dX7_readsRidge_162 rfl rfl ?_
        refine r_Vi2 (pc' := 166) dX7_readsRidge_163 rfl lX7_123 (hl_ rfl) rfl rfl rfl rfl (Nat.le_of_ble_eq_true rfl) (Nat.le_of_ble_eq_true rfl) (ct_X7_readsNight hT hc hR hw) (fun r163 h163 e163 => ?_)
        rcases e163 with ⟨rfl, rfl, hq⟩ | ⟨w1, I1, rfl, rfl, hq, hp1, ht1, hr1, hw1, f1⟩ | ⟨w1, I1, rfl, rfl, hq, hp1, ht1, f1⟩
        · refine r_st_3_4 (pc' := 167) dX7_readsRidge_166 rfl rfl rfl ?_
          refine r_goto (tgt := 127) dX7_readsRidge_167 (by decide) ?_
          have ha : (true, s) = A := ha
          have hx := hex0 I (by rw [← ha]; exact pr2_8 (w := 0) (by rw [c146]; decide) hg0) (by rw [← ha]; exact hT) h2
          refine r_s (pc' := 128) dX7_readsRidge_127 rfl rfl ?_
          refine r_ifeq_t (tgt := 170) dX7_readsRidge_128 (by decide) (by decide) ?_
          exact hx
        · refine r_st_3_4 (pc' := 167) dX7_readsRidge_166 rfl rfl rfl ?_
          refine r_goto (tgt := 127) dX7_readsRidge_167 (by decide) ?_
          exact absurd hq.1 (by omega)
        · refine r_st_3_4 (pc' := 167) dX7_readsRidge_166 rfl rfl rfl ?_
          refine r_goto (tgt := 127) dX7_readsRidge_167 (by decide) ?_
          exact absurd hq.1 (by omega)
      · refine r_s (pc' := 150) dX7_readsRidge_149 rfl rfl ?_
        refine r_s (pc' := 151) dX7_readsRidge_150 rfl rfl ?_
        refine r_s (pc' := 152) dX7_readsRidge_151 rfl rfl ?_
        refine r_Vi2 (pc' := 155) dX7_readsRidge_152 rfl lX7_102 (hl_ rfl) rfl rfl rfl rfl (Nat.le_of_ble_eq_true rfl) (Nat.le_of_ble_eq_true rfl) (ct_X7_codeAt hT hc) (fun r152 h152 e152 => ?_)
        obtain ⟨rfl, rfl⟩ := e152
        refine r_c (pc' := 157) dX7_readsRidge_155 rfl kc_bipush_60 ?_
        refine r_cne (pc' := 160) (tgt := 170) dX7_readsRidge_157 rfl (by decide) (fun c157 => ?_) (fun c157 => ?_)
        · have h44 : wnd ((cde c m) s.1) = none := by unfold wnd; rw [if_neg c146, if_neg c157]
          rw [rN_s h44] at ha
          exact hex1 I ⟨by rw [← ha], by rw [← ha]; exact Nat.pos_of_ne_zero (z1 c135)⟩ (by rw [← ha]; exact hT) (by rw [← ha]; exact hR) (by rw [← ha]; exact hw) (by rw [← ha]; exact hi2) (by rw [← ha]; exact hg0) h2
        · refine r_s (pc' := 161) dX7_readsRidge_160 rfl rfl ?_
          refine r_s (pc' := 162) dX7_readsRidge_161 rfl rfl ?_
          refine r_s (pc' := 163) dX7_readsRidge_162 rfl rfl ?_
          refine r_Vi2 (pc' := 166) dX7_readsRidge_163 rfl lX7_123 (hl_ rfl) rfl rfl rfl rfl (Nat.le_of_ble_eq_true rfl) (Nat.le_of_ble_eq_true rfl) (ct_X7_readsNight hT hc hR hw) (fun r163 h163 e163 => ?_)
          rcases e163 with ⟨rfl, rfl, hq⟩ | ⟨w1, I1, rfl, rfl, hq, hp1, ht1, hr1, hw1, f1⟩ | ⟨w1, I1, rfl, rfl, hq, hp1, ht1, f1⟩
          · refine r_st_3_4 (pc' := 167) dX7_readsRidge_166 rfl rfl rfl ?_
            refine r_goto (tgt := 127) dX7_readsRidge_167 (by decide) ?_
            have ha : (true, s) = A := ha
            have hx := hex0 I (by rw [← ha]; exact pr2_8 (w := 1) (by rw [c157]; decide) hg0) (by rw [← ha]; exact hT) h2
            refine r_s (pc' := 128) dX7_readsRidge_127 rfl rfl ?_
            refine r_ifeq_t (tgt := 170) dX7_readsRidge_128 (by decide) (by decide) ?_
            exact hx
          · refine r_st_3_4 (pc' := 167) dX7_readsRidge_166 rfl rfl rfl ?_
            refine r_goto (tgt := 127) dX7_readsRidge_167 (by decide) ?_
            exact absurd hq.1 (by omega)
          · refine r_st_3_4 (pc' := 167) dX7_readsRidge_166 rfl rfl rfl ?_
            refine r_goto (tgt := 127) dX7_readsRidge_167 (by decide) ?_
            exact absurd hq.1 (by omega)
  | succ n ih =>
    intro s I hn ha hT hR hw hi2 hg0 h2
    have ham := hT.2.1
    have hfm := hT.2.2.1
    have hk4 := hT.2.2.2
    have hb := hw.1
    have hbn := hw.2.1
    have hbg := hw.2.2.1
    have hc : isCm I k f m c := hc0.fr h2
    refine r_s (pc' := 128) dX7_readsRidge_127 rfl rfl ?_
    refine r_ifeq_f (pc' := 131) (tgt := 170) dX7_readsRidge_128 rfl (by decide) (by decide) ?_
    refine r_s (pc' := 132) dX7_readsRidge_131 rfl rfl ?_
    refine h_gi (pc' := 135) dX7_readsRidge_132 rfl fX7_113 (hl_ rfl) rfl ?_
    refine r_top (hR.2.1) ?_
    refine r_ifeq (pc' := 138) (tgt := 160) dX7_readsRidge_135 rfl (by decide) (fun c135 => ?_) (fun c135 => ?_)
    · refine r_s (pc' := 161) dX7_readsRidge_160 rfl rfl ?_
      refine r_s (pc' := 162) dX7_readsRidge_161 rfl rfl ?_
      refine r_s (pc' := 163) dX7_readsRidge_162 rfl rfl ?_
      refine r_Vi2 (pc' := 166) dX7_readsRidge_163 rfl lX7_123 (hl_ rfl) rfl rfl rfl rfl (Nat.le_of_ble_eq_true rfl) (Nat.le_of_ble_eq_true rfl) (ct_X7_readsNight hT hc hR hw) (fun r163 h163 e163 => ?_)
      rcases e163 with ⟨rfl, rfl, hq⟩ | ⟨w1, I1, rfl, rfl, hq, hp1, ht1, hr1, hw1, f1⟩ | ⟨w1, I1, rfl, rfl, hq, hp1, ht1, f1⟩
      · refine r_st_3_4 (pc' := 167) dX7_readsRidge_166 rfl rfl rfl ?_
        refine r_goto (tgt := 127) dX7_readsRidge_167 (by decide) ?_
        have h44 : wnd ((cde c m) s.1) = none := by rcases hq with h | h; omega; exact h
        rw [rN_s h44] at ha
        have hx := hex0 I (by rw [← ha]; exact pr2_f (fun q => absurd c135 (nI_ne0 q.2 (by omega)))) (by rw [← ha]; exact hT) h2
        refine r_s (pc' := 128) dX7_readsRidge_127 rfl rfl ?_
        refine r_ifeq_t (tgt := 170) dX7_readsRidge_128 (by decide) (by decide) ?_
        exact hx
      · refine r_st_3_4 (pc' := 167) dX7_readsRidge_166 rfl rfl rfl ?_
        refine r_goto (tgt := 127) dX7_readsRidge_167 (by decide) ?_
        unfold rN at ha
        rw [hq.2] at ha
        simp only [] at ha
        rw [if_pos hp1] at ha
        exact ih (pN (cde c m) w1 s).2 I1 (by have : zn (pN (cde c m) w1 s).2.2 = zn s.2 + 1 := pN_z hp1; omega) ha ht1 hr1 hw1 (by rw [pN_i]; exact hi2) (by rw [pN_g]; exact hg0) (h2.tr f1)
      · refine r_st_3_4 (pc' := 167) dX7_readsRidge_166 rfl rfl rfl ?_
        refine r_goto (tgt := 127) dX7_readsRidge_167 (by decide) ?_
        unfold rN at ha
        rw [hq.2] at ha
        simp only [] at ha
        rw [if_neg (fun h => by rw [hp1] at h; cases h)] at ha
        have hx := hex0 I1 (by rw [← ha]; exact pr2_f (fun q => by rw [hp1] at q; cases q.1)) (by rw [← ha]; exact ht1) (h2.tr f1)
        refine r_s (pc' := 128) dX7_readsRidge_127 rfl rfl ?_
        refine r_ifeq_t (tgt := 170) dX7_readsRidge_128 (by decide) (by decide) ?_
        exact hx
    · refine r_s (pc' := 139) dX7_readsRidge_138 rfl rfl ?_
      refine r_s (pc' := 140) dX7_readsRidge_139 rfl rfl ?_
      refine r_s (pc' := 141) dX7_readsRidge_140 rfl rfl ?_
      refine r_Vi2 (pc' := 144) dX7_readsRidge_141 rfl lX7_102 (hl_ rfl) rfl rfl rfl rfl (Nat.le_of_ble_eq_true rfl) (Nat.le_of_ble_eq_true rfl) (ct_X7_codeAt hT hc) (fun r141 h141 e141 => ?_)
      obtain ⟨rfl, rfl⟩ := e141
      refine r_c (pc' := 146) dX7_readsRidge_144 rfl kc_bipush_62 ?_
      refine r_ceq (pc' := 149) (tgt := 160) dX7_readsRidge_146 rfl (by decide) (fun c146 => ?_) (fun c146 => ?_)
      · refine r_s (pc' := 161) dX7_readsRidge_160 rfl rfl ?_
        refine r_s (pc' := 162) dX7_readsRidge_161 rfl rfl ?_
        refine r_s (pc' := 163) dX7_readsRidge_162 rfl rfl ?_
        refine r_Vi2 (pc' := 166) dX7_readsRidge_163 rfl lX7_123 (hl_ rfl) rfl rfl rfl rfl (Nat.le_of_ble_eq_true rfl) (Nat.le_of_ble_eq_true rfl) (ct_X7_readsNight hT hc hR hw) (fun r163 h163 e163 => ?_)
        rcases e163 with ⟨rfl, rfl, hq⟩ | ⟨w1, I1, rfl, rfl, hq, hp1, ht1, hr1, hw1, f1⟩ | ⟨w1, I1, rfl, rfl, hq, hp1, ht1, f1⟩
        · refine r_st_3_4 (pc' := 167) dX7_readsRidge_166 rfl rfl rfl ?_
          refine r_goto (tgt := 127) dX7_readsRidge_167 (by decide) ?_
          exact absurd hq (by rintro (h | h); omega; rw [c146] at h; exact absurd h (by decide))
        · refine r_st_3_4 (pc' := 167) dX7_readsRidge_166 rfl rfl rfl ?_
          refine r_goto (tgt := 127) dX7_readsRidge_167 (by decide) ?_
          unfold rN at ha
          rw [hq.2] at ha
          simp only [] at ha
          rw [if_pos hp1] at ha
          exact ih (pN (cde c m) w1 s).2 I1 (by have : zn (pN (cde c m) w1 s).2.2 = zn s.2 + 1 := pN_z hp1; omega) ha ht1 hr1 hw1 (by rw [pN_i]; exact hi2) (by rw [pN_g]; exact hg0) (h2.tr f1)
        · refine r_st_3_4 (pc' := 167) dX7_readsRidge_166 rfl rfl rfl ?_
          refine r_goto (tgt := 127) dX7_readsRidge_167 (by decide) ?_
          unfold rN at ha
          rw [hq.2] at ha
          simp only [] at ha
          rw [if_neg (fun h => by rw [hp1] at h; cases h)] at ha
          have hx := hex0 I1 (by rw [← ha]; exact pr2_f (fun q => by rw [hp1] at q; cases q.1)) (by rw [← ha]; exact ht1) (h2.tr f1)
          refine r_s (pc' := 128) dX7_readsRidge_127 rfl rfl ?_
          refine r_ifeq_t (tgt := 170) dX7_readsRidge_128 (by decide) (by decide) ?_
          exact hx
      · refine r_s (pc' := 150) dX7_readsRidge_149 rfl rfl ?_
        refine r_s (pc' := 151) dX7_readsRidge_150 rfl rfl ?_
        refine r_s (pc' := 152) dX7_readsRidge_151 rfl rfl ?_
        refine r_Vi2 (pc' := 155) dX7_readsRidge_152 rfl lX7_102 (hl_ rfl) rfl rfl rfl rfl (Nat.le_of_ble_eq_true rfl) (Nat.le_of_ble_eq_true rfl) (ct_X7_codeAt hT hc) (fun r152 h152 e152 => ?_)
        obtain ⟨rfl, rfl⟩ := e152
        refine r_c (pc' := 157) dX7_readsRidge_155 rfl kc_bipush_60 ?_
        refine r_cne (pc' := 160) (tgt := 170) dX7_readsRidge_157 rfl (by decide) (fun c157 => ?_) (fun c157 => ?_)
        · have h44 : wnd ((cde c m) s.1) = none := by unfold wnd; rw [if_neg c146, if_neg c157]
          rw [rN_s h44] at ha
          exact hex1 I ⟨by rw [← ha], by rw [← ha]; exact Nat.pos_of_ne_zero (z1 c135)⟩ (by rw [← ha]; exact hT) (by rw [← ha]; exact hR) (by rw [← ha]; exact hw) (by rw [← ha]; exact hi2) (by rw [← ha]; exact hg0) h2
        · refine r_s (pc' := 161) dX7_readsRidge_160 rfl rfl ?_
          refine r_s (pc' := 162) dX7_readsRidge_161 rfl rfl ?_
          refine r_s (pc' := 163) dX7_readsRidge_162 rfl rfl ?_
          refine r_Vi2 (pc' := 166) dX7_readsRidge_163 rfl lX7_123 (hl_ rfl) rfl rfl rfl rfl (Nat.le_of_ble_eq_true rfl) (Nat.le_of_ble_eq_true rfl) (ct_X7_readsNight hT hc hR hw) (fun r163 h163 e163 => ?_)
          rcases e163 with ⟨rfl, rfl, hq⟩ | ⟨w1, I1, rfl, rfl, hq, hp1, ht1, hr1, hw1, f1⟩ | ⟨w1, I1, rfl, rfl, hq, hp1, ht1, f1⟩
          · refine r_st_3_4 (pc' := 167) dX7_readsRidge_166 rfl rfl rfl ?_
            refine r_goto (tgt := 127) dX7_readsRidge_167 (by decide) ?_
            exact absurd hq (by rintro (h | h); omega; rw [c157] at h; exact absurd h (by decide))
          · refine r_st_3_4 (pc' := 167) dX7_readsRidge_166 rfl rfl rfl ?_
            refine r_goto (tgt := 127) dX7_readsRidge_167 (by decide) ?_
            unfold rN at ha
            rw [hq.2] at ha
            simp only [] at ha
            rw [if_pos hp1] at ha
            exact ih (pN (cde c m) w1 s).2 I1 (by have : zn (pN (cde c m) w1 s).2.2 = zn s.2 + 1 := pN_z hp1; omega) ha ht1 hr1 hw1 (by rw [pN_i]; exact hi2) (by rw [pN_g]; exact hg0) (h2.tr f1)
          · refine r_st_3_4 (pc' := 167) dX7_readsRidge_166 rfl rfl rfl ?_
            refine r_goto (tgt := 127) dX7_readsRidge_167 (by decide) ?_
            unfold rN at ha
            rw [hq.2] at ha
            simp only [] at ha
            rw [if_neg (fun h => by rw [hp1] at h; cases h)] at ha
            have hx := hex0 I1 (by rw [← ha]; exact pr2_f (fun q => by rw [hp1] at q; cases q.1)) (by rw [← ha]; exact ht1) (h2.tr f1)
            refine r_s (pc' := 128) dX7_readsRidge_127 rfl rfl ?_
            refine r_ifeq_t (tgt := 170) dX7_readsRidge_128 (by decide) (by decide) ?_
            exact hx

set_option maxHeartbeats 4000000 in
set_option maxRecDepth 100000 in
theorem lp3_X7_rr {d : Nat} {Q : sm_Q} {x : hX} {k f m : Nat} {c : Nat → Int32} {I0 : Nat → Nat → Int32} (hc0 : isCm I0 k f m c) {A : Bool × zpS} (hQ1 : ∀ I, pr3 m A = (true, A.2) → 0 < zg A.2.2 → isTm I k f m A.2.1 → isRm I A.2.2 → wfP A.2.2 → 2 ≤ zi A.2.2 → 0 < zn A.2.2 → frP I0 I → Q (some (.int 1)) (hp x I)) (hQ0 : ∀ I, pr3 m A = (false, A.2) → isTm I k f m A.2.1 → frP I0 I → Q (some (.int 0)) (hp x I)) : ∀ (n : Nat) (s : zpS) (I : Nat → Nat → Int32), zg s.2 + n = 8 → rG (cde c m) n s = A → isTm I k f m s.1 → isRm I s.2 → wfP s.2 → 2 ≤ zi s.2 → 0 < zn s.2 → frP I0 I → sm_wp (sm_c (d + 3)) 0 0 MX7_readsRidge Q 170 [.ref 80, .int (nI (60 * k + f)), .int (nI m), .int 1] [] (hp x I) 0 0 := by
  intro n
  induction n with
  | zero =>
    intro s I hn ha hT hR hw hi2 hn1 h2
    have ham := hT.2.1
    have hfm := hT.2.2.1
    have hk4 := hT.2.2.2
    have hb := hw.1
    have hbn := hw.2.1
    have hbg := hw.2.2.1
    have hc : isCm I k f m c := hc0.fr h2
    refine r_s (pc' := 171) dX7_readsRidge_170 rfl rfl ?_
    refine r_ifeq_f (pc' := 174) (tgt := 199) dX7_readsRidge_171 rfl (by decide) (by decide) ?_
    refine r_s (pc' := 175) dX7_readsRidge_174 rfl rfl ?_
    refine h_gi (pc' := 178) dX7_readsRidge_175 rfl fX7_116 (hl_ rfl) rfl ?_
    refine r_top (hR.2.2.1) ?_
    refine r_ifeq (pc' := 181) (tgt := 189) dX7_readsRidge_178 rfl (by decide) (fun c178 => ?_) (fun c178 => ?_)
    · refine r_s (pc' := 190) dX7_readsRidge_189 rfl rfl ?_
      refine r_s (pc' := 191) dX7_readsRidge_190 rfl rfl ?_
      refine r_s (pc' := 192) dX7_readsRidge_191 rfl rfl ?_
      refine r_Vi2 (pc' := 195) dX7_readsRidge_192 rfl lX7_126 (hl_ rfl) rfl rfl rfl rfl (Nat.le_of_ble_eq_true rfl) (Nat.le_of_ble_eq_true rfl) (ct_X7_readsGuest hT hc hR hw hi2) (fun r192 h192 e192 => ?_)
      rcases e192 with ⟨rfl, rfl, hq⟩ | ⟨I1, rfl, rfl, hq, hp1, ht1, hr1, hw1, f1⟩ | ⟨I1, rfl, rfl, hq, hp1, ht1, f1⟩
      · refine r_st_3_4 (pc' := 196) dX7_readsRidge_195 rfl rfl rfl ?_
        refine r_goto (tgt := 170) dX7_readsRidge_196 (by decide) ?_
        have hs : rG (cde c m) 0 s = (true, s) := rfl
        rw [hs] at ha
        exact lp9_X7_rr (hQ0 I (by rw [← ha]; exact pr3_f (fun q => absurd c178 (nI_ne0 (show 0 < zg s.2 from q.1.2) (by omega)))) (by rw [← ha]; exact hT) h2)
      · refine r_st_3_4 (pc' := 196) dX7_readsRidge_195 rfl rfl rfl ?_
        refine r_goto (tgt := 170) dX7_readsRidge_196 (by decide) ?_
        exact absurd hq.1 (by omega)
      · refine r_st_3_4 (pc' := 196) dX7_readsRidge_195 rfl rfl rfl ?_
        refine r_goto (tgt := 170) dX7_readsRidge_196 (by decide) ?_
        exact absurd hq.1 (by omega)
    · refine r_s (pc' := 182) dX7_readsRidge_181 rfl rfl ?_
      refine h_gi (pc' := 185) dX7_readsRidge_182 rfl fX7_99 (hl_ rfl) rfl ?_
      refine r_top (hT.1) ?_
      refine r_s (pc' := 186) dX7_readsRidge_185 rfl rfl ?_
      refine r_cge (pc' := 189) (tgt := 199) dX7_readsRidge_186 rfl (by decide) (fun c186 => ?_) (fun c186 => ?_)
      · refine r_s (pc' := 200) dX7_readsRidge_199 rfl rfl ?_
        refine r_reti dX7_readsRidge_200 rfl (rfl) (Nat.le_of_ble_eq_true rfl) (Nat.le_of_ble_eq_true rfl) ?_
        have hm : m ≤ s.1 := (nI_leI (by omega) (by omega)).mp c186
        have hs : rG (cde c m) 0 s = (true, s) := rG_s (by rw [cde_out hm]; decide) _
        rw [hs] at ha
        have hg1 : 0 < zg s.2 := Nat.pos_of_ne_zero (z1 c178)
        exact hQ1 I (by rw [← ha]; unfold pr3; rw [if_pos ⟨⟨rfl, hg1⟩, (show s.1 = m by omega)⟩]) (by rw [← ha]; exact hg1) (by rw [← ha]; exact hT) (by rw [← ha]; exact hR) (by rw [← ha]; exact hw) (by rw [← ha]; exact hi2) (by rw [← ha]; exact hn1) h2
      · refine r_s (pc' := 190) dX7_readsRidge_189 rfl rfl ?_
        refine r_s (pc' := 191) dX7_readsRidge_190 rfl rfl ?_
        refine r_s (pc' := 192) dX7_readsRidge_191 rfl rfl ?_
        refine r_Vi2 (pc' := 195) dX7_readsRidge_192 rfl lX7_126 (hl_ rfl) rfl rfl rfl rfl (Nat.le_of_ble_eq_true rfl) (Nat.le_of_ble_eq_true rfl) (ct_X7_readsGuest hT hc hR hw hi2) (fun r192 h192 e192 => ?_)
        rcases e192 with ⟨rfl, rfl, hq⟩ | ⟨I1, rfl, rfl, hq, hp1, ht1, hr1, hw1, f1⟩ | ⟨I1, rfl, rfl, hq, hp1, ht1, f1⟩
        · refine r_st_3_4 (pc' := 196) dX7_readsRidge_195 rfl rfl rfl ?_
          refine r_goto (tgt := 170) dX7_readsRidge_196 (by decide) ?_
          have hs : rG (cde c m) 0 s = (true, s) := rfl
          rw [hs] at ha
          exact lp9_X7_rr (hQ0 I (by rw [← ha]; exact pr3_f (fun q => c186 (by rw [show s.1 = m from q.2]; exact Int32.le_refl _))) (by rw [← ha]; exact hT) h2)
        · refine r_st_3_4 (pc' := 196) dX7_readsRidge_195 rfl rfl rfl ?_
          refine r_goto (tgt := 170) dX7_readsRidge_196 (by decide) ?_
          exact absurd hq.1 (by omega)
        · refine r_st_3_4 (pc' := 196) dX7_readsRidge_195 rfl rfl rfl ?_
          refine r_goto (tgt := 170) dX7_readsRidge_196 (by decide) ?_
          exact absurd hq.1 (by omega)
  | succ n ih =>
    intro s I hn ha hT hR hw hi2 hn1 h2
    have ham := hT.2.1
    have hfm := hT.2.2.1
    have hk4 := hT.2.2.2
    have hb := hw.1
    have hbn := hw.2.1
    have hbg := hw.2.2.1
    have hc : isCm I k f m c := hc0.fr h2
    refine r_s (pc' := 171) dX7_readsRidge_170 rfl rfl ?_
    refine r_ifeq_f (pc' := 174) (tgt := 199) dX7_readsRidge_171 rfl (by decide) (by decide) ?_
    refine r_s (pc' := 175) dX7_readsRidge_174 rfl rfl ?_
    refine h_gi (pc' := 178) dX7_readsRidge_175 rfl fX7_116 (hl_ rfl) rfl ?_
    refine r_top (hR.2.2.1) ?_
    refine r_ifeq (pc' := 181) (tgt := 189) dX7_readsRidge_178 rfl (by decide) (fun c178 => ?_) (fun c178 => ?_)
    · refine r_s (pc' := 190) dX7_readsRidge_189 rfl rfl ?_
      refine r_s (pc' := 191) dX7_readsRidge_190 rfl rfl ?_
      refine r_s (pc' := 192) dX7_readsRidge_191 rfl rfl ?_
      refine r_Vi2 (pc' := 195) dX7_readsRidge_192 rfl lX7_126 (hl_ rfl) rfl rfl rfl rfl (Nat.le_of_ble_eq_true rfl) (Nat.le_of_ble_eq_true rfl) (ct_X7_readsGuest hT hc hR hw hi2) (fun r192 h192 e192 => ?_)
      rcases e192 with ⟨rfl, rfl, hq⟩ | ⟨I1, rfl, rfl, hq, hp1, ht1, hr1, hw1, f1⟩ | ⟨I1, rfl, rfl, hq, hp1, ht1, f1⟩
      · refine r_st_3_4 (pc' := 196) dX7_readsRidge_195 rfl rfl rfl ?_
        refine r_goto (tgt := 170) dX7_readsRidge_196 (by decide) ?_
        have hs : rG (cde c m) (n + 1) s = (true, s) := rG_s (by rcases hq with h | h; omega; exact h) _
        rw [hs] at ha
        exact lp9_X7_rr (hQ0 I (by rw [← ha]; exact pr3_f (fun q => absurd c178 (nI_ne0 (show 0 < zg s.2 from q.1.2) (by omega)))) (by rw [← ha]; exact hT) h2)
      · refine r_st_3_4 (pc' := 196) dX7_readsRidge_195 rfl rfl rfl ?_
        refine r_goto (tgt := 170) dX7_readsRidge_196 (by decide) ?_
        rw [rG, if_pos hq.2, if_pos hp1] at ha
        exact ih (pG (cde c m) s).2 I1 (by have : zg (pG (cde c m) s).2.2 = zg s.2 + 1 := pG_z hp1; omega) ha ht1 hr1 hw1 (by rw [pG_i]; exact hi2) (by rw [pG_n]; exact hn1) (h2.tr f1)
      · refine r_st_3_4 (pc' := 196) dX7_readsRidge_195 rfl rfl rfl ?_
        refine r_goto (tgt := 170) dX7_readsRidge_196 (by decide) ?_
        rw [rG, if_pos hq.2, if_neg (fun h => by rw [hp1] at h; cases h)] at ha
        exact lp9_X7_rr (hQ0 I1 (by rw [← ha]; exact pr3_f (fun q => by rw [hp1] at q; cases q.1.1)) (by rw [← ha]; exact ht1) (h2.tr f1))
    · refine r_s (pc' := 182) dX7_readsRidge_181 rfl rfl ?_
      refine h_gi (pc' := 185) dX7_readsRidge_182 rfl fX7_99 (hl_ rfl) rfl ?_
      refine r_top (hT.1) ?_
      refine r_s (pc' := 186) dX7_readsRidge_185 rfl rfl ?_
      refine r_cge (pc' := 189) (tgt := 199) dX7_readsRidge_186 rfl (by decide) (fun c186 => ?_) (fun c186 => ?_)
      · refine r_s (pc' := 200) dX7_readsRidge_199 rfl rfl ?_
        refine r_reti dX7_readsRidge_200 rfl (rfl) (Nat.le_of_ble_eq_true rfl) (Nat.le_of_ble_eq_true rfl) ?_
        have hm : m ≤ s.1 := (nI_leI (by omega) (by omega)).mp c186
        have hs : rG (cde c m) (n + 1) s = (true, s) := rG_s (by rw [cde_out hm]; decide) _
        rw [hs] at ha
        have hg1 : 0 < zg s.2 := Nat.pos_of_ne_zero (z1 c178)
        exact hQ1 I (by rw [← ha]; unfold pr3; rw [if_pos ⟨⟨rfl, hg1⟩, (show s.1 = m by omega)⟩]) (by rw [← ha]; exact hg1) (by rw [← ha]; exact hT) (by rw [← ha]; exact hR) (by rw [← ha]; exact hw) (by rw [← ha]; exact hi2) (by rw [← ha]; exact hn1) h2
      · refine r_s (pc' := 190) dX7_readsRidge_189 rfl rfl ?_
        refine r_s (pc' := 191) dX7_readsRidge_190 rfl rfl ?_
        refine r_s (pc' := 192) dX7_readsRidge_191 rfl rfl ?_
        refine r_Vi2 (pc' := 195) dX7_readsRidge_192 rfl lX7_126 (hl_ rfl) rfl rfl rfl rfl (Nat.le_of_ble_eq_true rfl) (Nat.le_of_ble_eq_true rfl) (ct_X7_readsGuest hT hc hR hw hi2) (fun r192 h192 e192 => ?_)
        rcases e192 with ⟨rfl, rfl, hq⟩ | ⟨I1, rfl, rfl, hq, hp1, ht1, hr1, hw1, f1⟩ | ⟨I1, rfl, rfl, hq, hp1, ht1, f1⟩
        · refine r_st_3_4 (pc' := 196) dX7_readsRidge_195 rfl rfl rfl ?_
          refine r_goto (tgt := 170) dX7_readsRidge_196 (by decide) ?_
          have hs : rG (cde c m) (n + 1) s = (true, s) := rG_s (by rcases hq with h | h; omega; exact h) _
          rw [hs] at ha
          exact lp9_X7_rr (hQ0 I (by rw [← ha]; exact pr3_f (fun q => c186 (by rw [show s.1 = m from q.2]; exact Int32.le_refl _))) (by rw [← ha]; exact hT) h2)
        · refine r_st_3_4 (pc' := 196) dX7_readsRidge_195 rfl rfl rfl ?_
          refine r_goto (tgt := 170) dX7_readsRidge_196 (by decide) ?_
          rw [rG, if_pos hq.2, if_pos hp1] at ha
          exact ih (pG (cde c m) s).2 I1 (by have : zg (pG (cde c m) s).2.2 = zg s.2 + 1 := pG_z hp1; omega) ha ht1 hr1 hw1 (by rw [pG_i]; exact hi2) (by rw [pG_n]; exact hn1) (h2.tr f1)
        · refine r_st_3_4 (pc' := 196) dX7_readsRidge_195 rfl rfl rfl ?_
          refine r_goto (tgt := 170) dX7_readsRidge_196 (by decide) ?_
          rw [rG, if_pos hq.2, if_neg (fun h => by rw [hp1] at h; cases h)] at ha
          exact lp9_X7_rr (hQ0 I1 (by rw [← ha]; exact pr3_f (fun q => by rw [hp1] at q; cases q.1.1)) (by rw [← ha]; exact ht1) (h2.tr f1))

theorem isRm_0 {I : Nat → Nat → Int32} : isRm (sm_up (sm_up (sm_up (sm_up I 80 12 0) 80 13 0) 80 14 0) 80 15 0) zr0 :=
  ⟨by rw [up_n (by decide), up_n (by decide), up_s]; rfl, by rw [up_n (by decide), up_s]; rfl, by rw [up_s]; rfl, fun k hk => absurd hk (Nat.not_lt_zero _), fun k hk => absurd hk (Nat.not_lt_zero _), fun k hk => absurd hk (Nat.not_lt_zero _), fun k hk => absurd hk (Nat.not_lt_zero _), fun k hk => absurd hk (Nat.not_lt_zero _), fun k hk => absurd hk (Nat.not_lt_zero _)⟩

set_option maxHeartbeats 4000000 in
set_option maxRecDepth 100000 in
theorem ct_X7_readsRidge {d : Nat} {x : hX} {I : Nat → Nat → Int32} {k f m : Nat} {c : Nat → Int32} (hk : k < 4) (hfm : f + m ≤ 60) (hc : isCm I k f m c) : ci (d + 4) MX7_readsRidge [.ref 80, .int (nI (60 * k + f)), .int (nI m)] (hp x I) (fun r h' => (∃ I', h' = hp x I' ∧ r = 1 ∧ (prs (cde c m) m).1 = true ∧ isRm I' (prs (cde c m) m).2.2 ∧ wfR (prs (cde c m) m).2.2 ∧ frP I I') ∨ (∃ I', h' = hp x I' ∧ r = 0 ∧ (prs (cde c m) m).1 = false ∧ I' 80 12 = nI (prs (cde c m) m).2.1 ∧ frP I I')) := by
  refine c_in (L := [.ref 80, .int (nI (60 * k + f)), .int (nI m), .null]) rfl rfl ?_
  refine r_s (pc' := 1) dX7_readsRidge_0 rfl rfl ?_
  refine r_c (pc' := 2) dX7_readsRidge_1 rfl kc_iconst_0 ?_
  refine h_pi (pc' := 5) dX7_readsRidge_2 rfl fX7_99 rfl (hl_ rfl) rfl ?_
  refine r_s (pc' := 6) dX7_readsRidge_5 rfl rfl ?_
  refine r_c (pc' := 7) dX7_readsRidge_6 rfl kc_iconst_0 ?_
  refine h_pi (pc' := 10) dX7_readsRidge_7 rfl fX7_106 rfl (hl_ rfl) rfl ?_
  refine r_s (pc' := 11) dX7_readsRidge_10 rfl rfl ?_
  refine r_c (pc' := 12) dX7_readsRidge_11 rfl kc_iconst_0 ?_
  refine h_pi (pc' := 15) dX7_readsRidge_12 rfl fX7_113 rfl (hl_ rfl) rfl ?_
  refine r_s (pc' := 16) dX7_readsRidge_15 rfl rfl ?_
  refine r_c (pc' := 17) dX7_readsRidge_16 rfl kc_iconst_0 ?_
  refine h_pi (pc' := 20) dX7_readsRidge_17 rfl fX7_116 rfl (hl_ rfl) rfl ?_
  have hT0 : isTm (sm_up (sm_up (sm_up (sm_up I 80 12 0) 80 13 0) 80 14 0) 80 15 0) k f m 0 := ⟨by rw [up_n (by decide), up_n (by decide), up_n (by decide), up_s]; rfl, Nat.zero_le _, hfm, hk⟩
  have hf0 : frP I (sm_up (sm_up (sm_up (sm_up I 80 12 0) 80 13 0) 80 14 0) 80 15 0) := (((frP_f (by decide) (by decide)).tr (frP_f (by decide) (by decide))).tr (frP_f (by decide) (by decide))).tr (frP_f (by decide) (by decide))
  refine r_s (pc' := 21) dX7_readsRidge_20 rfl rfl ?_
  refine r_s (pc' := 22) dX7_readsRidge_21 rfl rfl ?_
  refine r_s (pc' := 23) dX7_readsRidge_22 rfl rfl ?_
  refine r_Vi2 (pc' := 26) dX7_readsRidge_23 rfl lX7_102 (hl_ rfl) rfl rfl rfl rfl (Nat.le_of_ble_eq_true rfl) (Nat.le_of_ble_eq_true rfl) (ct_X7_codeAt hT0 (hc.fr hf0)) (fun r23 h23 e23 => ?_)
  obtain ⟨rfl, rfl⟩ := e23
  refine r_c (pc' := 28) dX7_readsRidge_26 rfl kc_bipush_105 ?_
  refine r_cne (pc' := 31) (tgt := 35) dX7_readsRidge_28 rfl (by decide) (fun c28 => ?_) (fun c28 => ?_)
  · refine r_c (pc' := 36) dX7_readsRidge_35 rfl kc_iconst_0 ?_
    refine r_st_3_4 (pc' := 37) dX7_readsRidge_36 rfl rfl rfl ?_
    refine r_s (pc' := 38) dX7_readsRidge_37 rfl rfl ?_
    refine r_s (pc' := 39) dX7_readsRidge_38 rfl rfl ?_
    refine h_gi (pc' := 42) dX7_readsRidge_39 rfl fX7_99 (hl_ rfl) rfl ?_
    refine r_top (hT0.1) ?_
    refine r_s (pc' := 43) dX7_readsRidge_42 rfl rfl ?_
    refine r_ifeq_t (tgt := 50) dX7_readsRidge_43 (by decide) (by decide) ?_
    refine r_c (pc' := 51) dX7_readsRidge_50 rfl kc_iconst_0 ?_
    refine r_s (pc' := 52) dX7_readsRidge_51 rfl rfl ?_
    refine r_top (Int32.add_zero _) ?_
    refine h_pi (pc' := 55) dX7_readsRidge_52 rfl fX7_99 rfl (hl_ rfl) rfl ?_
    rw [up_id hT0.1]
    refine r_s (pc' := 56) dX7_readsRidge_55 rfl rfl ?_
    refine r_ifeq_t (tgt := 88) dX7_readsRidge_56 (by decide) (by decide) ?_
    exact lp0_X7_rr hT0 ⟨_, rfl, Or.inr ⟨_, rfl, rfl, by rw [prs_a c28], by rw [prs_a c28]; exact hT0.1, hf0⟩⟩
  · refine r_c (pc' := 32) dX7_readsRidge_31 rfl kc_iconst_1 ?_
    refine r_goto (tgt := 36) dX7_readsRidge_32 (by decide) ?_
    refine r_st_3_4 (pc' := 37) dX7_readsRidge_36 rfl rfl rfl ?_
    refine r_s (pc' := 38) dX7_readsRidge_37 rfl rfl ?_
    refine r_s (pc' := 39) dX7_readsRidge_38 rfl rfl ?_
    refine h_gi (pc' := 42) dX7_readsRidge_39 rfl fX7_99 (hl_ rfl) rfl ?_
    refine r_top (hT0.1) ?_
    refine r_s (pc' := 43) dX7_readsRidge_42 rfl rfl ?_
    refine r_ifeq_f (pc' := 46) (tgt := 50) dX7_readsRidge_43 rfl (by decide) (by decide) ?_
    refine r_c (pc' := 47) dX7_readsRidge_46 rfl kc_iconst_1 ?_
    refine r_goto (tgt := 51) dX7_readsRidge_47 (by decide) ?_
    refine r_s (pc' := 52) dX7_readsRidge_51 rfl rfl ?_
    refine r_top (nI_1 0) ?_
    refine h_pi (pc' := 55) dX7_readsRidge_52 rfl fX7_99 rfl (hl_ rfl) rfl ?_
    have hlt0 : 0 < m := Nat.lt_of_not_le (fun h => by rw [cde_out h] at c28; exact absurd c28 (by decide))
    have hfa := hf0.tr (frP_f (I := (sm_up (sm_up (sm_up (sm_up I 80 12 0) 80 13 0) 80 14 0) 80 15 0)) (j := 12) (v := nI (0 + 1)) (by decide) (by decide))
    refine lp1_X7_rr (hc.fr hfa) (A := (rI (cde c m) 6 (1, zr0))) (fun I1 h1 t1 r1 w1 n1 g1 f1 => ?_) (fun I1 e1 t1 f1 => ?_) 6 (1, zr0) _ rfl rfl (hT0.at hlt0) (isRm_0.at) wfP_0 rfl rfl frP_0
    · have hf1 := hfa.tr f1
      refine r_s (pc' := 89) dX7_readsRidge_88 rfl rfl ?_
      refine r_ifeq_f (pc' := 92) (tgt := 107) dX7_readsRidge_89 rfl (by decide) (by decide) ?_
      refine r_s (pc' := 93) dX7_readsRidge_92 rfl rfl ?_
      refine r_s (pc' := 94) dX7_readsRidge_93 rfl rfl ?_
      refine r_s (pc' := 95) dX7_readsRidge_94 rfl rfl ?_
      refine r_Vi2 (pc' := 98) dX7_readsRidge_95 rfl lX7_102 (hl_ rfl) rfl rfl rfl rfl (Nat.le_of_ble_eq_true rfl) (Nat.le_of_ble_eq_true rfl) (ct_X7_codeAt t1 (hc.fr hf1)) (fun r95 h95 e95 => ?_)
      obtain ⟨rfl, rfl⟩ := e95
      refine r_c (pc' := 100) dX7_readsRidge_98 rfl kc_bipush_59 ?_
      refine r_cne (pc' := 103) (tgt := 107) dX7_readsRidge_100 rfl (by decide) (fun c100 => ?_) (fun c100 => ?_)
      · refine r_c (pc' := 108) dX7_readsRidge_107 rfl kc_iconst_0 ?_
        refine r_st_3_4 (pc' := 109) dX7_readsRidge_108 rfl rfl rfl ?_
        refine r_s (pc' := 110) dX7_readsRidge_109 rfl rfl ?_
        refine r_s (pc' := 111) dX7_readsRidge_110 rfl rfl ?_
        refine h_gi (pc' := 114) dX7_readsRidge_111 rfl fX7_99 (hl_ rfl) rfl ?_
        refine r_top (t1.1) ?_
        refine r_s (pc' := 115) dX7_readsRidge_114 rfl rfl ?_
        refine r_ifeq_t (tgt := 122) dX7_readsRidge_115 (by decide) (by decide) ?_
        refine r_c (pc' := 123) dX7_readsRidge_122 rfl kc_iconst_0 ?_
        refine r_s (pc' := 124) dX7_readsRidge_123 rfl rfl ?_
        refine r_top (Int32.add_zero _) ?_
        refine h_pi (pc' := 127) dX7_readsRidge_124 rfl fX7_99 rfl (hl_ rfl) rfl ?_
        rw [up_id t1.1]
        refine r_s (pc' := 128) dX7_readsRidge_127 rfl rfl ?_
        refine r_ifeq_t (tgt := 170) dX7_readsRidge_128 (by decide) (by decide) ?_
        exact lp9_X7_rr ⟨_, rfl, Or.inr ⟨_, rfl, rfl, by rw [prs_c c28 h1 c100], by rw [prs_c c28 h1 c100]; exact t1.1, hf1⟩⟩
      · refine r_c (pc' := 104) dX7_readsRidge_103 rfl kc_iconst_1 ?_
        refine r_goto (tgt := 108) dX7_readsRidge_104 (by decide) ?_
        refine r_st_3_4 (pc' := 109) dX7_readsRidge_108 rfl rfl rfl ?_
        refine r_s (pc' := 110) dX7_readsRidge_109 rfl rfl ?_
        refine r_s (pc' := 111) dX7_readsRidge_110 rfl rfl ?_
        refine h_gi (pc' := 114) dX7_readsRidge_111 rfl fX7_99 (hl_ rfl) rfl ?_
        refine r_top (t1.1) ?_
        refine r_s (pc' := 115) dX7_readsRidge_114 rfl rfl ?_
        refine r_ifeq_f (pc' := 118) (tgt := 122) dX7_readsRidge_115 rfl (by decide) (by decide) ?_
        refine r_c (pc' := 119) dX7_readsRidge_118 rfl kc_iconst_1 ?_
        refine r_goto (tgt := 123) dX7_readsRidge_119 (by decide) ?_
        refine r_s (pc' := 124) dX7_readsRidge_123 rfl rfl ?_
        refine r_top (nI_1 _) ?_
        refine h_pi (pc' := 127) dX7_readsRidge_124 rfl fX7_99 rfl (hl_ rfl) rfl ?_
        have hlt1 : (rI (cde c m) 6 (1, zr0)).2.1 < m := Nat.lt_of_not_le (fun h => by rw [cde_out h] at c100; exact absurd c100 (by decide))
        have hf2 := hf1.tr (frP_f (I := I1) (j := 12) (v := nI ((rI (cde c m) 6 (1, zr0)).2.1 + 1)) (by decide) (by decide))
        refine lp2_X7_rr (hc.fr hf2) (A := (rN (cde c m) 8 ((rI (cde c m) 6 (1, zr0)).2.1 + 1, (rI (cde c m) 6 (1, zr0)).2.2))) (fun I2 h2 t2 r2 w2 i2 g2 f2 => ?_) (fun I2 e2 t2 f2 => ?_) 8 ((rI (cde c m) 6 (1, zr0)).2.1 + 1, (rI (cde c m) 6 (1, zr0)).2.2) _ (by show zn (rI (cde c m) 6 (1, zr0)).2.2 + 8 = 8; omega) rfl (t1.at hlt1) (r1.at) w1 h1.2 g1 frP_0
        · refine lp3_X7_rr ((hc.fr hf2).fr f2) (A := (rG (cde c m) 8 (rN (cde c m) 8 ((rI (cde c m) 6 (1, zr0)).2.1 + 1, (rI (cde c m) 6 (1, zr0)).2.2)).2)) (fun I3 e3 z3 t3 r3 w3 i3 n3 f3 => ?_) (fun I3 e3 t3 f3 => ?_) 8 (rN (cde c m) 8 ((rI (cde c m) 6 (1, zr0)).2.1 + 1, (rI (cde c m) 6 (1, zr0)).2.2)).2 I2 (by omega) rfl t2 r2 w2 i2 h2.2 frP_0
          · have e0 : (prs (cde c m) m) = (true, (rG (cde c m) 8 (rN (cde c m) 8 ((rI (cde c m) 6 (1, zr0)).2.1 + 1, (rI (cde c m) 6 (1, zr0)).2.2)).2).2) := by rw [prs_d c28 h1 c100, pr2, if_pos h2, e3]
            exact ⟨_, rfl, Or.inl ⟨I3, rfl, rfl, by rw [e0], by rw [e0]; exact r3, by rw [e0]; exact w3.R i3 n3 z3, (hf2.tr f2).tr f3⟩⟩
          · have e0 : (prs (cde c m) m) = (false, (rG (cde c m) 8 (rN (cde c m) 8 ((rI (cde c m) 6 (1, zr0)).2.1 + 1, (rI (cde c m) 6 (1, zr0)).2.2)).2).2) := by rw [prs_d c28 h1 c100, pr2, if_pos h2, e3]
            exact ⟨_, rfl, Or.inr ⟨I3, rfl, rfl, by rw [e0], by rw [e0]; exact t3.1, (hf2.tr f2).tr f3⟩⟩
        · have e0 : (prs (cde c m) m) = (false, (rN (cde c m) 8 ((rI (cde c m) 6 (1, zr0)).2.1 + 1, (rI (cde c m) 6 (1, zr0)).2.2)).2) := by rw [prs_d c28 h1 c100, e2]
          exact lp9_X7_rr ⟨_, rfl, Or.inr ⟨I2, rfl, rfl, by rw [e0], by rw [e0]; exact t2.1, hf2.tr f2⟩⟩
    · have e0 : (prs (cde c m) m) = (false, (rI (cde c m) 6 (1, zr0)).2) := by unfold prs; rw [if_pos c28, e1]
      exact lp0_X7_rr t1 ⟨_, rfl, Or.inr ⟨I1, rfl, rfl, by rw [e0], by rw [e0]; exact t1.1, hfa.tr f1⟩⟩
