set_option maxHeartbeats 4000000 in
set_option maxRecDepth 100000 in
theorem lp1_X7_ridge {call : sm_K} {Q : sm_Q} {x : hX} {I0 : Nat → Nat → Int32} {k ln i0 n0 r0 : Int32} (hQ : ∀ I, (∀ j, j < 8 → I 83 j = I0 89 j ∧ I 84 j = I0 90 j ∧ I 85 j = I0 91 j ∧ I 86 j = I0 92 j) → (∀ t, t ≠ 83 → t ≠ 84 → t ≠ 85 → t ≠ 86 → I t = I0 t) → sm_wp call 0 0 MX7_ridge Q 175 [.ref 80, .int k, .int ln, .int i0, .int n0, .int r0, .int (nI 8)] [] (hp x I) 0 0) : ∀ (m i : Nat) (I : Nat → Nat → Int32), i + m = 8 → (∀ j, j < i → I 83 j = I0 89 j ∧ I 84 j = I0 90 j ∧ I 85 j = I0 91 j ∧ I 86 j = I0 92 j) → (∀ t, t ≠ 83 → t ≠ 84 → t ≠ 85 → t ≠ 86 → I t = I0 t) → sm_wp call 0 0 MX7_ridge Q 106 [.ref 80, .int k, .int ln, .int i0, .int n0, .int r0, .int (nI i)] [] (hp x I) 0 0 := by
  intro m
  induction m with
  | zero =>
    intro i I hi h1 h2
    have hi : i = 8 := by omega
    refine r_s (pc' := 108) dX7_ridge_106 rfl rfl ?_
    refine r_c (pc' := 110) dX7_ridge_108 rfl kc_bipush_8 ?_
    refine r_cge_t (tgt := 175) dX7_ridge_110 (by decide) (by rw [hi]; exact Int32.le_refl _) ?_
    rw [hi] at h1 ⊢; exact hQ I h1 h2
  | succ m ih =>
    intro i I hi h1 h2
    refine r_s (pc' := 108) dX7_ridge_106 rfl rfl ?_
    refine r_c (pc' := 110) dX7_ridge_108 rfl kc_bipush_8 ?_
    refine r_cge_f (pc' := 113) (tgt := 175) dX7_ridge_110 rfl (by decide) (nI_ge (b := 8) (by omega) (by decide)) ?_
    refine r_s (pc' := 114) dX7_ridge_113 rfl rfl ?_
    refine r_gr (pc' := 117) dX7_ridge_114 rfl fX7_16 (hl_ rfl) rfl rfl ?_
    refine r_s (pc' := 119) dX7_ridge_117 rfl rfl ?_
    refine r_s (pc' := 120) dX7_ridge_119 rfl rfl ?_
    refine r_gr (pc' := 123) dX7_ridge_120 rfl fX7_34 (hl_ rfl) rfl rfl ?_
    refine r_s (pc' := 125) dX7_ridge_123 rfl rfl ?_
    refine h_ald (pc' := 126) dX7_ridge_125 rfl (hl_ rfl) rfl (vp_in_nI (by omega) (by decide)) (nI_clamp (by omega)) ?_
    refine r_top ((show _ = I0 89 i by exact congrFun (h2 89 (by decide) (by decide) (by decide) (by decide)) i)) ?_
    refine h_ast (pc' := 127) dX7_ridge_126 rfl (hl_ rfl) rfl (vp_in_nI (by omega) (by decide)) (nI_clamp (by omega)) ?_
    refine r_s (pc' := 128) dX7_ridge_127 rfl rfl ?_
    refine r_gr (pc' := 131) dX7_ridge_128 rfl fX7_19 (hl_ rfl) rfl rfl ?_
    refine r_s (pc' := 133) dX7_ridge_131 rfl rfl ?_
    refine r_s (pc' := 134) dX7_ridge_133 rfl rfl ?_
    refine r_gr (pc' := 137) dX7_ridge_134 rfl fX7_37 (hl_ rfl) rfl rfl ?_
    refine r_s (pc' := 139) dX7_ridge_137 rfl rfl ?_
    refine h_ald (pc' := 140) dX7_ridge_139 rfl (hl_ rfl) rfl (vp_in_nI (by omega) (by decide)) (nI_clamp (by omega)) ?_
    refine r_top ((show _ = I0 90 i by rw [up_o (by decide)]; exact congrFun (h2 90 (by decide) (by decide) (by decide) (by decide)) i)) ?_
    refine h_ast (pc' := 141) dX7_ridge_140 rfl (hl_ rfl) rfl (vp_in_nI (by omega) (by decide)) (nI_clamp (by omega)) ?_
    refine r_s (pc' := 142) dX7_ridge_141 rfl rfl ?_
    refine r_gr (pc' := 145) dX7_ridge_142 rfl fX7_22 (hl_ rfl) rfl rfl ?_
    refine r_s (pc' := 147) dX7_ridge_145 rfl rfl ?_
    refine r_s (pc' := 148) dX7_ridge_147 rfl rfl ?_
    refine r_gr (pc' := 151) dX7_ridge_148 rfl fX7_40 (hl_ rfl) rfl rfl ?_
    refine r_s (pc' := 153) dX7_ridge_151 rfl rfl ?_
    refine h_ald (pc' := 154) dX7_ridge_153 rfl (hl_ rfl) rfl (vp_in_nI (by omega) (by decide)) (nI_clamp (by omega)) ?_
    refine r_top ((show _ = I0 91 i by rw [up_o (by decide), up_o (by decide)]; exact congrFun (h2 91 (by decide) (by decide) (by decide) (by decide)) i)) ?_
    refine h_ast (pc' := 155) dX7_ridge_154 rfl (hl_ rfl) rfl (vp_in_nI (by omega) (by decide)) (nI_clamp (by omega)) ?_
    refine r_s (pc' := 156) dX7_ridge_155 rfl rfl ?_
    refine r_gr (pc' := 159) dX7_ridge_156 rfl fX7_25 (hl_ rfl) rfl rfl ?_
    refine r_s (pc' := 161) dX7_ridge_159 rfl rfl ?_
    refine r_s (pc' := 162) dX7_ridge_161 rfl rfl ?_
    refine r_gr (pc' := 165) dX7_ridge_162 rfl fX7_43 (hl_ rfl) rfl rfl ?_
    refine r_s (pc' := 167) dX7_ridge_165 rfl rfl ?_
    refine h_ald (pc' := 168) dX7_ridge_167 rfl (hl_ rfl) rfl (vp_in_nI (by omega) (by decide)) (nI_clamp (by omega)) ?_
    refine r_top ((show _ = I0 92 i by rw [up_o (by decide), up_o (by decide), up_o (by decide)]; exact congrFun (h2 92 (by decide) (by decide) (by decide) (by decide)) i)) ?_
    refine h_ast (pc' := 169) dX7_ridge_168 rfl (hl_ rfl) rfl (vp_in_nI (by omega) (by decide)) (nI_clamp (by omega)) ?_
    refine r_in_6_7 (pc' := 172) dX7_ridge_169 rfl rfl (i1 _) ?_
    refine r_goto (tgt := 106) dX7_ridge_172 (by decide) ?_
    refine ih (i + 1) _ (by omega) (fun j hj => ?_) (fun t t0 t1 t2 t3 => ?_)
    · by_cases e : j = i
      · subst e
        refine ⟨?_, ?_, ?_, ?_⟩
        · rw [up_o (by decide), up_o (by decide), up_o (by decide), up_s]
        · rw [up_o (by decide), up_o (by decide), up_s]
        · rw [up_o (by decide), up_s]
        · rw [up_s]
      · obtain ⟨p0, p1, p2, p3⟩ := h1 j (by omega)
        refine ⟨?_, ?_, ?_, ?_⟩
        · rw [up_o (by decide), up_o (by decide), up_o (by decide), up_n e]; exact p0
        · rw [up_o (by decide), up_o (by decide), up_n e, up_o (by decide)]; exact p1
        · rw [up_o (by decide), up_n e, up_o (by decide), up_o (by decide)]; exact p2
        · rw [up_n e, up_o (by decide), up_o (by decide), up_o (by decide)]; exact p3
    · rw [up_o t3, up_o t2, up_o t1, up_o t0]; exact h2 t t0 t1 t2 t3

set_option maxHeartbeats 4000000 in
set_option maxRecDepth 100000 in
theorem lp2_X7_ridge {call : sm_K} {Q : sm_Q} {x : hX} {I0 : Nat → Nat → Int32} {z : Nat} {k ln i0 n0 r0 : Int32} (hz : I0 80 1 = nI z) (hz6 : z ≤ 6) (hQ : ∀ I, (∀ j, j < z → I 81 j = I0 87 j ∧ I 82 j = I0 88 j) → (∀ t, t ≠ 81 → t ≠ 82 → I t = I0 t) → sm_wp call 0 0 MX7_ridge Q 221 [.ref 80, .int k, .int ln, .int i0, .int n0, .int r0, .int (nI z)] [] (hp x I) 0 0) : ∀ (m i : Nat) (I : Nat → Nat → Int32), i + m = z → (∀ j, j < i → I 81 j = I0 87 j ∧ I 82 j = I0 88 j) → (∀ t, t ≠ 81 → t ≠ 82 → I t = I0 t) → sm_wp call 0 0 MX7_ridge Q 178 [.ref 80, .int k, .int ln, .int i0, .int n0, .int r0, .int (nI i)] [] (hp x I) 0 0 := by
  intro m
  induction m with
  | zero =>
    intro i I hi h1 h2
    have hi : i = z := by omega
    refine r_s (pc' := 180) dX7_ridge_178 rfl rfl ?_
    refine r_s (pc' := 181) dX7_ridge_180 rfl rfl ?_
    refine h_gi (pc' := 184) dX7_ridge_181 rfl fX7_86 (hl_ rfl) rfl ?_
    refine r_top ((show _ = nI z by rw [h2 80 (by decide) (by decide)]; exact hz)) ?_
    refine r_cge_t (tgt := 221) dX7_ridge_184 (by decide) (by rw [hi]; exact Int32.le_refl _) ?_
    rw [hi] at h1 ⊢; exact hQ I h1 h2
  | succ m ih =>
    intro i I hi h1 h2
    refine r_s (pc' := 180) dX7_ridge_178 rfl rfl ?_
    refine r_s (pc' := 181) dX7_ridge_180 rfl rfl ?_
    refine h_gi (pc' := 184) dX7_ridge_181 rfl fX7_86 (hl_ rfl) rfl ?_
    refine r_top ((show _ = nI z by rw [h2 80 (by decide) (by decide)]; exact hz)) ?_
    refine r_cge_f (pc' := 187) (tgt := 221) dX7_ridge_184 rfl (by decide) (nI_ge (by omega) (by omega)) ?_
    refine r_s (pc' := 188) dX7_ridge_187 rfl rfl ?_
    refine r_gr (pc' := 191) dX7_ridge_188 rfl fX7_7 (hl_ rfl) rfl rfl ?_
    refine r_s (pc' := 193) dX7_ridge_191 rfl rfl ?_
    refine r_s (pc' := 194) dX7_ridge_193 rfl rfl ?_
    refine r_gr (pc' := 197) dX7_ridge_194 rfl fX7_28 (hl_ rfl) rfl rfl ?_
    refine r_s (pc' := 199) dX7_ridge_197 rfl rfl ?_
    refine h_ald (pc' := 200) dX7_ridge_199 rfl (hl_ rfl) rfl (vp_in_nI (by omega) (by decide)) (nI_clamp (by omega)) ?_
    refine r_top ((show _ = I0 87 i by exact congrFun (h2 87 (by decide) (by decide)) i)) ?_
    refine h_ast (pc' := 201) dX7_ridge_200 rfl (hl_ rfl) rfl (vp_in_nI (by omega) (by decide)) (nI_clamp (by omega)) ?_
    refine r_s (pc' := 202) dX7_ridge_201 rfl rfl ?_
    refine r_gr (pc' := 205) dX7_ridge_202 rfl fX7_13 (hl_ rfl) rfl rfl ?_
    refine r_s (pc' := 207) dX7_ridge_205 rfl rfl ?_
    refine r_s (pc' := 208) dX7_ridge_207 rfl rfl ?_
    refine r_gr (pc' := 211) dX7_ridge_208 rfl fX7_31 (hl_ rfl) rfl rfl ?_
    refine r_s (pc' := 213) dX7_ridge_211 rfl rfl ?_
    refine h_ald (pc' := 214) dX7_ridge_213 rfl (hl_ rfl) rfl (vp_in_nI (by omega) (by decide)) (nI_clamp (by omega)) ?_
    refine r_top ((show _ = I0 88 i by rw [up_o (by decide)]; exact congrFun (h2 88 (by decide) (by decide)) i)) ?_
    refine h_ast (pc' := 215) dX7_ridge_214 rfl (hl_ rfl) rfl (vp_in_nI (by omega) (by decide)) (nI_clamp (by omega)) ?_
    refine r_in_6_7 (pc' := 218) dX7_ridge_215 rfl rfl (i1 _) ?_
    refine r_goto (tgt := 178) dX7_ridge_218 (by decide) ?_
    refine ih (i + 1) _ (by omega) (fun j hj => ?_) (fun t t0 t1 => ?_)
    · by_cases e : j = i
      · subst e
        refine ⟨?_, ?_⟩
        · rw [up_o (by decide), up_s]
        · rw [up_s]
      · obtain ⟨p0, p1⟩ := h1 j (by omega)
        refine ⟨?_, ?_⟩
        · rw [up_o (by decide), up_n e]; exact p0
        · rw [up_n e, up_o (by decide)]; exact p1
    · rw [up_o t1, up_o t0]; exact h2 t t0 t1

theorem MI.frP {I I' : Nat → Nat → Int32} {σ : zS} (h : MI I σ) (hf : frP I I') : MI I' σ :=
  ⟨h.R.same (fun j hj => hf.2 j (by omega)) (fun r h1 h2 => hf.1 r (by omega) (by omega)), by rw [hf.2 11 (by decide)]; exact h.ck, h.D.same (hf.2 25 (by decide)) (fun r h1 h2 => hf.1 r (by omega) (by omega)), fun k hk => (h.S k hk).same (hf.1 98 (by decide) (by decide)) (hf.1 99 (by decide) (by decide)) (hf.1 100 (by decide) (by decide)), by rw [hf.2 0 (by decide)]; exact h.f, by rw [hf.2 33 (by decide)]; exact h.t⟩

theorem rI_l {e : Nat → Int32} : ∀ n s, zl s.2 = 0 → zl (rI e n s).2.2 = 0
  | 0, s, h => h
  | n + 1, s, h => by
    rw [rI]
    split
    · have hp : zl (pI e s).2.2 = 0 := by
        unfold pI
        cases h1 : kdc (e (s.1 + 1)) with
        | none => exact h
        | some kd =>
          simp only []
          cases h2 : dgt (e (s.1 + 1 + 1)) 10 with
          | none => exact h
          | some v => exact h
      split
      · exact rI_l n _ hp
      · exact hp
    · exact h
theorem rN_l {e : Nat → Int32} : ∀ n s, zl s.2 = 0 → zl (rN e n s).2.2 = 0
  | 0, s, h => h
  | n + 1, s, h => by
    unfold rN
    split
    · exact h
    · rename_i w _
      have hp : zl (pN e w s).2.2 = 0 := by
        unfold pN
        cases h1 : dgt (e (s.1 + 1)) 6 with
        | none => exact h
        | some v => exact h
      split
      · exact rN_l n _ hp
      · exact hp
theorem rG_l {e : Nat → Int32} : ∀ n s, zl s.2 = 0 → zl (rG e n s).2.2 = 0
  | 0, s, h => h
  | n + 1, s, h => by
    rw [rG]
    split
    · have hp : zl (pG e s).2.2 = 0 := by
        unfold pG
        cases h1 : dgt (e (s.1 + 1)) 4 with
        | none => exact h
        | some kd =>
          simp only []
          cases h2 : dgt (e (s.1 + 1 + 1)) (zi s.2) with
          | none => exact h
          | some v => exact h
      split
      · exact rG_l n _ hp
      · exact hp
    · exact h
theorem prs_l {e : Nat → Int32} {n : Nat} (h : (prs e n).1 = true) : zl (prs e n).2.2 = 0 := by
  unfold prs at h ⊢
  split
  · rename_i h0
    rw [if_pos h0] at h
    have ha := rI_l (e := e) 6 (1, zr0) rfl
    unfold pr1 at h ⊢
    split
    · split
      · have hb := rN_l (e := e) 8 ((rI e 6 (1, zr0)).2.1 + 1, (rI e 6 (1, zr0)).2.2) ha
        unfold pr2
        split
        · have hg := rG_l (e := e) 8 _ hb
          unfold pr3
          split
          · exact hg
          · exact hg
        · exact hb
      · exact ha
    · exact ha
  · rfl

set_option maxHeartbeats 4000000 in
set_option maxRecDepth 100000 in
theorem pm_ridge {d : Nat} {x : hX} {I : Nat → Nat → Int32} {ρ : zR} {δ : zD} {η : zH} {ft tr : Int32} {k ln i n : Int32} (hM : MI I (ρ, δ, η, ft, tr)) (hW : WF (ρ, δ, η, ft, tr)) : ci (d + 5) MX7_ridge [.ref 80, .int k, .int ln, .int i, .int n] (hp x I) (fun r h' => ∃ I', h' = hp x I' ∧ (∀ q, q < 80 → I' q = I q) ∧ MI I' ((sp_ridge ρ δ η k ln i n).1, (sp_ridge ρ δ η k ln i n).2.1, η, (sp_ridge ρ δ η k ln i n).2.2.1, tr) ∧ r = (sp_ridge ρ δ η k ln i n).2.2.2) := by
  have hR : isMd I ρ := hM.R
  have hw : wfR ρ := hW.1
  have b6 : zi ρ ≤ 6 := hw.1
  have b8 : zn ρ ≤ 8 := hw.2.1
  have bg : zg ρ ≤ 8 := hw.2.2.1
  have d8 : δ.1 ≤ 8 := hW.2.1.1
  refine c_in (L := [.ref 80, .int k, .int ln, .int i, .int n, .null, .null]) rfl rfl ?_
  refine r_s (pc' := 1) dX7_ridge_0 rfl rfl ?_
  refine r_Si1 (pc' := 4) dX7_ridge_1 rfl lX7_137 rfl (Nat.le_of_ble_eq_true rfl) (Nat.le_of_ble_eq_true rfl) (ct_X7_noSheet) (fun r1 h1 e1 => ?_)
  rcases e1 with ⟨rfl, rfl, j1, hj1, rfl⟩ | ⟨rfl, rfl, hn1⟩
  · refine r_ifeq_t (tgt := 13) dX7_ridge_4 (by decide) (by decide) ?_
    refine r_s (pc' := 14) dX7_ridge_13 rfl rfl ?_
    refine r_s (pc' := 15) dX7_ridge_14 rfl rfl ?_
    refine r_c (pc' := 16) dX7_ridge_15 rfl kc_lconst_0 ?_
    refine r_ldc2 (pc' := 19) dX7_ridge_16 rfl kX7_144 ?_
    refine r_topl (show (2 : Int64) = lN 2 from rfl) ?_
    refine r_Si3 (pc' := 22) dX7_ridge_19 rfl lX7_89 rfl (Nat.le_of_ble_eq_true rfl) (Nat.le_of_ble_eq_true rfl) (ct_in_m (n := 2) (by decide)) (fun r19 h19 e19 => ?_)
    rcases e19 with ⟨rfl, rfl, j19, hj19, rfl⟩ | ⟨rfl, rfl, hn19⟩
    · refine r_ifne_t (tgt := 32) dX7_ridge_22 (by decide) (by decide) ?_
      refine r_s (pc' := 33) dX7_ridge_32 rfl rfl ?_
      refine r_s (pc' := 34) dX7_ridge_33 rfl rfl ?_
      refine r_s (pc' := 35) dX7_ridge_34 rfl rfl ?_
      refine r_s (pc' := 36) dX7_ridge_35 rfl rfl ?_
      refine r_s (pc' := 38) dX7_ridge_36 rfl rfl ?_
      refine r_s (pc' := 39) dX7_ridge_38 rfl rfl ?_
      refine r_Vi4 (pc' := 42) dX7_ridge_39 rfl lX7_146 (hl_ rfl) rfl rfl rfl rfl (Nat.le_of_ble_eq_true rfl) (Nat.le_of_ble_eq_true rfl) (ct_X7_cellsBarred (o := η j1) (by omega) (hM.S j1 (by omega)) (fun a n f e => hW.2.2 j1 (by omega) a n f e)) (fun r39 h39 e39 => ?_)
      rcases e39 with ⟨rfl, rfl, heta⟩ | ⟨rfl, rfl, a, sz, fc, heta, hne⟩ | ⟨rfl, rfl, a, sz, fc, heta, hln, hm0⟩ | ⟨rfl, rfl, a, sz, fc, heta, hln, hm0, hro⟩ | ⟨rfl, rfl, a, sz, fc, f1, m1, heta, hln, hle, rfl, rfl⟩
      · refine r_st_5_7 (pc' := 44) dX7_ridge_42 rfl rfl rfl ?_
        refine r_s (pc' := 46) dX7_ridge_44 rfl rfl ?_
        refine r_ifge_f (pc' := 49) (tgt := 52) dX7_ridge_46 rfl (by decide) (by decide) ?_
        refine r_s (pc' := 51) dX7_ridge_49 rfl rfl ?_
        refine r_reti dX7_ridge_51 rfl (rfl) (Nat.le_of_ble_eq_true rfl) (Nat.le_of_ble_eq_true rfl) ⟨_, rfl, ?_⟩
        have e0 : sp_ridge ρ δ η (nI j1) (nI j19) i n = (ρ, δ, 1, -11) := by
          unfold sp_ridge
          rw [if_pos (ok_in hj1 (by decide))]
          rw [if_pos (ok_in hj19 (by decide))]
          rw [ix_nI (show j1 < 2 ^ 31 by omega), heta]
        exact ⟨_, rfl, fun q hq => up_o (by omega), by rw [e0]; exact hM.upf 1, by rw [e0]⟩
      · refine r_st_5_7 (pc' := 44) dX7_ridge_42 rfl rfl rfl ?_
        refine r_s (pc' := 46) dX7_ridge_44 rfl rfl ?_
        refine r_ifge_f (pc' := 49) (tgt := 52) dX7_ridge_46 rfl (by decide) (by decide) ?_
        refine r_s (pc' := 51) dX7_ridge_49 rfl rfl ?_
        refine r_reti dX7_ridge_51 rfl (rfl) (Nat.le_of_ble_eq_true rfl) (Nat.le_of_ble_eq_true rfl) ⟨_, rfl, ?_⟩
        have e0 : sp_ridge ρ δ η (nI j1) (nI j19) i n = (ρ, δ, 2, -12) := by
          unfold sp_ridge
          rw [if_pos (ok_in hj1 (by decide))]
          rw [if_pos (ok_in hj19 (by decide))]
          rw [ix_nI (show j1 < 2 ^ 31 by omega), heta]
          exact if_neg hne
        exact ⟨_, rfl, fun q hq => up_o (by omega), by rw [e0]; exact hM.upf 2, by rw [e0]⟩
      · refine r_st_5_7 (pc' := 44) dX7_ridge_42 rfl rfl rfl ?_
        refine r_s (pc' := 46) dX7_ridge_44 rfl rfl ?_
        refine r_ifge_f (pc' := 49) (tgt := 52) dX7_ridge_46 rfl (by decide) (by decide) ?_
        refine r_s (pc' := 51) dX7_ridge_49 rfl rfl ?_
        refine r_reti dX7_ridge_51 rfl (rfl) (Nat.le_of_ble_eq_true rfl) (Nat.le_of_ble_eq_true rfl) ⟨_, rfl, ?_⟩
        have e0 : sp_ridge ρ δ η (nI j1) (nI j19) i n = (ρ, δ, 4, -14) := by
          unfold sp_ridge
          rw [if_pos (ok_in hj1 (by decide))]
          rw [if_pos (ok_in hj19 (by decide))]
          rw [ix_nI (show j1 < 2 ^ 31 by omega), heta]
          exact (if_pos hln.symm).trans (if_pos hm0)
        exact ⟨_, rfl, fun q hq => up_o (by omega), by rw [e0]; exact hM.upf 4, by rw [e0]⟩
      · refine r_st_5_7 (pc' := 44) dX7_ridge_42 rfl rfl rfl ?_
        refine r_s (pc' := 46) dX7_ridge_44 rfl rfl ?_
        refine r_ifge_f (pc' := 49) (tgt := 52) dX7_ridge_46 rfl (by decide) (by decide) ?_
        refine r_s (pc' := 51) dX7_ridge_49 rfl rfl ?_
        refine r_reti dX7_ridge_51 rfl (rfl) (Nat.le_of_ble_eq_true rfl) (Nat.le_of_ble_eq_true rfl) ⟨_, rfl, ?_⟩
        have e0 : sp_ridge ρ δ η (nI j1) (nI j19) i n = (ρ, δ, 3, -13) := by
          unfold sp_ridge
          rw [if_pos (ok_in hj1 (by decide))]
          rw [if_pos (ok_in hj19 (by decide))]
          rw [ix_nI (show j1 < 2 ^ 31 by omega), heta]
          exact (if_pos hln.symm).trans ((if_neg hm0).trans (by rw [hro]; rfl))
        exact ⟨_, rfl, fun q hq => up_o (by omega), by rw [e0]; exact hM.upf 3, by rw [e0]⟩
      · refine r_st_5_7 (pc' := 44) dX7_ridge_42 rfl rfl rfl ?_
        refine r_s (pc' := 46) dX7_ridge_44 rfl rfl ?_
        refine r_ifge_t (tgt := 52) dX7_ridge_46 (by decide) (by decide) ?_
        have hbd := hW.2.2 j1 (by omega) a sz fc heta
        have hro : rowok sz (nI f1) (nI m1) = true := by
          unfold rowok; rw [nI_toInt (by omega), nI_toInt (by omega)]; exact decide_eq_true (by omega)
        have hs39 := hM.S j1 (by omega)
        rw [show (ρ, δ, η, ft, tr).2.2.1 j1 = some (a, sz, fc) from heta] at hs39
        have hcm : isCm I j1 f1 m1 (fun j => fc (f1 + j)) := fun j hj => hs39.2.2 (f1 + j) (by omega)
        refine r_s (pc' := 53) dX7_ridge_52 rfl rfl ?_
        refine r_c (pc' := 55) dX7_ridge_53 rfl kc_bipush_60 ?_
        refine r_s (pc' := 56) dX7_ridge_55 rfl rfl ?_
        refine r_s (pc' := 57) dX7_ridge_56 rfl rfl ?_
        refine r_top ((pk_mul 60 j1 : nI 60 * nI j1 = nI (60 * j1))) ?_
        refine r_s (pc' := 58) dX7_ridge_57 rfl rfl ?_
        refine r_s (pc' := 59) dX7_ridge_58 rfl rfl ?_
        refine r_top (nI_add _ _) ?_
        refine r_s (pc' := 61) dX7_ridge_59 rfl rfl ?_
        refine r_Vi2 (pc' := 64) dX7_ridge_61 rfl lX7_150 (hl_ rfl) rfl rfl rfl rfl (Nat.le_of_ble_eq_true rfl) (Nat.le_of_ble_eq_true rfl) (ct_X7_readsRidge hj1 (by omega) hcm) (fun r61 h61 e61 => ?_)
        rcases e61 with ⟨I1, rfl, rfl, hb61, r61, w61, f61⟩ | ⟨I1, rfl, rfl, hb61, a61, f61⟩
        · refine r_ifne_t (tgt := 79) dX7_ridge_64 (by decide) (by decide) ?_
          have z61 : zl (prs (cde (fun j => fc (f1 + j)) m1) m1).2.2 = 0 := prs_l hb61
          refine r_s (pc' := 80) dX7_ridge_79 rfl rfl ?_
          refine r_s (pc' := 81) dX7_ridge_80 rfl rfl ?_
          refine h_gi (pc' := 84) dX7_ridge_81 rfl fX7_106 (hl_ rfl) rfl ?_
          refine r_top (r61.1) ?_
          refine h_pi (pc' := 87) dX7_ridge_84 rfl fX7_86 rfl (hl_ rfl) rfl ?_
          refine r_s (pc' := 88) dX7_ridge_87 rfl rfl ?_
          refine r_s (pc' := 89) dX7_ridge_88 rfl rfl ?_
          refine h_gi (pc' := 92) dX7_ridge_89 rfl fX7_113 (hl_ rfl) rfl ?_
          refine r_top ((show _ = nI (zn (prs (cde (fun j => fc (f1 + j)) m1) m1).2.2) by rw [up_n (by decide)]; exact r61.2.1)) ?_
          refine h_pi (pc' := 95) dX7_ridge_92 rfl fX7_96 rfl (hl_ rfl) rfl ?_
          refine r_s (pc' := 96) dX7_ridge_95 rfl rfl ?_
          refine r_s (pc' := 97) dX7_ridge_96 rfl rfl ?_
          refine h_gi (pc' := 100) dX7_ridge_97 rfl fX7_116 (hl_ rfl) rfl ?_
          refine r_top ((show _ = nI (zg (prs (cde (fun j => fc (f1 + j)) m1) m1).2.2) by rw [up_n (by decide), up_n (by decide)]; exact r61.2.2.1)) ?_
          refine h_pi (pc' := 103) dX7_ridge_100 rfl fX7_93 rfl (hl_ rfl) rfl ?_
          refine r_c (pc' := 104) dX7_ridge_103 rfl kc_iconst_0 ?_
          refine r_st_6_7 (pc' := 106) dX7_ridge_104 rfl rfl rfl ?_
          have w6 := w61.1
          refine lp1_X7_ridge (I0 := (sm_up (sm_up (sm_up I1 80 1 (nI (zi (prs (cde (fun j => fc (f1 + j)) m1) m1).2.2))) 80 4 (nI (zn (prs (cde (fun j => fc (f1 + j)) m1) m1).2.2))) 80 7 (nI (zg (prs (cde (fun j => fc (f1 + j)) m1) m1).2.2)))) (fun I2 c1 c2 => ?_) 8 0 _ rfl (fun j hj => absurd hj (by omega)) (fun t _ _ _ _ => rfl)
          refine r_c (pc' := 176) dX7_ridge_175 rfl kc_iconst_0 ?_
          refine r_st_6_7 (pc' := 178) dX7_ridge_176 rfl rfl rfl ?_
          refine lp2_X7_ridge (I0 := I2) (z := zi (prs (cde (fun j => fc (f1 + j)) m1) m1).2.2) (by rw [c2 80 (by decide) (by decide) (by decide) (by decide), up_n (by decide), up_n (by decide), up_s]) w6 (fun I3 d1 d2 => ?_) (zi (prs (cde (fun j => fc (f1 + j)) m1) m1).2.2) 0 _ (by omega) (fun j hj => absurd hj (by omega)) (fun t _ _ => rfl)
          refine r_s (pc' := 222) dX7_ridge_221 rfl rfl ?_
          refine r_c (pc' := 223) dX7_ridge_222 rfl kc_iconst_0 ?_
          refine h_pi (pc' := 226) dX7_ridge_223 rfl fX7_153 rfl (hl_ rfl) rfl ?_
          refine r_s (pc' := 227) dX7_ridge_226 rfl rfl ?_
          refine r_c (pc' := 228) dX7_ridge_227 rfl kc_iconst_0 ?_
          refine h_pi (pc' := 231) dX7_ridge_228 rfl fX7_156 rfl (hl_ rfl) rfl ?_
          refine r_s (pc' := 232) dX7_ridge_231 rfl rfl ?_
          refine r_s (pc' := 233) dX7_ridge_232 rfl rfl ?_
          refine h_gi (pc' := 236) dX7_ridge_233 rfl fX7_93 (hl_ rfl) rfl ?_
          refine r_top ((show _ = nI (zg (prs (cde (fun j => fc (f1 + j)) m1) m1).2.2) by rw [up_n (by decide), up_n (by decide), d2 80 (by decide) (by decide), c2 80 (by decide) (by decide) (by decide) (by decide), up_s])) ?_
          refine r_Vi1 (pc' := 239) dX7_ridge_236 rfl lX7_141 (hl_ rfl) rfl rfl rfl rfl (Nat.le_of_ble_eq_true rfl) (Nat.le_of_ble_eq_true rfl) (ct_X7_refused) (fun r236 h236 e236 => ?_)
          obtain ⟨rfl, rfl⟩ := e236
          refine r_reti dX7_ridge_239 rfl (rfl) (Nat.le_of_ble_eq_true rfl) (Nat.le_of_ble_eq_true rfl) ⟨_, rfl, ?_⟩
          have e0 : sp_ridge ρ δ η (nI j1) (nI j19) (nI f1) (nI m1) = ((prs (cde (fun j => fc (f1 + j)) m1) m1).2.2, (0, δ.2), 0, nI (zg (prs (cde (fun j => fc (f1 + j)) m1) m1).2.2)) := by
            unfold sp_ridge
            rw [if_pos (ok_in hj1 (by decide))]
            rw [if_pos (ok_in hj19 (by decide))]
            rw [ix_nI (show j1 < 2 ^ 31 by omega), heta]
            refine (if_pos hln.symm).trans ((if_neg (nI_pos (by omega))).trans ((if_pos hro).trans ?_))
            rw [ix_nI (show f1 < 2 ^ 31 by omega), ix_nI (show m1 < 2 ^ 31 by omega)]
            rw [if_pos hb61]
          have g80 : ∀ j, I3 80 j = (sm_up (sm_up (sm_up I1 80 1 (nI (zi (prs (cde (fun j => fc (f1 + j)) m1) m1).2.2))) 80 4 (nI (zn (prs (cde (fun j => fc (f1 + j)) m1) m1).2.2))) 80 7 (nI (zg (prs (cde (fun j => fc (f1 + j)) m1) m1).2.2))) 80 j := fun j => by rw [d2 80 (by decide) (by decide), c2 80 (by decide) (by decide) (by decide) (by decide)]
          have go : ∀ t, t ≠ 80 → ¬ (81 ≤ t ∧ t ≤ 86) → ¬ (87 ≤ t ∧ t ≤ 92) → I3 t = I t := fun t a b c => by rw [d2 t (by omega) (by omega), c2 t (by omega) (by omega) (by omega) (by omega), up_o a, up_o a, up_o a]; exact f61.1 t a c
          have gr : ∀ t, 87 ≤ t → t ≤ 92 → I3 t = I1 t := fun t a b => by rw [d2 t (by omega) (by omega), c2 t (by omega) (by omega) (by omega) (by omega), up_o (by omega), up_o (by omega), up_o (by omega)]
          have gk : ∀ j, (j < 12 ∨ 15 < j) → j ≠ 1 → j ≠ 4 → j ≠ 7 → I3 80 j = I 80 j := fun j a b c d => by rw [g80 j, up_n d, up_n c, up_n b]; exact f61.2 j a
          refine ⟨_, rfl, fun q hq => ?_, ?_, by rw [e0]⟩
          · rw [up_o (by omega), up_o (by omega), up_o (by omega)]; exact go q (by omega) (by omega) (by omega)
          · rw [e0]
            refine ⟨⟨by rw [up_n (by decide), up_n (by decide), up_n (by decide), g80 1, up_n (by decide), up_n (by decide), up_s], by rw [up_n (by decide), up_n (by decide), up_n (by decide), g80 4, up_n (by decide), up_s], by rw [up_n (by decide), up_n (by decide), up_n (by decide), g80 7, up_s], by rw [up_n (by decide), up_n (by decide), up_s]; exact (by rw [z61]; rfl : (0 : Int32) = nI (zl (prs (cde (fun j => fc (f1 + j)) m1) m1).2.2)), fun j hj => ?_, fun j hj => ?_, fun j hj => ?_, fun j hj => ?_, fun j hj => ?_, fun j hj => ?_⟩, by rw [up_n (by decide), up_n (by decide), up_n (by decide)]; exact (gk 11 (by decide) (by decide) (by decide) (by decide)).trans hM.ck, ⟨by rw [up_n (by decide), up_s]; rfl, fun r hr => absurd hr (Nat.not_lt_zero _)⟩, fun kk hk => ?_, up_s, by rw [up_n (by decide), up_n (by decide), up_n (by decide)]; exact (gk 33 (by decide) (by decide) (by decide) (by decide)).trans hM.t⟩
            · rw [up_o (by decide), up_o (by decide), up_o (by decide), (d1 j hj).1, c2 87 (by decide) (by decide) (by decide) (by decide), up_o (by decide), up_o (by decide), up_o (by decide)]; exact r61.2.2.2.1 j hj
            · rw [up_o (by decide), up_o (by decide), up_o (by decide), (d1 j hj).2, c2 88 (by decide) (by decide) (by decide) (by decide), up_o (by decide), up_o (by decide), up_o (by decide)]; exact r61.2.2.2.2.1 j hj
            · rw [up_o (by decide), up_o (by decide), up_o (by decide), d2 83 (by decide) (by decide), (c1 j (Nat.lt_of_lt_of_le hj w61.2.1)).1, up_o (by decide), up_o (by decide), up_o (by decide)]; exact r61.2.2.2.2.2.1 j hj
            · rw [up_o (by decide), up_o (by decide), up_o (by decide), d2 84 (by decide) (by decide), (c1 j (Nat.lt_of_lt_of_le hj w61.2.1)).2.1, up_o (by decide), up_o (by decide), up_o (by decide)]; exact r61.2.2.2.2.2.2.1 j hj
            · rw [up_o (by decide), up_o (by decide), up_o (by decide), d2 85 (by decide) (by decide), (c1 j (Nat.lt_of_lt_of_le hj w61.2.2.1)).2.2.1, up_o (by decide), up_o (by decide), up_o (by decide)]; exact r61.2.2.2.2.2.2.2.1 j hj
            · rw [up_o (by decide), up_o (by decide), up_o (by decide), d2 86 (by decide) (by decide), (c1 j (Nat.lt_of_lt_of_le hj w61.2.2.1)).2.2.2, up_o (by decide), up_o (by decide), up_o (by decide)]; exact r61.2.2.2.2.2.2.2.2 j hj
            · exact (hM.S kk hk).same (by rw [up_o (by decide), up_o (by decide), up_o (by decide)]; exact go 98 (by decide) (by decide) (by decide)) (by rw [up_o (by decide), up_o (by decide), up_o (by decide)]; exact go 99 (by decide) (by decide) (by decide)) (by rw [up_o (by decide), up_o (by decide), up_o (by decide)]; exact go 100 (by decide) (by decide) (by decide))
        · refine r_ifne_f (pc' := 67) (tgt := 79) dX7_ridge_64 rfl (by decide) (by decide) ?_
          refine r_s (pc' := 68) dX7_ridge_67 rfl rfl ?_
          refine r_c (pc' := 70) dX7_ridge_68 rfl kc_bipush_m100 ?_
          refine r_s (pc' := 71) dX7_ridge_70 rfl rfl ?_
          refine h_gi (pc' := 74) dX7_ridge_71 rfl fX7_99 (hl_ rfl) rfl ?_
          refine r_top (a61) ?_
          refine r_s (pc' := 75) dX7_ridge_74 rfl rfl ?_
          refine r_Vi1 (pc' := 78) dX7_ridge_75 rfl lX7_141 (hl_ rfl) rfl rfl rfl rfl (Nat.le_of_ble_eq_true rfl) (Nat.le_of_ble_eq_true rfl) (ct_X7_refused) (fun r75 h75 e75 => ?_)
          obtain ⟨rfl, rfl⟩ := e75
          refine r_reti dX7_ridge_78 rfl (rfl) (Nat.le_of_ble_eq_true rfl) (Nat.le_of_ble_eq_true rfl) ⟨_, rfl, ?_⟩
          have e0 : sp_ridge ρ δ η (nI j1) (nI j19) (nI f1) (nI m1) = (ρ, δ, 0, -100 - nI (prs (cde (fun j => fc (f1 + j)) m1) m1).2.1) := by
            unfold sp_ridge
            rw [if_pos (ok_in hj1 (by decide))]
            rw [if_pos (ok_in hj19 (by decide))]
            rw [ix_nI (show j1 < 2 ^ 31 by omega), heta]
            refine (if_pos hln.symm).trans ((if_neg (nI_pos (by omega))).trans ((if_pos hro).trans ?_))
            rw [ix_nI (show f1 < 2 ^ 31 by omega), ix_nI (show m1 < 2 ^ 31 by omega)]
            rw [if_neg (fun e => by rw [hb61] at e; cases e)]
          exact ⟨_, rfl, fun q hq => by rw [up_o (by omega)]; exact f61.1 q (by omega) (by omega), by rw [e0]; exact (hM.frP f61).upf 0, by rw [e0]⟩
    · refine r_ifne_f (pc' := 25) (tgt := 32) dX7_ridge_22 rfl (by decide) (by decide) ?_
      refine r_s (pc' := 26) dX7_ridge_25 rfl rfl ?_
      refine r_c (pc' := 28) dX7_ridge_26 rfl kc_bipush_m2 ?_
      refine r_Vi1 (pc' := 31) dX7_ridge_28 rfl lX7_141 (hl_ rfl) rfl rfl rfl rfl (Nat.le_of_ble_eq_true rfl) (Nat.le_of_ble_eq_true rfl) (ct_X7_refused) (fun r28 h28 e28 => ?_)
      obtain ⟨rfl, rfl⟩ := e28
      refine r_reti dX7_ridge_31 rfl (rfl) (Nat.le_of_ble_eq_true rfl) (Nat.le_of_ble_eq_true rfl) ⟨_, rfl, ?_⟩
      have e0 : sp_ridge ρ δ η (nI j1) ln i n = (ρ, δ, 0, -2) := by
        unfold sp_ridge
        rw [if_pos (ok_in hj1 (by decide))]
        rw [ok_no (by decide) hn19]; rfl
      exact ⟨_, rfl, fun q hq => up_o (by omega), by rw [e0]; exact hM.upf 0, by rw [e0]⟩
  · refine r_ifeq_f (pc' := 7) (tgt := 13) dX7_ridge_4 rfl (by decide) (by decide) ?_
    refine r_s (pc' := 8) dX7_ridge_7 rfl rfl ?_
    refine r_c (pc' := 9) dX7_ridge_8 rfl kc_iconst_m1 ?_
    refine r_Vi1 (pc' := 12) dX7_ridge_9 rfl lX7_141 (hl_ rfl) rfl rfl rfl rfl (Nat.le_of_ble_eq_true rfl) (Nat.le_of_ble_eq_true rfl) (ct_X7_refused) (fun r9 h9 e9 => ?_)
    obtain ⟨rfl, rfl⟩ := e9
    refine r_reti dX7_ridge_12 rfl (rfl) (Nat.le_of_ble_eq_true rfl) (Nat.le_of_ble_eq_true rfl) ⟨_, rfl, ?_⟩
    have e0 : sp_ridge ρ δ η k ln i n = (ρ, δ, 0, -1) := by
      unfold sp_ridge
      rw [ok_no (by decide) hn1]; rfl
    exact ⟨_, rfl, fun q hq => up_o (by omega), by rw [e0]; exact hM.upf 0, by rw [e0]⟩
