def sp_where (ρ : zR) (g n : Int32) : Int32 := if ok g (zg ρ) = true then (if ok n (zn ρ + 1) = true then nI ((sim ρ 6 (zw ρ) (ix n)).1 (ix g)) else -2) else -1
def sp_deep (ρ : zR) (k n : Int32) : Int32 := if ok k (zi ρ) = true then (if ok n (zn ρ + 1) = true then nI ((sim ρ 6 (zw ρ) (ix n)).2.1 (ix k)) else -2) else -1
def sp_beds (ρ : zR) (k n : Int32) : Int32 := if ¬ zi ρ = 0 ∧ ok k (zi ρ + 1) = true then (if ok n (zn ρ + 1) = true then nI (mA (sim ρ 6 (zw ρ) (ix n)).1 (zg ρ) (ix k)) else -2) else -1
def sp_meet (ρ : zR) (f : Int32) : Int32 := if fM ρ f = 0 then -1 else fmI (mts ρ 6 (zw ρ) (fM ρ f)) (zn ρ)
/-- the family M meets in one of the first n nights -/
def meB (ρ : zR) (M n : Nat) : Bool := decide (∃ j, j < n ∧ mts ρ 6 (zw ρ) M j = true)
def trn (ρ : zR) (M n : Nat) : Int32 := if meB ρ M n = true then -9 else fmI (fun j => meB (ww ρ (fup (zw ρ) j (1 - zw ρ j))) M n) n
def sp_turn (ρ : zR) (f n : Int32) : Int32 := if fM ρ f = 0 then -1 else if ok n (zn ρ + 1) = true then trn ρ (fM ρ f) (ix n) else -2
/-- how many are on the road -/
def rdn (ρ : zR) (rm n : Nat) : Nat := cb0 (mA (sim ρ rm (zw ρ) n).1 (zg ρ) (zi ρ)) 8
def crk (ρ : zR) (n : Nat) : Nat → Bool := fun k => decide (rdn ρ k (n + 1) < rdn ρ 6 (n + 1))
def sp_corks (ρ : zR) (n : Int32) : Int32 := if zi ρ = 0 then -3 else if ok n (zn ρ) = true then nI (mk (crk ρ (ix n)) (zi ρ)) else -2
def sp_rules (ρ : zR) (δ : zD) : Int32 := if zi ρ = 0 then -3 else nI (mk (fun v => arB (wl ρ v) 6 δ) 2)
def sp_kinds (ρ : zR) (δ : zD) (k : Int32) : Int32 := if ok k (zi ρ) = true then nI (mk (fun v => arB (wk ρ (fup (zk ρ) (ix k) v)) 6 δ) 3) else -1
def sp_depths (ρ : zR) (δ : zD) (k : Int32) : Int32 := if ok k (zi ρ) = true then nI (mk (fun v => arB (wsn ρ (fup (zs ρ) (ix k) v)) 6 δ) 10) else -1
def sp_falls (ρ : zR) (δ : zD) (n : Int32) : Int32 := if zi ρ = 0 then -3 else if ok n (zn ρ) = true then nI (mk (fun v => arB (wf ρ (fup (zf ρ) (ix n) v)) 6 δ) 6) else -2
/-- in how many of the rows of winds the family meets -/
def ods (ρ : zR) (M n : Nat) : Nat := fa_cnt (fun row => meB (ww ρ (blw n row (zw ρ))) M n) (2 ^ n)
def sp_odds (ρ : zR) (f n w : Int32) : Int64 := if ¬ fM ρ f = 0 ∧ ok n (zn ρ + 1) = true ∧ ok w 2 = true then lN ((if w = 0 then ods ρ (fM ρ f) (ix n) else 2 ^ ix n) / Nat.gcd (ods ρ (fM ρ f) (ix n)) (2 ^ ix n)) else LOSTv
def lsV (z y : Nat) : Nat := 1 + y / (2 * z)
def lsK (z y : Nat) : Nat := y % (2 * z) / 2
def lsT (z y : Nat) : Nat := if y % 2 = 0 then lsK z y - 1 else lsK z y + 1
def lsP (ρ : zR) (n : Nat) : Nat → Bool := fun y => (if y % 2 = 0 then decide (0 < lsK (zi ρ) y) else decide (lsK (zi ρ) y + 1 < zi ρ)) && byB ρ 6 (lsK (zi ρ) y) (lsT (zi ρ) y) (lsV (zi ρ) y) n
def lsR (z : Nat) (w : Int32) (y : Nat) : Int32 := if w = 0 then nI (lsV z y) else if w = 1 then nI (lsK z y) else nI (lsT z y)
def lst (ρ : zR) (n : Nat) (w : Int32) : Int32 := if fa_first (lsP ρ n) (18 * zi ρ) < 18 * zi ρ then lsR (zi ρ) w (fa_first (lsP ρ n) (18 * zi ρ)) else -9
def sp_least (ρ : zR) (n w : Int32) : Int32 := if ok n (zn ρ + 1) = true ∧ ok w 3 = true then (if zi ρ = 0 then -3 else if allB (rds ρ 6 (zw ρ)) (ix n) = true then (if w = 0 then 0 else -9) else lst ρ (ix n) w) else -2
def lsI (ρ : zR) (n i m : Nat) (f : Nat → Int32) : Int32 := fmI (fun g => decide (¬ f (i + g) = nI ((sim ρ 6 (zw ρ) n).1 g))) m
def sp_list (ρ : zR) (η : zH) (nn k ln i n : Int32) : Int32 × Int32 := if ok k 4 = true then (if ok ln 3 = true then (if zi ρ = 0 then (0, -3) else if ok nn (zn ρ + 1) = true then (match η (ix k) with
  | none => (1, -11)
  | some (a, sz, f) => if nI a = ln then (if n < 0 then (4, -14) else if rowok sz i n = true then (if ok n (zg ρ + 1) = true then (0, lsI ρ (ix nn) (ix i) (ix n) f) else (0, -2)) else (3, -13)) else (2, -12)) else (0, -2)) else (0, -2)) else (0, -1)
theorem wfR.gz {ρ : zR} (h : wfR ρ) (hg : 0 < zg ρ) : 0 < zi ρ := Nat.pos_of_ne_zero (fun e => by have := (h.2.2.2.2.1 e).2; omega)
theorem fM_g {ρ : zR} {f : Int32} (h : ¬ fM ρ f = 0) : 0 < zg ρ := Nat.pos_of_ne_zero (fun e => h (by unfold fM; rw [e]; rfl))
theorem fmI_n {p : Nat → Bool} {n : Nat} (hn : n < 2 ^ 31) (h : fmI p n < 0) : decide (∃ j, j < n ∧ p j = true) = false := by
  refine decide_eq_false (fun ⟨j, hj, hp⟩ => ?_)
  unfold fmI at h
  by_cases h1 : fa_first p n < n
  · rw [if_pos h1] at h; exact nI_pos (by omega) h
  · have := fa_first_no p n j (by have := fa_first_le p n; omega)
    rw [hp] at this; cases this
theorem fmI_p {p : Nat → Bool} {n : Nat} (h : ¬ fmI p n < 0) : decide (∃ j, j < n ∧ p j = true) = true := by
  refine decide_eq_true ?_
  unfold fmI at h
  by_cases h1 : fa_first p n < n
  · exact ⟨_, h1, fa_first_yes p n h1⟩
  · rw [if_neg h1] at h; exact absurd (by decide) h
theorem or_t {p : Nat → Bool} {i : Nat} (h : p i = true) : nI (mk p i) ||| nI (2 ^ i) = nI (mk p (i + 1)) := by rw [fa_or, mk_or, if_pos h]
theorem or_f {p : Nat → Bool} {i : Nat} (h : p i = false) : nI (mk p i) ||| 0 = nI (mk p (i + 1)) := by rw [mk_or, h, if_neg (by decide), Nat.or_zero]; exact Int32.or_zero
theorem rdn_8 {ρ : zR} {rm n : Nat} (h : wfR ρ) : rdn ρ rm n ≤ 8 := (cb0_le8 _ (mA_lt h.2.2.1)).1
theorem rmI_lt {k : Nat} (h : k < 6) : rmI k = nI k := if_pos h
theorem w1m : ∀ w, w ≤ 1 → (1 : Int32) - nI w = nI (1 - w) := fun w hw => by
  match w, hw with
  | 0, _ => rfl
  | 1, _ => rfl
/-- all but what stands at k of the table a -/
def frX (a k : Nat) (I0 I : Nat → Nat → Int32) : Prop := (∀ t, t ≠ 93 → t ≠ 94 → t ≠ 80 → t ≠ a → I t = I0 t) ∧ (∀ j, j ≠ 24 → I 80 j = I0 80 j) ∧ ∀ j, j ≠ k → I a j = I0 a j
theorem frX_up {a k : Nat} {I0 I : Nat → Nat → Int32} (h : frX a k I0 I) (ha : a ≠ 80) (v : Int32) : frM (sm_up I0 a k v) (sm_up I a k v) := by
  refine ⟨fun t t1 t2 t3 => ?_, fun j hj => by rw [up_o (Ne.symm ha), up_o (Ne.symm ha)]; exact h.2.1 j hj⟩
  by_cases e : t = a
  · subst e
    funext j
    by_cases e2 : j = k
    · subst e2; rw [up_s, up_s]
    · rw [up_n e2, up_n e2]; exact h.2.2 j e2
  · rw [up_o e, up_o e]; exact h.1 t t1 t2 t3 e
theorem frX_of {a k : Nat} {I0 I : Nat → Nat → Int32} {v : Int32} (h : frM (sm_up I0 a k v) I) (ha : a ≠ 80) (h93 : a ≠ 93) (h94 : a ≠ 94) : frX a k I0 I :=
  ⟨fun t t1 t2 t3 t4 => by rw [h.1 t t1 t2 t3, up_o t4], fun j hj => by rw [h.2 j hj, up_o (Ne.symm ha)], fun j hj => by rw [h.1 a h93 h94 ha, up_n hj]⟩
theorem frX_0 {a k : Nat} {I : Nat → Nat → Int32} : frX a k I I := ⟨fun _ _ _ _ _ => rfl, fun _ _ => rfl, fun _ _ => rfl⟩
theorem frX_end {a k : Nat} {I0 I : Nat → Nat → Int32} {v : Int32} (h : frX a k I0 I) (ha : a ≠ 80) (e : I0 a k = v) : frM I0 (sm_up I a k v) := by
  refine ⟨fun t t1 t2 t3 => ?_, fun j hj => by rw [up_o (Ne.symm ha)]; exact h.2.1 j hj⟩
  by_cases e1 : t = a
  · subst e1
    funext j
    by_cases e2 : j = k
    · subst e2; rw [up_s, e]
    · rw [up_n e2]; exact h.2.2 j e2
  · rw [up_o e1]; exact h.1 t t1 t2 t3 e1
/-- all but the reference's field s -/
def frF (s : Nat) (I0 I : Nat → Nat → Int32) : Prop := (∀ t, t ≠ 93 → t ≠ 94 → t ≠ 80 → I t = I0 t) ∧ ∀ j, j ≠ 24 → j ≠ s → I 80 j = I0 80 j
theorem frF_up {s : Nat} {I0 I : Nat → Nat → Int32} (h : frF s I0 I) (v : Int32) : frM (sm_up I0 80 s v) (sm_up I 80 s v) :=
  ⟨fun t t1 t2 t3 => by rw [up_o t3, up_o t3]; exact h.1 t t1 t2 t3, fun j hj => by
    by_cases e : j = s
    · subst e; rw [up_s, up_s]
    · rw [up_n e, up_n e]; exact h.2 j hj e⟩
theorem frF_of {s : Nat} {I0 I : Nat → Nat → Int32} {v : Int32} (h : frM (sm_up I0 80 s v) I) : frF s I0 I :=
  ⟨fun t t1 t2 t3 => by rw [h.1 t t1 t2 t3, up_o t3], fun j hj hs => by rw [h.2 j hj, up_n hs]⟩
theorem frF_end {s : Nat} {I0 I : Nat → Nat → Int32} {v : Int32} (h : frF s I0 I) (e : I0 80 s = v) : frM I0 (sm_up I 80 s v) :=
  ⟨fun t t1 t2 t3 => by rw [up_o t3]; exact h.1 t t1 t2 t3, fun j hj => by
    by_cases e2 : j = s
    · subst e2; rw [up_s, e]
    · rw [up_n e2]; exact h.2 j hj e2⟩
theorem frM.c {I I' : Nat → Nat → Int32} (h : frM I I') : ∀ q, q < 80 → I' q = I q := fun q hq => h.1 q (by omega) (by omega) (by omega)

set_option maxHeartbeats 4000000 in
set_option maxRecDepth 100000 in
theorem pm_where {d : Nat} {x : hX} {I : Nat → Nat → Int32} {ρ : zR} {δ : zD} {η : zH} {ft tr : Int32} {g n : Int32} (hM : MI I (ρ, δ, η, ft, tr)) (hW : WF (ρ, δ, η, ft, tr)) : ci (d + 5) MX7_where [.ref 80, .int g, .int n] (hp x I) (fun r h' => ∃ I', h' = hp x I' ∧ (∀ q, q < 80 → I' q = I q) ∧ MI I' (ρ, δ, η, ft, tr) ∧ r = sp_where ρ g n) := by
  have hR : isMd I ρ := hM.R
  have hw : wfR ρ := hW.1
  have b6 : zi ρ ≤ 6 := hw.1
  have b8 : zn ρ ≤ 8 := hw.2.1
  have bg : zg ρ ≤ 8 := hw.2.2.1
  have d8 : δ.1 ≤ 8 := hW.2.1.1
  refine c_in (L := [.ref 80, .int g, .int n]) rfl rfl ?_
  refine r_s (pc' := 1) dX7_where_0 rfl rfl ?_
  refine r_s (pc' := 2) dX7_where_1 rfl rfl ?_
  refine r_Vi1 (pc' := 5) dX7_where_2 rfl lX7_165 (hl_ rfl) rfl rfl rfl rfl (Nat.le_of_ble_eq_true rfl) (Nat.le_of_ble_eq_true rfl) (ct_X7_noGuest hR.2.2.1 hw.bg) (fun r2 h2 e2 => ?_)
  rcases e2 with ⟨rfl, rfl, j2, hj2, rfl⟩ | ⟨rfl, rfl, hn2⟩
  · refine r_ifeq_t (tgt := 10) dX7_where_5 (by decide) (by decide) ?_
    refine r_s (pc' := 11) dX7_where_10 rfl rfl ?_
    refine r_s (pc' := 12) dX7_where_11 rfl rfl ?_
    refine r_c (pc' := 13) dX7_where_12 rfl kc_lconst_0 ?_
    refine r_s (pc' := 14) dX7_where_13 rfl rfl ?_
    refine h_gi (pc' := 17) dX7_where_14 rfl fX7_96 (hl_ rfl) rfl ?_
    refine r_top (hR.2.1) ?_
    refine r_s (pc' := 18) dX7_where_17 rfl rfl ?_
    refine r_topl (nI_l (by omega)) ?_
    refine r_Si3 (pc' := 21) dX7_where_18 rfl lX7_89 rfl (Nat.le_of_ble_eq_true rfl) (Nat.le_of_ble_eq_true rfl) (ct_in_m (hw.bn1)) (fun r18 h18 e18 => ?_)
    rcases e18 with ⟨rfl, rfl, j18, hj18, rfl⟩ | ⟨rfl, rfl, hn18⟩
    · refine r_ifne_t (tgt := 27) dX7_where_21 (by decide) (by decide) ?_
      have hz := hw.gz (by omega)
      refine r_s (pc' := 28) dX7_where_27 rfl rfl ?_
      refine r_s (pc' := 29) dX7_where_28 rfl rfl ?_
      refine r_Vv1 (pc' := 32) dX7_where_29 rfl lX7_193 (hl_ rfl) rfl rfl rfl rfl (Nat.le_of_ble_eq_true rfl) (Nat.le_of_ble_eq_true rfl) (ct_X7_goNights (rm := 6) hR hw hz (by omega) hM.ck) (fun h29 e29 => ?_)
      obtain ⟨I1, rfl, a1, a2⟩ := e29
      refine r_s (pc' := 33) dX7_where_32 rfl rfl ?_
      refine r_gr (pc' := 36) dX7_where_33 rfl fX7_46 (hl_ rfl) rfl rfl ?_
      refine r_s (pc' := 37) dX7_where_36 rfl rfl ?_
      refine h_ald (pc' := 38) dX7_where_37 rfl (hl_ rfl) rfl (vp_in_nI (by omega) (by decide)) (nI_clamp (by omega)) ?_
      refine r_top (a1.1 _ hj2) ?_
      refine r_reti dX7_where_38 rfl (rfl) (Nat.le_of_ble_eq_true rfl) (Nat.le_of_ble_eq_true rfl) ⟨_, rfl, ?_⟩
      exact ⟨I1, rfl, a2.c, hM.fr a2, by rw [sp_where, if_pos (ok_in hj2 hw.bg), if_pos (ok_in hj18 hw.bn1), ix_nI (by omega), ix_nI (by omega)]⟩
    · refine r_ifne_f (pc' := 24) (tgt := 27) dX7_where_21 rfl (by decide) (by decide) ?_
      refine r_c (pc' := 26) dX7_where_24 rfl kc_bipush_m2 ?_
      refine r_reti dX7_where_26 rfl (rfl) (Nat.le_of_ble_eq_true rfl) (Nat.le_of_ble_eq_true rfl) ⟨_, rfl, ?_⟩
      exact ⟨I, rfl, fun _ _ => rfl, hM, by rw [sp_where, if_pos (ok_in hj2 hw.bg), ok_no hw.bn1 hn18]; rfl⟩
  · refine r_ifeq_f (pc' := 8) (tgt := 10) dX7_where_5 rfl (by decide) (by decide) ?_
    refine r_c (pc' := 9) dX7_where_8 rfl kc_iconst_m1 ?_
    refine r_reti dX7_where_9 rfl (rfl) (Nat.le_of_ble_eq_true rfl) (Nat.le_of_ble_eq_true rfl) ⟨_, rfl, ?_⟩
    exact ⟨I, rfl, fun _ _ => rfl, hM, by rw [sp_where, ok_no hw.bg hn2]; rfl⟩

set_option maxHeartbeats 4000000 in
set_option maxRecDepth 100000 in
theorem pm_deep {d : Nat} {x : hX} {I : Nat → Nat → Int32} {ρ : zR} {δ : zD} {η : zH} {ft tr : Int32} {k n : Int32} (hM : MI I (ρ, δ, η, ft, tr)) (hW : WF (ρ, δ, η, ft, tr)) : ci (d + 5) MX7_deep [.ref 80, .int k, .int n] (hp x I) (fun r h' => ∃ I', h' = hp x I' ∧ (∀ q, q < 80 → I' q = I q) ∧ MI I' (ρ, δ, η, ft, tr) ∧ r = sp_deep ρ k n) := by
  have hR : isMd I ρ := hM.R
  have hw : wfR ρ := hW.1
  have b6 : zi ρ ≤ 6 := hw.1
  have b8 : zn ρ ≤ 8 := hw.2.1
  have bg : zg ρ ≤ 8 := hw.2.2.1
  have d8 : δ.1 ≤ 8 := hW.2.1.1
  refine c_in (L := [.ref 80, .int k, .int n]) rfl rfl ?_
  refine r_s (pc' := 1) dX7_deep_0 rfl rfl ?_
  refine r_s (pc' := 2) dX7_deep_1 rfl rfl ?_
  refine r_Vi1 (pc' := 5) dX7_deep_2 rfl lX7_159 (hl_ rfl) rfl rfl rfl rfl (Nat.le_of_ble_eq_true rfl) (Nat.le_of_ble_eq_true rfl) (ct_X7_noInn hR.1 hw.bi) (fun r2 h2 e2 => ?_)
  rcases e2 with ⟨rfl, rfl, j2, hj2, rfl⟩ | ⟨rfl, rfl, hn2⟩
  · refine r_ifeq_t (tgt := 10) dX7_deep_5 (by decide) (by decide) ?_
    refine r_s (pc' := 11) dX7_deep_10 rfl rfl ?_
    refine r_s (pc' := 12) dX7_deep_11 rfl rfl ?_
    refine r_c (pc' := 13) dX7_deep_12 rfl kc_lconst_0 ?_
    refine r_s (pc' := 14) dX7_deep_13 rfl rfl ?_
    refine h_gi (pc' := 17) dX7_deep_14 rfl fX7_96 (hl_ rfl) rfl ?_
    refine r_top (hR.2.1) ?_
    refine r_s (pc' := 18) dX7_deep_17 rfl rfl ?_
    refine r_topl (nI_l (by omega)) ?_
    refine r_Si3 (pc' := 21) dX7_deep_18 rfl lX7_89 rfl (Nat.le_of_ble_eq_true rfl) (Nat.le_of_ble_eq_true rfl) (ct_in_m (hw.bn1)) (fun r18 h18 e18 => ?_)
    rcases e18 with ⟨rfl, rfl, j18, hj18, rfl⟩ | ⟨rfl, rfl, hn18⟩
    · refine r_ifne_t (tgt := 27) dX7_deep_21 (by decide) (by decide) ?_
      have hz : 0 < zi ρ := by omega
      refine r_s (pc' := 28) dX7_deep_27 rfl rfl ?_
      refine r_s (pc' := 29) dX7_deep_28 rfl rfl ?_
      refine r_Vv1 (pc' := 32) dX7_deep_29 rfl lX7_193 (hl_ rfl) rfl rfl rfl rfl (Nat.le_of_ble_eq_true rfl) (Nat.le_of_ble_eq_true rfl) (ct_X7_goNights (rm := 6) hR hw hz (by omega) hM.ck) (fun h29 e29 => ?_)
      obtain ⟨I1, rfl, a1, a2⟩ := e29
      refine r_s (pc' := 33) dX7_deep_32 rfl rfl ?_
      refine r_gr (pc' := 36) dX7_deep_33 rfl fX7_49 (hl_ rfl) rfl rfl ?_
      refine r_s (pc' := 37) dX7_deep_36 rfl rfl ?_
      refine h_ald (pc' := 38) dX7_deep_37 rfl (hl_ rfl) rfl (vp_in_nI (by omega) (by decide)) (nI_clamp (by omega)) ?_
      refine r_top (a1.2.1 _ hj2) ?_
      refine r_reti dX7_deep_38 rfl (rfl) (Nat.le_of_ble_eq_true rfl) (Nat.le_of_ble_eq_true rfl) ⟨_, rfl, ?_⟩
      exact ⟨I1, rfl, a2.c, hM.fr a2, by rw [sp_deep, if_pos (ok_in hj2 hw.bi), if_pos (ok_in hj18 hw.bn1), ix_nI (by omega), ix_nI (by omega)]⟩
    · refine r_ifne_f (pc' := 24) (tgt := 27) dX7_deep_21 rfl (by decide) (by decide) ?_
      refine r_c (pc' := 26) dX7_deep_24 rfl kc_bipush_m2 ?_
      refine r_reti dX7_deep_26 rfl (rfl) (Nat.le_of_ble_eq_true rfl) (Nat.le_of_ble_eq_true rfl) ⟨_, rfl, ?_⟩
      exact ⟨I, rfl, fun _ _ => rfl, hM, by rw [sp_deep, if_pos (ok_in hj2 hw.bi), ok_no hw.bn1 hn18]; rfl⟩
  · refine r_ifeq_f (pc' := 8) (tgt := 10) dX7_deep_5 rfl (by decide) (by decide) ?_
    refine r_c (pc' := 9) dX7_deep_8 rfl kc_iconst_m1 ?_
    refine r_reti dX7_deep_9 rfl (rfl) (Nat.le_of_ble_eq_true rfl) (Nat.le_of_ble_eq_true rfl) ⟨_, rfl, ?_⟩
    exact ⟨I, rfl, fun _ _ => rfl, hM, by rw [sp_deep, ok_no hw.bi hn2]; rfl⟩

set_option maxHeartbeats 4000000 in
set_option maxRecDepth 100000 in
theorem pm_beds {d : Nat} {x : hX} {I : Nat → Nat → Int32} {ρ : zR} {δ : zD} {η : zH} {ft tr : Int32} {k n : Int32} (hM : MI I (ρ, δ, η, ft, tr)) (hW : WF (ρ, δ, η, ft, tr)) : ci (d + 5) MX7_beds [.ref 80, .int k, .int n] (hp x I) (fun r h' => ∃ I', h' = hp x I' ∧ (∀ q, q < 80 → I' q = I q) ∧ MI I' (ρ, δ, η, ft, tr) ∧ r = sp_beds ρ k n) := by
  have hR : isMd I ρ := hM.R
  have hw : wfR ρ := hW.1
  have b6 : zi ρ ≤ 6 := hw.1
  have b8 : zn ρ ≤ 8 := hw.2.1
  have bg : zg ρ ≤ 8 := hw.2.2.1
  have d8 : δ.1 ≤ 8 := hW.2.1.1
  refine c_in (L := [.ref 80, .int k, .int n]) rfl rfl ?_
  refine r_s (pc' := 1) dX7_beds_0 rfl rfl ?_
  refine h_gi (pc' := 4) dX7_beds_1 rfl fX7_86 (hl_ rfl) rfl ?_
  refine r_top (hR.1) ?_
  refine r_ifeq (pc' := 7) (tgt := 21) dX7_beds_4 rfl (by decide) (fun c4 => ?_) (fun c4 => ?_)
  · refine r_c (pc' := 22) dX7_beds_21 rfl kc_iconst_m1 ?_
    refine r_reti dX7_beds_22 rfl (rfl) (Nat.le_of_ble_eq_true rfl) (Nat.le_of_ble_eq_true rfl) ⟨_, rfl, ?_⟩
    exact ⟨I, rfl, fun _ _ => rfl, hM, by rw [sp_beds, if_neg (fun q => q.1 (z0 c4 hw.bi))]⟩
  · refine r_s (pc' := 8) dX7_beds_7 rfl rfl ?_
    refine r_s (pc' := 9) dX7_beds_8 rfl rfl ?_
    refine r_c (pc' := 10) dX7_beds_9 rfl kc_lconst_0 ?_
    refine r_s (pc' := 11) dX7_beds_10 rfl rfl ?_
    refine h_gi (pc' := 14) dX7_beds_11 rfl fX7_86 (hl_ rfl) rfl ?_
    refine r_top (hR.1) ?_
    refine r_s (pc' := 15) dX7_beds_14 rfl rfl ?_
    refine r_topl (nI_l (by omega)) ?_
    refine r_Si3 (pc' := 18) dX7_beds_15 rfl lX7_89 rfl (Nat.le_of_ble_eq_true rfl) (Nat.le_of_ble_eq_true rfl) (ct_in_m (by omega)) (fun r15 h15 e15 => ?_)
    rcases e15 with ⟨rfl, rfl, j15, hj15, rfl⟩ | ⟨rfl, rfl, hn15⟩
    · refine r_ifne_t (tgt := 23) dX7_beds_18 (by decide) (by decide) ?_
      refine r_s (pc' := 24) dX7_beds_23 rfl rfl ?_
      refine r_s (pc' := 25) dX7_beds_24 rfl rfl ?_
      refine r_c (pc' := 26) dX7_beds_25 rfl kc_lconst_0 ?_
      refine r_s (pc' := 27) dX7_beds_26 rfl rfl ?_
      refine h_gi (pc' := 30) dX7_beds_27 rfl fX7_96 (hl_ rfl) rfl ?_
      refine r_top (hR.2.1) ?_
      refine r_s (pc' := 31) dX7_beds_30 rfl rfl ?_
      refine r_topl (nI_l (by omega)) ?_
      refine r_Si3 (pc' := 34) dX7_beds_31 rfl lX7_89 rfl (Nat.le_of_ble_eq_true rfl) (Nat.le_of_ble_eq_true rfl) (ct_in_m (hw.bn1)) (fun r31 h31 e31 => ?_)
      rcases e31 with ⟨rfl, rfl, j31, hj31, rfl⟩ | ⟨rfl, rfl, hn31⟩
      · refine r_ifne_t (tgt := 40) dX7_beds_34 (by decide) (by decide) ?_
        have hz : 0 < zi ρ := Nat.pos_of_ne_zero (z1 c4)
        refine r_s (pc' := 41) dX7_beds_40 rfl rfl ?_
        refine r_s (pc' := 42) dX7_beds_41 rfl rfl ?_
        refine r_Vv1 (pc' := 45) dX7_beds_42 rfl lX7_193 (hl_ rfl) rfl rfl rfl rfl (Nat.le_of_ble_eq_true rfl) (Nat.le_of_ble_eq_true rfl) (ct_X7_goNights (rm := 6) hR hw hz (by omega) hM.ck) (fun h42 e42 => ?_)
        obtain ⟨I1, rfl, a1, a2⟩ := e42
        refine r_s (pc' := 46) dX7_beds_45 rfl rfl ?_
        refine r_s (pc' := 47) dX7_beds_46 rfl rfl ?_
        refine r_Vi1 (pc' := 50) dX7_beds_47 rfl lX7_196 (hl_ rfl) rfl rfl rfl rfl (Nat.le_of_ble_eq_true rfl) (Nat.le_of_ble_eq_true rfl) (ct_X7_inBeds (hR.fr a2) hw a1.1 (sim_ok hw hz 6 (zw ρ) _).1 (by omega)) (fun r47 h47 e47 => ?_)
        obtain ⟨rfl, rfl⟩ := e47
        refine r_reti dX7_beds_50 rfl (rfl) (Nat.le_of_ble_eq_true rfl) (Nat.le_of_ble_eq_true rfl) ⟨_, rfl, ?_⟩
        exact ⟨I1, rfl, a2.c, hM.fr a2, by rw [sp_beds, if_pos ⟨z1 c4, ok_in hj15 (by omega)⟩, if_pos (ok_in hj31 hw.bn1), ix_nI (by omega), ix_nI (by omega)]⟩
      · refine r_ifne_f (pc' := 37) (tgt := 40) dX7_beds_34 rfl (by decide) (by decide) ?_
        refine r_c (pc' := 39) dX7_beds_37 rfl kc_bipush_m2 ?_
        refine r_reti dX7_beds_39 rfl (rfl) (Nat.le_of_ble_eq_true rfl) (Nat.le_of_ble_eq_true rfl) ⟨_, rfl, ?_⟩
        exact ⟨I, rfl, fun _ _ => rfl, hM, by rw [sp_beds, if_pos ⟨z1 c4, ok_in hj15 (by omega)⟩, ok_no hw.bn1 hn31]; rfl⟩
    · refine r_ifne_f (pc' := 21) (tgt := 23) dX7_beds_18 rfl (by decide) (by decide) ?_
      refine r_c (pc' := 22) dX7_beds_21 rfl kc_iconst_m1 ?_
      refine r_reti dX7_beds_22 rfl (rfl) (Nat.le_of_ble_eq_true rfl) (Nat.le_of_ble_eq_true rfl) ⟨_, rfl, ?_⟩
      exact ⟨I, rfl, fun _ _ => rfl, hM, by rw [sp_beds, ok_no (by omega) hn15, if_neg (fun q => by cases q.2)]⟩

set_option maxHeartbeats 4000000 in
set_option maxRecDepth 100000 in
theorem pm_meet {d : Nat} {x : hX} {I : Nat → Nat → Int32} {ρ : zR} {δ : zD} {η : zH} {ft tr : Int32} {f : Int32} (hM : MI I (ρ, δ, η, ft, tr)) (hW : WF (ρ, δ, η, ft, tr)) : ci (d + 5) MX7_meet [.ref 80, .int f] (hp x I) (fun r h' => ∃ I', h' = hp x I' ∧ (∀ q, q < 80 → I' q = I q) ∧ MI I' (ρ, δ, η, ft, tr) ∧ r = sp_meet ρ f) := by
  have hR : isMd I ρ := hM.R
  have hw : wfR ρ := hW.1
  have b6 : zi ρ ≤ 6 := hw.1
  have b8 : zn ρ ≤ 8 := hw.2.1
  have bg : zg ρ ≤ 8 := hw.2.2.1
  have d8 : δ.1 ≤ 8 := hW.2.1.1
  refine c_in (L := [.ref 80, .int f]) rfl rfl ?_
  refine r_s (pc' := 1) dX7_meet_0 rfl rfl ?_
  refine r_s (pc' := 2) dX7_meet_1 rfl rfl ?_
  refine r_Vi1 (pc' := 5) dX7_meet_2 rfl lX7_202 (hl_ rfl) rfl rfl rfl rfl (Nat.le_of_ble_eq_true rfl) (Nat.le_of_ble_eq_true rfl) (ct_X7_noFamily hR hw) (fun r2 h2 e2 => ?_)
  rcases e2 with ⟨rfl, rfl, hf⟩ | ⟨rfl, rfl, hf⟩
  · refine r_ifeq_t (tgt := 12) dX7_meet_5 (by decide) (by decide) ?_
    have hz := hw.gz (fM_g hf)
    refine r_s (pc' := 13) dX7_meet_12 rfl rfl ?_
    refine r_s (pc' := 14) dX7_meet_13 rfl rfl ?_
    refine r_s (pc' := 15) dX7_meet_14 rfl rfl ?_
    refine h_gi (pc' := 18) dX7_meet_15 rfl fX7_96 (hl_ rfl) rfl ?_
    refine r_top (hR.2.1) ?_
    refine r_Vi2 (pc' := 21) dX7_meet_18 rfl lX7_205 (hl_ rfl) rfl rfl rfl rfl (Nat.le_of_ble_eq_true rfl) (Nat.le_of_ble_eq_true rfl) (ct_X7_meetsIn (rm := 6) hR hw hz (Nat.le_refl _) hM.ck hf) (fun r18 h18 e18 => ?_)
    obtain ⟨I1, rfl, a2, rfl⟩ := e18
    refine r_reti dX7_meet_21 rfl (rfl) (Nat.le_of_ble_eq_true rfl) (Nat.le_of_ble_eq_true rfl) ⟨_, rfl, ?_⟩
    exact ⟨I1, rfl, a2.c, hM.fr a2, by rw [sp_meet, if_neg hf]⟩
  · refine r_ifeq_f (pc' := 8) (tgt := 12) dX7_meet_5 rfl (by decide) (by decide) ?_
    refine r_c (pc' := 9) dX7_meet_8 rfl kc_iconst_m1 ?_
    refine r_goto (tgt := 21) dX7_meet_9 (by decide) ?_
    refine r_reti dX7_meet_21 rfl (rfl) (Nat.le_of_ble_eq_true rfl) (Nat.le_of_ble_eq_true rfl) ⟨_, rfl, ?_⟩
    exact ⟨I, rfl, fun _ _ => rfl, hM, by rw [sp_meet, if_pos hf]⟩

set_option maxHeartbeats 4000000 in
set_option maxRecDepth 100000 in
theorem lp_X7_turn {d : Nat} {Q : sm_Q} {x : hX} {ρ : zR} {I0 : Nat → Nat → Int32} {n : Nat} {f : Int32} (hR : isMd I0 ρ) (hw : wfR ρ) (hz : 0 < zi ρ) (hn : n ≤ zn ρ) (hck : I0 80 11 = rmI 6) (hf : ¬ fM ρ f = 0) (hQ : ∀ I, frM I0 I → Q (some (.int (fmI (fun j => meB (ww ρ (fup (zw ρ) j (1 - zw ρ j))) (fM ρ f) n) n))) (hp x I)) : ∀ (m i : Nat) (v : Int32) (I : Nat → Nat → Int32), i + m = n → ((v = -9 ∧ ∀ j, j < i → meB (ww ρ (fup (zw ρ) j (1 - zw ρ j))) (fM ρ f) n = false) ∨ (∃ j, j < i ∧ v = nI j ∧ meB (ww ρ (fup (zw ρ) j (1 - zw ρ j))) (fM ρ f) n = true ∧ ∀ k, k < j → meB (ww ρ (fup (zw ρ) k (1 - zw ρ k))) (fM ρ f) n = false)) → frM I0 I → sm_wp (sm_c (d + 4)) 0 0 MX7_turn Q 45 [.ref 80, .int f, .int (nI n), .int v, .int (nI i)] [] (hp x I) 0 0 := by
  have b6 : zi ρ ≤ 6 := hw.1
  have b8 : zn ρ ≤ 8 := hw.2.1
  have bg : zg ρ ≤ 8 := hw.2.2.1
  have bl : zl ρ ≤ 1 := hw.2.2.2.1
  intro m
  induction m with
  | zero =>
    intro i v I hi h1 h2
    have hi : i = n := by omega
    rcases h1 with ⟨rfl, ha⟩ | ⟨j, hj, rfl, hj1, hj2⟩
    · refine r_s (pc' := 47) dX7_turn_45 rfl rfl ?_
      refine r_s (pc' := 48) dX7_turn_47 rfl rfl ?_
      refine r_cge_t (tgt := 110) dX7_turn_48 (by decide) (by rw [hi]; exact Int32.le_refl _) ?_
      refine r_s (pc' := 111) dX7_turn_110 rfl rfl ?_
      refine r_reti dX7_turn_111 rfl (rfl) (Nat.le_of_ble_eq_true rfl) (Nat.le_of_ble_eq_true rfl) ?_
      rw [hi] at ha; rw [← fmI_no (p := (fun j => meB (ww ρ (fup (zw ρ) j (1 - zw ρ j))) (fM ρ f) n)) ha]; exact hQ I h2
    · refine r_s (pc' := 47) dX7_turn_45 rfl rfl ?_
      refine r_s (pc' := 48) dX7_turn_47 rfl rfl ?_
      refine r_cge_t (tgt := 110) dX7_turn_48 (by decide) (by rw [hi]; exact Int32.le_refl _) ?_
      refine r_s (pc' := 111) dX7_turn_110 rfl rfl ?_
      refine r_reti dX7_turn_111 rfl (rfl) (Nat.le_of_ble_eq_true rfl) (Nat.le_of_ble_eq_true rfl) ?_
      rw [← fmI_at (p := (fun j => meB (ww ρ (fup (zw ρ) j (1 - zw ρ j))) (fM ρ f) n)) (n := n) (by omega) hj1 hj2]; exact hQ I h2
  | succ m ih =>
    intro i v I hi h1 h2
    rcases h1 with ⟨rfl, ha⟩ | ⟨j, hj, rfl, hj1, hj2⟩
    · refine r_s (pc' := 47) dX7_turn_45 rfl rfl ?_
      refine r_s (pc' := 48) dX7_turn_47 rfl rfl ?_
      refine r_cge_f (pc' := 51) (tgt := 110) dX7_turn_48 rfl (by decide) (nI_ge (by omega) (by omega)) ?_
      refine r_s (pc' := 52) dX7_turn_51 rfl rfl ?_
      refine r_ifge_f (pc' := 55) (tgt := 110) dX7_turn_52 rfl (by decide) (by decide) ?_
      refine r_s (pc' := 56) dX7_turn_55 rfl rfl ?_
      refine r_gr (pc' := 59) dX7_turn_56 rfl fX7_16 (hl_ rfl) rfl rfl ?_
      refine r_s (pc' := 61) dX7_turn_59 rfl rfl ?_
      refine r_c (pc' := 62) dX7_turn_61 rfl kc_iconst_1 ?_
      refine r_s (pc' := 63) dX7_turn_62 rfl rfl ?_
      refine r_gr (pc' := 66) dX7_turn_63 rfl fX7_16 (hl_ rfl) rfl rfl ?_
      refine r_s (pc' := 68) dX7_turn_66 rfl rfl ?_
      refine h_ald (pc' := 69) dX7_turn_68 rfl (hl_ rfl) rfl (vp_in_nI (by omega) (by decide)) (nI_clamp (by omega)) ?_
      refine r_top ((hR.fr h2).w i (by omega)) ?_
      refine r_s (pc' := 70) dX7_turn_69 rfl rfl ?_
      refine r_top (w1m _ (hw.w1 (by omega))) ?_
      refine h_ast (pc' := 71) dX7_turn_70 rfl (hl_ rfl) rfl (vp_in_nI (by omega) (by decide)) (nI_clamp (by omega)) ?_
      refine r_s (pc' := 72) dX7_turn_71 rfl rfl ?_
      refine r_s (pc' := 73) dX7_turn_72 rfl rfl ?_
      refine r_s (pc' := 74) dX7_turn_73 rfl rfl ?_
      refine r_Vi2 (pc' := 77) dX7_turn_74 rfl lX7_205 (hl_ rfl) rfl rfl rfl rfl (Nat.le_of_ble_eq_true rfl) (Nat.le_of_ble_eq_true rfl) (ct_X7_meetsIn (rm := 6) (ρ := ww ρ (fup (zw ρ) i (1 - zw ρ i))) ((hR.fr h2).u_w i _) (hw.uw (fup_le (fun k hk => hw.w1 hk) (by omega))) hz hn (by rw [up_o (by decide), h2.2 11 (by decide)]; exact hck) hf) (fun r74 h74 e74 => ?_)
      obtain ⟨I1, rfl, a2, rfl⟩ := e74
      refine r_iflt (pc' := 80) (tgt := 85) dX7_turn_77 rfl (by decide) (fun c77 => ?_) (fun c77 => ?_)
      · refine r_c (pc' := 87) dX7_turn_85 rfl kc_bipush_m9 ?_
        refine r_st_3_5 (pc' := 88) dX7_turn_87 rfl rfl rfl ?_
        refine r_s (pc' := 89) dX7_turn_88 rfl rfl ?_
        refine r_gr (pc' := 92) dX7_turn_89 rfl fX7_16 (hl_ rfl) rfl rfl ?_
        refine r_s (pc' := 94) dX7_turn_92 rfl rfl ?_
        refine r_c (pc' := 95) dX7_turn_94 rfl kc_iconst_1 ?_
        refine r_s (pc' := 96) dX7_turn_95 rfl rfl ?_
        refine r_gr (pc' := 99) dX7_turn_96 rfl fX7_16 (hl_ rfl) rfl rfl ?_
        refine r_s (pc' := 101) dX7_turn_99 rfl rfl ?_
        refine h_ald (pc' := 102) dX7_turn_101 rfl (hl_ rfl) rfl (vp_in_nI (by omega) (by decide)) (nI_clamp (by omega)) ?_
        refine r_top ((show _ = nI (1 - zw ρ i) by rw [a2.1 83 (by decide) (by decide) (by decide), up_s])) ?_
        refine r_s (pc' := 103) dX7_turn_102 rfl rfl ?_
        refine r_top ((show _ = nI (zw ρ i) by rw [w1m _ (by omega), show 1 - (1 - zw ρ i) = zw ρ i by have := hw.w1 (k := i) (by omega); omega])) ?_
        refine h_ast (pc' := 104) dX7_turn_103 rfl (hl_ rfl) rfl (vp_in_nI (by omega) (by decide)) (nI_clamp (by omega)) ?_
        refine r_in_4_5 (pc' := 107) dX7_turn_104 rfl rfl (i1 _) ?_
        refine r_goto (tgt := 45) dX7_turn_107 (by decide) ?_
        refine ih (i + 1) _ _ (by omega) (Or.inl ⟨rfl, fun j hj => ?_⟩) (h2.tr (frX_end (frX_of a2 (by decide) (by decide) (by decide)) (by decide) ((hR.fr h2).w i (by omega))))
        by_cases e : j = i
        · subst e; exact fmI_n (by omega) c77
        · exact ha j (by omega)
      · refine r_s (pc' := 82) dX7_turn_80 rfl rfl ?_
        refine r_goto (tgt := 87) dX7_turn_82 (by decide) ?_
        refine r_st_3_5 (pc' := 88) dX7_turn_87 rfl rfl rfl ?_
        refine r_s (pc' := 89) dX7_turn_88 rfl rfl ?_
        refine r_gr (pc' := 92) dX7_turn_89 rfl fX7_16 (hl_ rfl) rfl rfl ?_
        refine r_s (pc' := 94) dX7_turn_92 rfl rfl ?_
        refine r_c (pc' := 95) dX7_turn_94 rfl kc_iconst_1 ?_
        refine r_s (pc' := 96) dX7_turn_95 rfl rfl ?_
        refine r_gr (pc' := 99) dX7_turn_96 rfl fX7_16 (hl_ rfl) rfl rfl ?_
        refine r_s (pc' := 101) dX7_turn_99 rfl rfl ?_
        refine h_ald (pc' := 102) dX7_turn_101 rfl (hl_ rfl) rfl (vp_in_nI (by omega) (by decide)) (nI_clamp (by omega)) ?_
        refine r_top ((show _ = nI (1 - zw ρ i) by rw [a2.1 83 (by decide) (by decide) (by decide), up_s])) ?_
        refine r_s (pc' := 103) dX7_turn_102 rfl rfl ?_
        refine r_top ((show _ = nI (zw ρ i) by rw [w1m _ (by omega), show 1 - (1 - zw ρ i) = zw ρ i by have := hw.w1 (k := i) (by omega); omega])) ?_
        refine h_ast (pc' := 104) dX7_turn_103 rfl (hl_ rfl) rfl (vp_in_nI (by omega) (by decide)) (nI_clamp (by omega)) ?_
        refine r_in_4_5 (pc' := 107) dX7_turn_104 rfl rfl (i1 _) ?_
        refine r_goto (tgt := 45) dX7_turn_107 (by decide) ?_
        exact ih (i + 1) _ _ (by omega) (Or.inr ⟨i, by omega, rfl, fmI_p c77, ha⟩) (h2.tr (frX_end (frX_of a2 (by decide) (by decide) (by decide)) (by decide) ((hR.fr h2).w i (by omega))))
    · refine r_s (pc' := 47) dX7_turn_45 rfl rfl ?_
      refine r_s (pc' := 48) dX7_turn_47 rfl rfl ?_
      refine r_cge_f (pc' := 51) (tgt := 110) dX7_turn_48 rfl (by decide) (nI_ge (by omega) (by omega)) ?_
      refine r_s (pc' := 52) dX7_turn_51 rfl rfl ?_
      refine r_ifge_t (tgt := 110) dX7_turn_52 (by decide) (nI_pos' (by omega)) ?_
      refine r_s (pc' := 111) dX7_turn_110 rfl rfl ?_
      refine r_reti dX7_turn_111 rfl (rfl) (Nat.le_of_ble_eq_true rfl) (Nat.le_of_ble_eq_true rfl) ?_
      rw [← fmI_at (p := (fun j => meB (ww ρ (fup (zw ρ) j (1 - zw ρ j))) (fM ρ f) n)) (n := n) (by omega) hj1 hj2]; exact hQ I h2

set_option maxHeartbeats 4000000 in
set_option maxRecDepth 100000 in
theorem pm_turn {d : Nat} {x : hX} {I : Nat → Nat → Int32} {ρ : zR} {δ : zD} {η : zH} {ft tr : Int32} {f n : Int32} (hM : MI I (ρ, δ, η, ft, tr)) (hW : WF (ρ, δ, η, ft, tr)) : ci (d + 5) MX7_turn [.ref 80, .int f, .int n] (hp x I) (fun r h' => ∃ I', h' = hp x I' ∧ (∀ q, q < 80 → I' q = I q) ∧ MI I' (ρ, δ, η, ft, tr) ∧ r = sp_turn ρ f n) := by
  have hR : isMd I ρ := hM.R
  have hw : wfR ρ := hW.1
  have b6 : zi ρ ≤ 6 := hw.1
  have b8 : zn ρ ≤ 8 := hw.2.1
  have bg : zg ρ ≤ 8 := hw.2.2.1
  have d8 : δ.1 ≤ 8 := hW.2.1.1
  refine c_in (L := [.ref 80, .int f, .int n, .null, .null]) rfl rfl ?_
  refine r_s (pc' := 1) dX7_turn_0 rfl rfl ?_
  refine r_s (pc' := 2) dX7_turn_1 rfl rfl ?_
  refine r_Vi1 (pc' := 5) dX7_turn_2 rfl lX7_202 (hl_ rfl) rfl rfl rfl rfl (Nat.le_of_ble_eq_true rfl) (Nat.le_of_ble_eq_true rfl) (ct_X7_noFamily hR hw) (fun r2 h2 e2 => ?_)
  rcases e2 with ⟨rfl, rfl, hf⟩ | ⟨rfl, rfl, hf⟩
  · refine r_ifeq_t (tgt := 10) dX7_turn_5 (by decide) (by decide) ?_
    refine r_s (pc' := 11) dX7_turn_10 rfl rfl ?_
    refine r_s (pc' := 12) dX7_turn_11 rfl rfl ?_
    refine r_c (pc' := 13) dX7_turn_12 rfl kc_lconst_0 ?_
    refine r_s (pc' := 14) dX7_turn_13 rfl rfl ?_
    refine h_gi (pc' := 17) dX7_turn_14 rfl fX7_96 (hl_ rfl) rfl ?_
    refine r_top (hR.2.1) ?_
    refine r_s (pc' := 18) dX7_turn_17 rfl rfl ?_
    refine r_topl (nI_l (by omega)) ?_
    refine r_Si3 (pc' := 21) dX7_turn_18 rfl lX7_89 rfl (Nat.le_of_ble_eq_true rfl) (Nat.le_of_ble_eq_true rfl) (ct_in_m (hw.bn1)) (fun r18 h18 e18 => ?_)
    rcases e18 with ⟨rfl, rfl, j18, hj18, rfl⟩ | ⟨rfl, rfl, hn18⟩
    · refine r_ifne_t (tgt := 27) dX7_turn_21 (by decide) (by decide) ?_
      have hz := hw.gz (fM_g hf)
      refine r_s (pc' := 28) dX7_turn_27 rfl rfl ?_
      refine r_s (pc' := 29) dX7_turn_28 rfl rfl ?_
      refine r_s (pc' := 30) dX7_turn_29 rfl rfl ?_
      refine r_Vi2 (pc' := 33) dX7_turn_30 rfl lX7_205 (hl_ rfl) rfl rfl rfl rfl (Nat.le_of_ble_eq_true rfl) (Nat.le_of_ble_eq_true rfl) (ct_X7_meetsIn (rm := 6) hR hw hz (by omega) hM.ck hf) (fun r30 h30 e30 => ?_)
      obtain ⟨I1, rfl, a2, rfl⟩ := e30
      refine r_iflt (pc' := 36) (tgt := 39) dX7_turn_33 rfl (by decide) (fun c33 => ?_) (fun c33 => ?_)
      · refine r_c (pc' := 41) dX7_turn_39 rfl kc_bipush_m9 ?_
        refine r_st_3_5 (pc' := 42) dX7_turn_41 rfl rfl rfl ?_
        refine r_c (pc' := 43) dX7_turn_42 rfl kc_iconst_0 ?_
        refine r_st_4_5 (pc' := 45) dX7_turn_43 rfl rfl rfl ?_
        refine lp_X7_turn (I0 := I) hR hw hz (by omega) hM.ck hf (fun I2 g2 => ⟨_, rfl, I2, rfl, g2.c, hM.fr g2, ?_⟩) j18 0 (-9) I1 (by omega) (Or.inl ⟨rfl, fun j hj => absurd hj (by omega)⟩) a2
        rw [sp_turn, if_neg hf, if_pos (ok_in hj18 hw.bn1), ix_nI (by omega), trn, if_neg (fun e => by rw [show meB ρ (fM ρ f) j18 = false from fmI_n (by omega) c33] at e; cases e)]
      · refine r_c (pc' := 38) dX7_turn_36 rfl kc_bipush_m9 ?_
        refine r_reti dX7_turn_38 rfl (rfl) (Nat.le_of_ble_eq_true rfl) (Nat.le_of_ble_eq_true rfl) ⟨_, rfl, ?_⟩
        exact ⟨I1, rfl, a2.c, hM.fr a2, by rw [sp_turn, if_neg hf, if_pos (ok_in hj18 hw.bn1), ix_nI (by omega), trn, if_pos (show meB ρ (fM ρ f) j18 = true from fmI_p c33)]⟩
    · refine r_ifne_f (pc' := 24) (tgt := 27) dX7_turn_21 rfl (by decide) (by decide) ?_
      refine r_c (pc' := 26) dX7_turn_24 rfl kc_bipush_m2 ?_
      refine r_reti dX7_turn_26 rfl (rfl) (Nat.le_of_ble_eq_true rfl) (Nat.le_of_ble_eq_true rfl) ⟨_, rfl, ?_⟩
      exact ⟨I, rfl, fun _ _ => rfl, hM, by rw [sp_turn, if_neg hf, ok_no hw.bn1 hn18]; rfl⟩
  · refine r_ifeq_f (pc' := 8) (tgt := 10) dX7_turn_5 rfl (by decide) (by decide) ?_
    refine r_c (pc' := 9) dX7_turn_8 rfl kc_iconst_m1 ?_
    refine r_reti dX7_turn_9 rfl (rfl) (Nat.le_of_ble_eq_true rfl) (Nat.le_of_ble_eq_true rfl) ⟨_, rfl, ?_⟩
    exact ⟨I, rfl, fun _ _ => rfl, hM, by rw [sp_turn, if_pos hf]⟩

set_option maxHeartbeats 4000000 in
set_option maxRecDepth 100000 in
theorem lp_X7_corks {d : Nat} {Q : sm_Q} {x : hX} {ρ : zR} {I0 : Nat → Nat → Int32} {n : Nat} (hR : isMd I0 ρ) (hw : wfR ρ) (hz : 0 < zi ρ) (hn : n < zn ρ) (hck : I0 80 11 = -9) (hQ : ∀ I, frM I0 I → Q (some (.int (nI (mk (crk ρ n) (zi ρ))))) (hp x I)) : ∀ (m i : Nat) (I : Nat → Nat → Int32), i + m = zi ρ → frF 11 I0 I → sm_wp (sm_c (d + 4)) 0 0 MX7_corks Q 45 [.ref 80, .int (nI n), .int (nI (rdn ρ 6 (n + 1))), .int (nI (mk (crk ρ n) i)), .int (nI i)] [] (hp x I) 0 0 := by
  have b6 : zi ρ ≤ 6 := hw.1
  have b8 : zn ρ ≤ 8 := hw.2.1
  have bg : zg ρ ≤ 8 := hw.2.2.1
  have bl : zl ρ ≤ 1 := hw.2.2.2.1
  intro m
  induction m with
  | zero =>
    intro i I hi h2
    have hi : i = zi ρ := by omega
    refine r_s (pc' := 47) dX7_corks_45 rfl rfl ?_
    refine r_s (pc' := 48) dX7_corks_47 rfl rfl ?_
    refine h_gi (pc' := 51) dX7_corks_48 rfl fX7_86 (hl_ rfl) rfl ?_
    refine r_top ((show _ = nI (zi ρ) by rw [h2.2 1 (by decide) (by decide)]; exact hR.1)) ?_
    refine r_cge_t (tgt := 99) dX7_corks_51 (by decide) (by rw [hi]; exact Int32.le_refl _) ?_
    refine r_s (pc' := 100) dX7_corks_99 rfl rfl ?_
    refine r_c (pc' := 102) dX7_corks_100 rfl kc_bipush_m9 ?_
    refine h_pi (pc' := 105) dX7_corks_102 rfl fX7_73 rfl (hl_ rfl) rfl ?_
    refine r_s (pc' := 106) dX7_corks_105 rfl rfl ?_
    refine r_reti dX7_corks_106 rfl (rfl) (Nat.le_of_ble_eq_true rfl) (Nat.le_of_ble_eq_true rfl) ?_
    rw [hi]; exact hQ _ (frF_end h2 hck)
  | succ m ih =>
    intro i I hi h2
    have hRi : isMd (sm_up I 80 11 (nI i)) ρ := (hR.same (fun j hj => up_n (by omega)) (fun r r1 r2 => up_o (by omega))).fr (frF_up h2 (nI i))
    refine r_s (pc' := 47) dX7_corks_45 rfl rfl ?_
    refine r_s (pc' := 48) dX7_corks_47 rfl rfl ?_
    refine h_gi (pc' := 51) dX7_corks_48 rfl fX7_86 (hl_ rfl) rfl ?_
    refine r_top ((show _ = nI (zi ρ) by rw [h2.2 1 (by decide) (by decide)]; exact hR.1)) ?_
    refine r_cge_f (pc' := 54) (tgt := 99) dX7_corks_51 rfl (by decide) (nI_ge (by omega) (by omega)) ?_
    refine r_s (pc' := 55) dX7_corks_54 rfl rfl ?_
    refine r_s (pc' := 57) dX7_corks_55 rfl rfl ?_
    refine h_pi (pc' := 60) dX7_corks_57 rfl fX7_73 rfl (hl_ rfl) rfl ?_
    refine r_s (pc' := 61) dX7_corks_60 rfl rfl ?_
    refine r_s (pc' := 62) dX7_corks_61 rfl rfl ?_
    refine r_c (pc' := 63) dX7_corks_62 rfl kc_iconst_1 ?_
    refine r_s (pc' := 64) dX7_corks_63 rfl rfl ?_
    refine r_top (nI_1 n) ?_
    refine r_Vv1 (pc' := 67) dX7_corks_64 rfl lX7_193 (hl_ rfl) rfl rfl rfl rfl (Nat.le_of_ble_eq_true rfl) (Nat.le_of_ble_eq_true rfl) (ct_X7_goNights (rm := i) (n := n + 1) hRi hw hz (by omega) (by rw [up_s, rmI_lt (by omega)])) (fun h64 e64 => ?_)
    obtain ⟨I1, rfl, a1, a2⟩ := e64
    refine r_s (pc' := 68) dX7_corks_67 rfl rfl ?_
    refine r_s (pc' := 69) dX7_corks_68 rfl rfl ?_
    refine r_s (pc' := 70) dX7_corks_69 rfl rfl ?_
    refine h_gi (pc' := 73) dX7_corks_70 rfl fX7_86 (hl_ rfl) rfl ?_
    refine r_top ((hRi.fr a2).1) ?_
    refine r_Vi1 (pc' := 76) dX7_corks_73 rfl lX7_196 (hl_ rfl) rfl rfl rfl rfl (Nat.le_of_ble_eq_true rfl) (Nat.le_of_ble_eq_true rfl) (ct_X7_inBeds (k := zi ρ) (A := (sim ρ i (zw ρ) (n + 1)).1) (hRi.fr a2) hw a1.1 (sim_ok hw hz i (zw ρ) _).1 b6) (fun r73 h73 e73 => ?_)
    obtain ⟨rfl, rfl⟩ := e73
    refine r_Si1 (pc' := 79) dX7_corks_76 rfl lX7_215 rfl (Nat.le_of_ble_eq_true rfl) (Nat.le_of_ble_eq_true rfl) (ct_X7_bits (mA_lt bg)) (fun r76 h76 e76 => ?_)
    obtain ⟨rfl, rfl⟩ := e76
    refine r_s (pc' := 80) dX7_corks_79 rfl rfl ?_
    refine r_cge (pc' := 83) (tgt := 90) dX7_corks_80 rfl (by decide) (fun c80 => ?_) (fun c80 => ?_)
    · refine r_c (pc' := 91) dX7_corks_90 rfl kc_iconst_0 ?_
      refine r_s (pc' := 92) dX7_corks_91 rfl rfl ?_
      refine r_top (show _ = nI (mk (crk ρ n) (i + 1)) from or_f (p := crk ρ n) (decide_eq_false (Nat.not_lt.mpr ((nI_leI (by have := rdn_8 (rm := 6) (n := n + 1) hw; have := rdn_8 (rm := i) (n := n + 1) hw; omega) (by have := rdn_8 (rm := 6) (n := n + 1) hw; have := rdn_8 (rm := i) (n := n + 1) hw; omega)).mp (show _ ≤ nI (rdn ρ i (n + 1)) from c80))))) ?_
      refine r_st_3_5 (pc' := 93) dX7_corks_92 rfl rfl rfl ?_
      refine r_in_4_5 (pc' := 96) dX7_corks_93 rfl rfl (i1 _) ?_
      refine r_goto (tgt := 45) dX7_corks_96 (by decide) ?_
      exact ih (i + 1) I1 (by omega) (frF_of ((frF_up h2 (nI i)).tr a2))
    · refine r_c (pc' := 84) dX7_corks_83 rfl kc_iconst_1 ?_
      refine r_s (pc' := 86) dX7_corks_84 rfl rfl ?_
      refine r_s (pc' := 87) dX7_corks_86 rfl rfl ?_
      refine r_top (sh1 (by omega)) ?_
      refine r_goto (tgt := 91) dX7_corks_87 (by decide) ?_
      refine r_s (pc' := 92) dX7_corks_91 rfl rfl ?_
      refine r_top (show _ = nI (mk (crk ρ n) (i + 1)) from or_t (p := crk ρ n) (decide_eq_true (Nat.lt_of_not_le (fun h => c80 (show _ ≤ nI (rdn ρ i (n + 1)) from nI_le h (by have := rdn_8 (rm := 6) (n := n + 1) hw; have := rdn_8 (rm := i) (n := n + 1) hw; omega)))))) ?_
      refine r_st_3_5 (pc' := 93) dX7_corks_92 rfl rfl rfl ?_
      refine r_in_4_5 (pc' := 96) dX7_corks_93 rfl rfl (i1 _) ?_
      refine r_goto (tgt := 45) dX7_corks_96 (by decide) ?_
      exact ih (i + 1) I1 (by omega) (frF_of ((frF_up h2 (nI i)).tr a2))

set_option maxHeartbeats 4000000 in
set_option maxRecDepth 100000 in
theorem pm_corks {d : Nat} {x : hX} {I : Nat → Nat → Int32} {ρ : zR} {δ : zD} {η : zH} {ft tr : Int32} {n : Int32} (hM : MI I (ρ, δ, η, ft, tr)) (hW : WF (ρ, δ, η, ft, tr)) : ci (d + 5) MX7_corks [.ref 80, .int n] (hp x I) (fun r h' => ∃ I', h' = hp x I' ∧ (∀ q, q < 80 → I' q = I q) ∧ MI I' (ρ, δ, η, ft, tr) ∧ r = sp_corks ρ n) := by
  have hR : isMd I ρ := hM.R
  have hw : wfR ρ := hW.1
  have b6 : zi ρ ≤ 6 := hw.1
  have b8 : zn ρ ≤ 8 := hw.2.1
  have bg : zg ρ ≤ 8 := hw.2.2.1
  have d8 : δ.1 ≤ 8 := hW.2.1.1
  refine c_in (L := [.ref 80, .int n, .null, .null, .null]) rfl rfl ?_
  refine r_s (pc' := 1) dX7_corks_0 rfl rfl ?_
  refine h_gi (pc' := 4) dX7_corks_1 rfl fX7_86 (hl_ rfl) rfl ?_
  refine r_top (hR.1) ?_
  refine r_ifne (pc' := 7) (tgt := 10) dX7_corks_4 rfl (by decide) (fun c4 => ?_) (fun c4 => ?_)
  · refine r_s (pc' := 11) dX7_corks_10 rfl rfl ?_
    refine r_s (pc' := 12) dX7_corks_11 rfl rfl ?_
    refine r_Vi1 (pc' := 15) dX7_corks_12 rfl lX7_168 (hl_ rfl) rfl rfl rfl rfl (Nat.le_of_ble_eq_true rfl) (Nat.le_of_ble_eq_true rfl) (ct_X7_noNight hR.2.1 hw.bn) (fun r12 h12 e12 => ?_)
    rcases e12 with ⟨rfl, rfl, j12, hj12, rfl⟩ | ⟨rfl, rfl, hn12⟩
    · refine r_ifeq_t (tgt := 21) dX7_corks_15 (by decide) (by decide) ?_
      have hz : 0 < zi ρ := Nat.pos_of_ne_zero (z1 c4)
      refine r_s (pc' := 22) dX7_corks_21 rfl rfl ?_
      refine r_s (pc' := 23) dX7_corks_22 rfl rfl ?_
      refine r_c (pc' := 24) dX7_corks_23 rfl kc_iconst_1 ?_
      refine r_s (pc' := 25) dX7_corks_24 rfl rfl ?_
      refine r_top (nI_1 j12) ?_
      refine r_Vv1 (pc' := 28) dX7_corks_25 rfl lX7_193 (hl_ rfl) rfl rfl rfl rfl (Nat.le_of_ble_eq_true rfl) (Nat.le_of_ble_eq_true rfl) (ct_X7_goNights (rm := 6) hR hw hz (by omega) hM.ck) (fun h25 e25 => ?_)
      obtain ⟨I1, rfl, a1, a2⟩ := e25
      refine r_s (pc' := 29) dX7_corks_28 rfl rfl ?_
      refine r_s (pc' := 30) dX7_corks_29 rfl rfl ?_
      refine h_gi (pc' := 33) dX7_corks_30 rfl fX7_86 (hl_ rfl) rfl ?_
      refine r_top ((hR.fr a2).1) ?_
      refine r_Vi1 (pc' := 36) dX7_corks_33 rfl lX7_196 (hl_ rfl) rfl rfl rfl rfl (Nat.le_of_ble_eq_true rfl) (Nat.le_of_ble_eq_true rfl) (ct_X7_inBeds (k := zi ρ) (A := (sim ρ 6 (zw ρ) (j12 + 1)).1) (hR.fr a2) hw a1.1 (sim_ok hw hz 6 (zw ρ) _).1 b6) (fun r33 h33 e33 => ?_)
      obtain ⟨rfl, rfl⟩ := e33
      refine r_Si1 (pc' := 39) dX7_corks_36 rfl lX7_215 rfl (Nat.le_of_ble_eq_true rfl) (Nat.le_of_ble_eq_true rfl) (ct_X7_bits (mA_lt bg)) (fun r36 h36 e36 => ?_)
      obtain ⟨rfl, rfl⟩ := e36
      refine r_st_2_5 (pc' := 40) dX7_corks_39 rfl rfl rfl ?_
      refine r_c (pc' := 41) dX7_corks_40 rfl kc_iconst_0 ?_
      refine r_st_3_5 (pc' := 42) dX7_corks_41 rfl rfl rfl ?_
      refine r_c (pc' := 43) dX7_corks_42 rfl kc_iconst_0 ?_
      refine r_st_4_5 (pc' := 45) dX7_corks_43 rfl rfl rfl ?_
      exact lp_X7_corks (I0 := I) hR hw hz hj12 hM.ck (fun I2 g2 => ⟨_, rfl, I2, rfl, g2.c, hM.fr g2, by rw [sp_corks, if_neg (z1 c4), if_pos (ok_in hj12 hw.bn), ix_nI (by omega)]⟩) (zi ρ) 0 I1 (by omega) ⟨a2.1, fun j hj _ => a2.2 j hj⟩
    · refine r_ifeq_f (pc' := 18) (tgt := 21) dX7_corks_15 rfl (by decide) (by decide) ?_
      refine r_c (pc' := 20) dX7_corks_18 rfl kc_bipush_m2 ?_
      refine r_reti dX7_corks_20 rfl (rfl) (Nat.le_of_ble_eq_true rfl) (Nat.le_of_ble_eq_true rfl) ⟨_, rfl, ?_⟩
      exact ⟨I, rfl, fun _ _ => rfl, hM, by rw [sp_corks, if_neg (z1 c4), ok_no hw.bn hn12]; rfl⟩
  · refine r_c (pc' := 9) dX7_corks_7 rfl kc_bipush_m3 ?_
    refine r_reti dX7_corks_9 rfl (rfl) (Nat.le_of_ble_eq_true rfl) (Nat.le_of_ble_eq_true rfl) ⟨_, rfl, ?_⟩
    exact ⟨I, rfl, fun _ _ => rfl, hM, by rw [sp_corks, if_pos (z0 c4 hw.bi)]⟩
