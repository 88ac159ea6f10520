def shQ (I : Nat → Nat → Int32) (q : Nat) (o : Option (Nat × Nat × (Nat → Int32))) : Prop := match o with
  | none => I q 1 = -1 ∧ I q 2 = 0
  | some (a, n, f) => I q 1 = nI a ∧ I q 2 = nI n ∧ ∀ i, i < n → I (q + 1) i = f i
theorem shC.Q {I : Nat → Nat → Int32} {k : Nat} {o : Option (Nat × Nat × (Nat → Int32))} (h : shC I k o) : shQ I (72 + 2 * k) o := by
  match o, h with
  | none, h => exact h
  | some (a, n, f), h => exact h
theorem shQ.C {I : Nat → Nat → Int32} {k : Nat} {o : Option (Nat × Nat × (Nat → Int32))} (h : shQ I (72 + 2 * k) o) : shC I k o := by
  match o, h with
  | none, h => exact h
  | some (a, n, f), h => exact h
/-- the bounds of a sheet -/
def okO (o : Option (Nat × Nat × (Nat → Int32))) : Prop := ∀ a n f, o = some (a, n, f) → a ≤ 2 ∧ n ≤ 60
def rowok (n : Nat) (i m : Int32) : Bool := decide (0 ≤ i.toInt ∧ 0 ≤ m.toInt ∧ i.toInt + m.toInt ≤ (n : Int))
theorem rowok_t {n i m : Nat} (h : i + m ≤ n) (hn : n < 2 ^ 31) : rowok n (nI i) (nI m) = true := by
  unfold rowok
  rw [nI_toInt (by omega), nI_toInt (by omega)]
  exact decide_eq_true (by omega)
theorem rowok_f {n : Nat} {i m : Int32} (h : ∀ i' m', i' + m' ≤ n → i = nI i' → m ≠ nI m') (hn : n < 2 ^ 31) : rowok n i m = false := by
  unfold rowok
  refine decide_eq_false (fun ⟨h1, h2, h3⟩ => ?_)
  have e1 := sw_i i i.toInt.toNat (by omega) (by omega)
  have e2 := sw_i m m.toInt.toNat (by omega) (by omega)
  exact h _ _ (by omega) e1 e2
def cut (a : Nat) (v : Int32) : Int32 := if a = 0 then v.toInt8.toInt32 else if a = 1 then v.toInt16.toInt32 else v
def hup (η : zH) (k : Nat) (o : Option (Nat × Nat × (Nat → Int32))) : zH := fun i => if i = k then o else η i
theorem CI.putH {I I' : Nat → Nat → Int32} {ρ : zR} {δ : zD} {η : zH} {f t : Int32} (h : CI I (ρ, δ, η, f, t)) (k : Nat) {o : Option (Nat × Nat × (Nat → Int32))} (hk : k < 4) (ho : shQ I' (72 + 2 * k) o) (hs : ∀ r, r ≠ 72 + 2 * k → r ≠ 72 + 2 * k + 1 → I' r = I r) : CI I' (ρ, δ, hup η k o, f, t) := by
  refine ⟨h.R.same (fun r h1 h2 => hs r (by omega) (by omega)), by rw [hs 2 (by omega) (by omega)]; exact h.rm, h.D.same (fun r h1 h2 => hs r (by omega) (by omega)), fun i hi => ?_, by rw [hs 0 (by omega) (by omega)]; exact h.f, by rw [hs 0 (by omega) (by omega)]; exact h.t⟩
  show shC I' i (if i = k then o else η i)
  by_cases e : i = k
  · subst e; rw [if_pos rfl]; exact ho.C
  · rw [if_neg e]; exact (h.S i hi).same (hs _ (by omega) (by omega)) (hs _ (by omega) (by omega))
abbrev zres : Type := zH × Int32 × Int32
def sp_sheet (η : zH) (k ln n : Int32) : zres := if ok k 4 = true then (if ok ln 3 = true ∧ n ≤ 60 then (if n < 0 then (η, 4, -14) else (hup η (ix k) (some (ix ln, ix n, fun _ => 0)), 0, 1)) else (η, 0, -2)) else (η, 0, -1)
def sp_lose (η : zH) (k : Int32) : zH × Int32 := if ok k 4 = true then (hup η (ix k) none, if (η (ix k)).isSome = true then 1 else 0) else (η, -1)
def sp_put (η : zH) (k i v : Int32) : zres := if ok k 4 = true then (match η (ix k) with
  | none => (η, 1, -11)
  | some (a, n, f) => if ok i n = true then (hup η (ix k) (some (a, n, upd f (ix i) (cut a v))), 0, 1) else (η, 3, -13)) else (η, 0, -1)
def LOSTv : Int64 := -9223372036854775808
def sp_cell (η : zH) (k i ln : Int32) : Int32 × Int64 := if ok k 4 = true ∧ ok ln 3 = true then (match η (ix k) with
  | none => (1, LOSTv)
  | some (a, n, f) => if nI a = ln then (if ok i n = true then (0, (f (ix i)).toInt64) else (3, LOSTv)) else (2, LOSTv)) else (0, LOSTv)
def sp_copy (η : zH) (k i o j n : Int32) : zres := if ok k 4 = true ∧ ok o 4 = true then (match η (ix k), η (ix o) with
  | some (a, nk, f), some (b, no, g) => if a = b then (if rowok nk i n = true ∧ rowok no j n = true then (hup η (ix o) (some (b, no, va_cpy f g (ix i) (ix j) (ix n))), 0, n) else (η, 3, -13)) else (η, 2, -12)
  | _, _ => (η, 1, -11)) else (η, 0, -1)

set_option maxHeartbeats 4000000 in
set_option maxRecDepth 100000 in
theorem ct_X3_clear {d : Nat} {x : hX} {I : Nat → Nat → Int32} {q : Nat} (hq : isS q) : cv (d + 1) MX3_clear [.ref q] (hp x I) (fun h' => h' = hp x (sm_up (sm_up I q 1 (-1)) q 2 0)) := by
  refine c_in (L := [.ref q]) rfl rfl ?_
  refine r_s (pc' := 1) dX3_clear_0 rfl rfl ?_
  refine r_c (pc' := 2) dX3_clear_1 rfl kc_iconst_m1 ?_
  refine h_pi (pc' := 5) dX3_clear_2 rfl fX3_15 rfl (hq).l (hq).K ?_
  refine r_s (pc' := 6) dX3_clear_5 rfl rfl ?_
  refine r_c (pc' := 7) dX3_clear_6 rfl kc_iconst_0 ?_
  refine h_pi (pc' := 10) dX3_clear_7 rfl fX3_19 rfl (hq).l (hq).K ?_
  refine r_retv dX3_clear_10 rfl (Nat.le_of_ble_eq_true rfl) (Nat.le_of_ble_eq_true rfl) ⟨rfl, ?_⟩
  exact rfl

set_option maxHeartbeats 4000000 in
set_option maxRecDepth 100000 in
theorem ct_X3_isThere {d : Nat} {x : hX} {I : Nat → Nat → Int32} {o : Option (Nat × Nat × (Nat → Int32))} {q : Nat} (hq : isS q) (hs : shQ I q o) (hb : okO o) : ci (d + 1) MX3_isThere [.ref q] (hp x I) (fun r h' => (h' = hp x I ∧ r = 1 ∧ ∃ a n f, o = some (a, n, f)) ∨ (h' = hp x I ∧ r = 0 ∧ o = none)) := by
  refine c_in (L := [.ref q]) rfl rfl ?_
  refine r_s (pc' := 1) dX3_isThere_0 rfl rfl ?_
  refine h_gi (pc' := 4) dX3_isThere_1 rfl fX3_15 (hq).l (hq).K ?_
  refine r_c (pc' := 5) dX3_isThere_4 rfl kc_iconst_m1 ?_
  refine r_ceq (pc' := 8) (tgt := 12) dX3_isThere_5 rfl (by decide) (fun c5 => ?_) (fun c5 => ?_)
  · refine r_c (pc' := 13) dX3_isThere_12 rfl kc_iconst_0 ?_
    refine r_reti dX3_isThere_13 rfl (rfl) (Nat.le_of_ble_eq_true rfl) (Nat.le_of_ble_eq_true rfl) ⟨_, rfl, ?_⟩
    match o, hs, hb with
    | none, hs, _ => exact Or.inr ⟨rfl, rfl, rfl⟩
    | some (a, n, f), hs, hb => exact absurd (hs.1.symm.trans c5) ((by decide : ∀ a, a < 3 → nI a ≠ -1) a (by have := (hb a n f rfl).1; omega))
  · refine r_c (pc' := 9) dX3_isThere_8 rfl kc_iconst_1 ?_
    refine r_goto (tgt := 13) dX3_isThere_9 (by decide) ?_
    refine r_reti dX3_isThere_13 rfl (rfl) (Nat.le_of_ble_eq_true rfl) (Nat.le_of_ble_eq_true rfl) ⟨_, rfl, ?_⟩
    match o, hs with
    | none, hs => exact absurd hs.1 c5
    | some (a, n, f), hs => exact Or.inl ⟨rfl, rfl, a, n, f, rfl⟩

set_option maxHeartbeats 4000000 in
set_option maxRecDepth 100000 in
theorem ct_X3_hasCell {d : Nat} {x : hX} {I : Nat → Nat → Int32} {n : Nat} {i : Int32} {q : Nat} (hq : isS q) (hn : I q 2 = nI n) (hb : n < 2 ^ 31) : ci (d + 1) MX3_hasCell [.ref q, .int i] (hp x I) (fun r h' => (h' = hp x I ∧ r = 1 ∧ ∃ j, j < n ∧ i = nI j) ∨ (h' = hp x I ∧ r = 0 ∧ ∀ j, j < n → i ≠ nI j)) := by
  refine c_in (L := [.ref q, .int i]) rfl rfl ?_
  refine r_s (pc' := 1) dX3_hasCell_0 rfl rfl ?_
  refine r_iflt (pc' := 4) (tgt := 16) dX3_hasCell_1 rfl (by decide) (fun c1 => ?_) (fun c1 => ?_)
  · refine r_c (pc' := 17) dX3_hasCell_16 rfl kc_iconst_0 ?_
    refine r_reti dX3_hasCell_17 rfl (rfl) (Nat.le_of_ble_eq_true rfl) (Nat.le_of_ble_eq_true rfl) ⟨_, rfl, ?_⟩
    exact Or.inr ⟨rfl, rfl, x_lo c1 hb⟩
  · refine r_s (pc' := 5) dX3_hasCell_4 rfl rfl ?_
    refine r_s (pc' := 6) dX3_hasCell_5 rfl rfl ?_
    refine h_gi (pc' := 9) dX3_hasCell_6 rfl fX3_19 (hq).l (hq).K ?_
    refine r_top (hn) ?_
    refine r_cge (pc' := 12) (tgt := 16) dX3_hasCell_9 rfl (by decide) (fun c9 => ?_) (fun c9 => ?_)
    · refine r_c (pc' := 17) dX3_hasCell_16 rfl kc_iconst_0 ?_
      refine r_reti dX3_hasCell_17 rfl (rfl) (Nat.le_of_ble_eq_true rfl) (Nat.le_of_ble_eq_true rfl) ⟨_, rfl, ?_⟩
      exact Or.inr ⟨rfl, rfl, x_hi c9 hb⟩
    · refine r_c (pc' := 13) dX3_hasCell_12 rfl kc_iconst_1 ?_
      refine r_goto (tgt := 17) dX3_hasCell_13 (by decide) ?_
      refine r_reti dX3_hasCell_17 rfl (rfl) (Nat.le_of_ble_eq_true rfl) (Nat.le_of_ble_eq_true rfl) ⟨_, rfl, ?_⟩
      exact Or.inl ⟨rfl, rfl, x_in ‹_› (x_nle ‹_›) hb⟩

set_option maxHeartbeats 4000000 in
set_option maxRecDepth 100000 in
theorem ct_X3_hasCells {d : Nat} {x : hX} {I : Nat → Nat → Int32} {n : Nat} {i m : Int32} {q : Nat} (hq : isS q) (hn : I q 2 = nI n) (hb : n + 1 < 2 ^ 31) : ci (d + 1) MX3_hasCells [.ref q, .int i, .int m] (hp x I) (fun r h' => (h' = hp x I ∧ r = 1 ∧ ∃ a b, a + b ≤ n ∧ i = nI a ∧ m = nI b) ∨ (h' = hp x I ∧ r = 0 ∧ rowok n i m = false)) := by
  refine c_in (L := [.ref q, .int i, .int m]) rfl rfl ?_
  refine r_s (pc' := 1) dX3_hasCells_0 rfl rfl ?_
  refine r_iflt (pc' := 4) (tgt := 30) dX3_hasCells_1 rfl (by decide) (fun c1 => ?_) (fun c1 => ?_)
  · refine r_c (pc' := 31) dX3_hasCells_30 rfl kc_iconst_0 ?_
    refine r_reti dX3_hasCells_31 rfl (rfl) (Nat.le_of_ble_eq_true rfl) (Nat.le_of_ble_eq_true rfl) ⟨_, rfl, ?_⟩
    exact Or.inr ⟨rfl, rfl, rowok_f (fun a b h e => by subst e; exact absurd c1 (nI_pos (by omega))) (by omega)⟩
  · refine r_s (pc' := 5) dX3_hasCells_4 rfl rfl ?_
    refine r_s (pc' := 6) dX3_hasCells_5 rfl rfl ?_
    refine h_gi (pc' := 9) dX3_hasCells_6 rfl fX3_19 (hq).l (hq).K ?_
    refine r_top (hn) ?_
    refine r_cgt (pc' := 12) (tgt := 30) dX3_hasCells_9 rfl (by decide) (fun c9 => ?_) (fun c9 => ?_)
    · refine r_c (pc' := 31) dX3_hasCells_30 rfl kc_iconst_0 ?_
      refine r_reti dX3_hasCells_31 rfl (rfl) (Nat.le_of_ble_eq_true rfl) (Nat.le_of_ble_eq_true rfl) ⟨_, rfl, ?_⟩
      exact Or.inr ⟨rfl, rfl, rowok_f (fun a b h e => by subst e; exact absurd c9 (nI_nlt (by omega) (by omega))) (by omega)⟩
    · refine r_s (pc' := 13) dX3_hasCells_12 rfl rfl ?_
      refine r_iflt (pc' := 16) (tgt := 30) dX3_hasCells_13 rfl (by decide) (fun c13 => ?_) (fun c13 => ?_)
      · refine r_c (pc' := 31) dX3_hasCells_30 rfl kc_iconst_0 ?_
        refine r_reti dX3_hasCells_31 rfl (rfl) (Nat.le_of_ble_eq_true rfl) (Nat.le_of_ble_eq_true rfl) ⟨_, rfl, ?_⟩
        exact Or.inr ⟨rfl, rfl, rowok_f (fun a b h e e2 => by subst e2; exact absurd c13 (nI_pos (by omega))) (by omega)⟩
      · refine r_s (pc' := 17) dX3_hasCells_16 rfl rfl ?_
        refine r_s (pc' := 18) dX3_hasCells_17 rfl rfl ?_
        refine h_gi (pc' := 21) dX3_hasCells_18 rfl fX3_19 (hq).l (hq).K ?_
        refine r_top (hn) ?_
        refine r_s (pc' := 22) dX3_hasCells_21 rfl rfl ?_
        refine r_s (pc' := 23) dX3_hasCells_22 rfl rfl ?_
        refine r_cgt (pc' := 26) (tgt := 30) dX3_hasCells_23 rfl (by decide) (fun c23 => ?_) (fun c23 => ?_)
        · refine r_c (pc' := 31) dX3_hasCells_30 rfl kc_iconst_0 ?_
          refine r_reti dX3_hasCells_31 rfl (rfl) (Nat.le_of_ble_eq_true rfl) (Nat.le_of_ble_eq_true rfl) ⟨_, rfl, ?_⟩
          obtain ⟨a, ha, rfl⟩ := x_in' c1 (x_nlt c9) hb
          have es : nI n - nI a = nI (n - a) := pk_sub (by omega)
          rw [es] at c23
          exact Or.inr ⟨rfl, rfl, rowok_f (fun a2 b h e e2 => by
            have := (nI_eq (by omega) (by omega)).mp e
            subst e2
            exact absurd c23 (nI_nlt (by omega) (by omega))) (by omega)⟩
        · refine r_c (pc' := 27) dX3_hasCells_26 rfl kc_iconst_1 ?_
          refine r_goto (tgt := 31) dX3_hasCells_27 (by decide) ?_
          refine r_reti dX3_hasCells_31 rfl (rfl) (Nat.le_of_ble_eq_true rfl) (Nat.le_of_ble_eq_true rfl) ⟨_, rfl, ?_⟩
          obtain ⟨a, ha, rfl⟩ := x_in' c1 (x_nlt c9) hb
          have es : nI n - nI a = nI (n - a) := pk_sub (by omega)
          rw [es] at c23
          obtain ⟨b, hb2, rfl⟩ := x_in' c13 (x_nlt c23) (by omega)
          exact Or.inl ⟨rfl, rfl, a, b, by omega, rfl, rfl⟩

set_option maxHeartbeats 4000000 in
set_option maxRecDepth 100000 in
theorem ct_X3_write {d : Nat} {x : hX} {I : Nat → Nat → Int32} {j a : Nat} {v : Int32} {q : Nat} (hq : isS q) (hj : j < 60) (ha : I q 1 = nI a) (ha2 : a ≤ 2) : cv (d + 1) MX3_write [.ref q, .int (nI j), .int v] (hp x I) (fun h' => h' = hp x (sm_up I (q + 1) j (cut a v))) := by
  refine c_in (L := [.ref q, .int (nI j), .int v]) rfl rfl ?_
  refine r_s (pc' := 1) dX3_write_0 rfl rfl ?_
  refine r_gr (pc' := 4) dX3_write_1 rfl fX3_9 (hq).l (hq).K (hq).r0 ?_
  refine r_s (pc' := 5) dX3_write_4 rfl rfl ?_
  refine r_s (pc' := 6) dX3_write_5 rfl rfl ?_
  refine h_gi (pc' := 9) dX3_write_6 rfl fX3_15 (hq).l (hq).K ?_
  refine r_top (ha) ?_
  refine r_ifne (pc' := 12) (tgt := 17) dX3_write_9 rfl (by decide) (fun c9 => ?_) (fun c9 => ?_)
  · refine r_s (pc' := 18) dX3_write_17 rfl rfl ?_
    refine h_gi (pc' := 21) dX3_write_18 rfl fX3_15 (hq).l (hq).K ?_
    refine r_top (ha) ?_
    refine r_c (pc' := 22) dX3_write_21 rfl kc_iconst_1 ?_
    refine r_cne (pc' := 25) (tgt := 30) dX3_write_22 rfl (by decide) (fun c22 => ?_) (fun c22 => ?_)
    · refine r_s (pc' := 31) dX3_write_30 rfl rfl ?_
      refine h_ast (pc' := 32) dX3_write_31 rfl (hq).la (hq).k1 (vp_in_nI (by omega) (by decide)) (nI_clamp (by omega)) ?_
      refine r_retv dX3_write_32 rfl (Nat.le_of_ble_eq_true rfl) (Nat.le_of_ble_eq_true rfl) ⟨rfl, ?_⟩
      rw [cut, if_neg (fun e => c9 (by rw [e]; rfl)), if_neg (fun e => c22 (by rw [e]; rfl))]
    · refine r_s (pc' := 26) dX3_write_25 rfl rfl ?_
      refine r_s (pc' := 27) dX3_write_26 rfl rfl ?_
      refine r_goto (tgt := 31) dX3_write_27 (by decide) ?_
      refine h_ast (pc' := 32) dX3_write_31 rfl (hq).la (hq).k1 (vp_in_nI (by omega) (by decide)) (nI_clamp (by omega)) ?_
      refine r_retv dX3_write_32 rfl (Nat.le_of_ble_eq_true rfl) (Nat.le_of_ble_eq_true rfl) ⟨rfl, ?_⟩
      rw [cut, if_neg (fun e => c9 (by rw [e]; rfl)), if_pos ((nI_eq (by omega) (by decide)).mp c22)]
  · refine r_s (pc' := 13) dX3_write_12 rfl rfl ?_
    refine r_s (pc' := 14) dX3_write_13 rfl rfl ?_
    refine r_goto (tgt := 31) dX3_write_14 (by decide) ?_
    refine h_ast (pc' := 32) dX3_write_31 rfl (hq).la (hq).k1 (vp_in_nI (by omega) (by decide)) (nI_clamp (by omega)) ?_
    refine r_retv dX3_write_32 rfl (Nat.le_of_ble_eq_true rfl) (Nat.le_of_ble_eq_true rfl) ⟨rfl, ?_⟩
    rw [cut, if_pos ((nI_eq (by omega) (by decide)).mp c9)]

set_option maxHeartbeats 4000000 in
set_option maxRecDepth 100000 in
theorem lp_X3_renew {call : sm_K} {Q : sm_Q} {x : hX} {q : Nat} {a n : Int32} {I0 : Nat → Nat → Int32} (hq : isS q) (hQ : ∀ I, I q = I0 q → (∀ j, j < 60 → I (q + 1) j = 0) → (∀ r, r ≠ q + 1 → I r = I0 r) → Q none (hp x I)) : ∀ (m i : Nat) (I : Nat → Nat → Int32), i + m = 60 → (∀ j, j < i → I (q + 1) j = 0) → (∀ r, r ≠ q + 1 → I r = I0 r) → sm_wp call 0 0 MX3_renew Q 12 [.ref q, .int a, .int n, .int (nI i)] [] (hp x I) 0 0 := by
  intro m
  induction m with
  | zero =>
    intro i I hi h1 h2
    have hin : i = 60 := by omega
    subst hin
    refine r_s (pc' := 13) dX3_renew_12 rfl rfl ?_
    refine r_c (pc' := 15) dX3_renew_13 rfl kc_bipush_60 ?_
    refine r_cge_t (tgt := 31) dX3_renew_15 (by decide) (by decide) ?_
    refine r_retv dX3_renew_31 rfl (Nat.le_of_ble_eq_true rfl) (Nat.le_of_ble_eq_true rfl) ?_
    exact hQ I (h2 q (by omega)) h1 h2
  | succ m ih =>
    intro i I hi h1 h2
    refine r_s (pc' := 13) dX3_renew_12 rfl rfl ?_
    refine r_c (pc' := 15) dX3_renew_13 rfl kc_bipush_60 ?_
    refine r_cge_f (pc' := 18) (tgt := 31) dX3_renew_15 rfl (by decide) (nI_ge (b := 60) (by omega) (by decide)) ?_
    refine r_s (pc' := 19) dX3_renew_18 rfl rfl ?_
    refine r_gr (pc' := 22) dX3_renew_19 rfl fX3_9 (hq).l (hq).K (hq).r0 ?_
    refine r_s (pc' := 23) dX3_renew_22 rfl rfl ?_
    refine r_c (pc' := 24) dX3_renew_23 rfl kc_iconst_0 ?_
    refine h_ast (pc' := 25) dX3_renew_24 rfl (hq).la (hq).k1 (vp_in_nI (by omega) (by decide)) (nI_clamp (by omega)) ?_
    refine r_in_3_4 (pc' := 28) dX3_renew_25 rfl rfl (i1 _) ?_
    refine r_goto (tgt := 12) dX3_renew_28 (by decide) ?_
    refine ih (i + 1) _ (by omega) (fun j hj => ?_) (fun r hr => by rw [up_o hr]; exact h2 r hr)
    by_cases e : j = i
    · subst e; exact up_s
    · rw [up_n e]; exact h1 j (by omega)

set_option maxHeartbeats 4000000 in
set_option maxRecDepth 100000 in
theorem ct_X3_renew {d : Nat} {x : hX} {I : Nat → Nat → Int32} {a n : Int32} {q : Nat} (hq : isS q) : cv (d + 1) MX3_renew [.ref q, .int a, .int n] (hp x I) (fun h' => ∃ I', h' = hp x I' ∧ I' q 1 = a ∧ I' q 2 = n ∧ (∀ j, j < 60 → I' (q + 1) j = 0) ∧ (∀ r, r ≠ q → r ≠ q + 1 → I' r = I r)) := by
  refine c_in (L := [.ref q, .int a, .int n, .null]) rfl rfl ?_
  refine r_s (pc' := 1) dX3_renew_0 rfl rfl ?_
  refine r_s (pc' := 2) dX3_renew_1 rfl rfl ?_
  refine h_pi (pc' := 5) dX3_renew_2 rfl fX3_15 rfl (hq).l (hq).K ?_
  refine r_s (pc' := 6) dX3_renew_5 rfl rfl ?_
  refine r_s (pc' := 7) dX3_renew_6 rfl rfl ?_
  refine h_pi (pc' := 10) dX3_renew_7 rfl fX3_19 rfl (hq).l (hq).K ?_
  refine r_c (pc' := 11) dX3_renew_10 rfl kc_iconst_0 ?_
  refine r_st_3_4 (pc' := 12) dX3_renew_11 rfl rfl rfl ?_
  exact lp_X3_renew (I0 := sm_up (sm_up I q 1 a) q 2 n) hq (fun I1 e1 e2 e3 => ⟨rfl, I1, rfl, by rw [e1, up_n (by decide), up_s], by rw [e1, up_s], e2, fun r h1 h2 => by rw [e3 r h2, up_o h1, up_o h1]⟩) 60 0 _ (by omega) (fun j hj => absurd hj (by omega)) (fun r _ => rfl)

set_option maxHeartbeats 4000000 in
set_option maxRecDepth 100000 in
theorem ct_X3_faultOfLane {d : Nat} {x : hX} {I : Nat → Nat → Int32} {o : Option (Nat × Nat × (Nat → Int32))} {ln : Int32} {q : Nat} (hq : isS q) (hs : shQ I q o) (hb : okO o) : ci (d + 2) MX3_faultOfLane [.ref q, .int ln] (hp x I) (fun r h' => (h' = hp x I ∧ r = 1 ∧ o = none) ∨ (h' = hp x I ∧ r = 0 ∧ ∃ a n f, o = some (a, n, f) ∧ ln = nI a) ∨ (h' = hp x I ∧ r = 2 ∧ ∃ a n f, o = some (a, n, f) ∧ ¬ nI a = ln)) := by
  refine c_in (L := [.ref q, .int ln]) rfl rfl ?_
  refine r_s (pc' := 1) dX3_faultOfLane_0 rfl rfl ?_
  refine r_Vi0 (pc' := 4) dX3_faultOfLane_1 rfl lX3_34 (hq).l (hq).K rfl rfl rfl (Nat.le_of_ble_eq_true rfl) (Nat.le_of_ble_eq_true rfl) (ct_X3_isThere hq hs hb) (fun r1 h1 e1 => ?_)
  rcases e1 with ⟨rfl, rfl, a, n, f, rfl⟩ | ⟨rfl, rfl, rfl⟩
  · refine r_ifne_t (tgt := 9) dX3_faultOfLane_4 (by decide) (by decide) ?_
    refine r_s (pc' := 10) dX3_faultOfLane_9 rfl rfl ?_
    refine h_gi (pc' := 13) dX3_faultOfLane_10 rfl fX3_15 (hq).l (hq).K ?_
    refine r_top (hs.1) ?_
    refine r_s (pc' := 14) dX3_faultOfLane_13 rfl rfl ?_
    refine r_cne (pc' := 17) (tgt := 21) dX3_faultOfLane_14 rfl (by decide) (fun c14 => ?_) (fun c14 => ?_)
    · refine r_c (pc' := 22) dX3_faultOfLane_21 rfl kc_iconst_2 ?_
      refine r_reti dX3_faultOfLane_22 rfl (rfl) (Nat.le_of_ble_eq_true rfl) (Nat.le_of_ble_eq_true rfl) ⟨_, rfl, ?_⟩
      exact Or.inr (Or.inr ⟨rfl, rfl, a, n, f, rfl, c14⟩)
    · refine r_c (pc' := 18) dX3_faultOfLane_17 rfl kc_iconst_0 ?_
      refine r_goto (tgt := 22) dX3_faultOfLane_18 (by decide) ?_
      refine r_reti dX3_faultOfLane_22 rfl (rfl) (Nat.le_of_ble_eq_true rfl) (Nat.le_of_ble_eq_true rfl) ⟨_, rfl, ?_⟩
      exact Or.inr (Or.inl ⟨rfl, rfl, a, n, f, rfl, c14.symm⟩)
  · refine r_ifne_f (pc' := 7) (tgt := 9) dX3_faultOfLane_4 rfl (by decide) (by decide) ?_
    refine r_c (pc' := 8) dX3_faultOfLane_7 rfl kc_iconst_1 ?_
    refine r_reti dX3_faultOfLane_8 rfl (rfl) (Nat.le_of_ble_eq_true rfl) (Nat.le_of_ble_eq_true rfl) ⟨_, rfl, ?_⟩
    exact Or.inl ⟨rfl, rfl, rfl⟩

set_option maxHeartbeats 4000000 in
set_option maxRecDepth 100000 in
theorem ct_X3_faultOfCell {d : Nat} {x : hX} {I : Nat → Nat → Int32} {o : Option (Nat × Nat × (Nat → Int32))} {ln i : Int32} {q : Nat} (hq : isS q) (hs : shQ I q o) (hb : okO o) : ci (d + 3) MX3_faultOfCell [.ref q, .int ln, .int i] (hp x I) (fun r h' => (h' = hp x I ∧ r = 1 ∧ o = none) ∨ (h' = hp x I ∧ r = 2 ∧ ∃ a n f, o = some (a, n, f) ∧ ¬ nI a = ln) ∨ (h' = hp x I ∧ r = 3 ∧ ∃ a n f, o = some (a, n, f) ∧ ln = nI a ∧ ∀ j, j < n → i ≠ nI j) ∨ (h' = hp x I ∧ r = 0 ∧ ∃ a n f j, o = some (a, n, f) ∧ ln = nI a ∧ j < n ∧ i = nI j)) := by
  refine c_in (L := [.ref q, .int ln, .int i, .null]) rfl rfl ?_
  refine r_s (pc' := 1) dX3_faultOfCell_0 rfl rfl ?_
  refine r_s (pc' := 2) dX3_faultOfCell_1 rfl rfl ?_
  refine r_Vi1 (pc' := 5) dX3_faultOfCell_2 rfl lX3_22 (hq).l (hq).K rfl rfl rfl (Nat.le_of_ble_eq_true rfl) (Nat.le_of_ble_eq_true rfl) (ct_X3_faultOfLane hq hs hb) (fun r2 h2 e2 => ?_)
  rcases e2 with ⟨rfl, rfl, rfl⟩ | ⟨rfl, rfl, a, n, f, rfl, rfl⟩ | ⟨rfl, rfl, a, n, f, rfl, hln⟩
  · refine r_st_3_4 (pc' := 6) dX3_faultOfCell_5 rfl rfl rfl ?_
    refine r_s (pc' := 7) dX3_faultOfCell_6 rfl rfl ?_
    refine r_ifeq_f (pc' := 10) (tgt := 12) dX3_faultOfCell_7 rfl (by decide) (by decide) ?_
    refine r_s (pc' := 11) dX3_faultOfCell_10 rfl rfl ?_
    refine r_reti dX3_faultOfCell_11 rfl (rfl) (Nat.le_of_ble_eq_true rfl) (Nat.le_of_ble_eq_true rfl) ⟨_, rfl, ?_⟩
    exact Or.inl ⟨rfl, rfl, rfl⟩
  · refine r_st_3_4 (pc' := 6) dX3_faultOfCell_5 rfl rfl rfl ?_
    refine r_s (pc' := 7) dX3_faultOfCell_6 rfl rfl ?_
    refine r_ifeq_t (tgt := 12) dX3_faultOfCell_7 (by decide) (by decide) ?_
    refine r_s (pc' := 13) dX3_faultOfCell_12 rfl rfl ?_
    refine r_s (pc' := 14) dX3_faultOfCell_13 rfl rfl ?_
    refine r_Vi1 (pc' := 17) dX3_faultOfCell_14 rfl lX3_26 (hq).l (hq).K rfl rfl rfl (Nat.le_of_ble_eq_true rfl) (Nat.le_of_ble_eq_true rfl) (ct_X3_hasCell hq hs.2.1 (by have := (hb a n f rfl).2; omega)) (fun r14 h14 e14 => ?_)
    rcases e14 with ⟨rfl, rfl, j14, hj14, rfl⟩ | ⟨rfl, rfl, hn14⟩
    · refine r_ifeq_f (pc' := 20) (tgt := 24) dX3_faultOfCell_17 rfl (by decide) (by decide) ?_
      refine r_c (pc' := 21) dX3_faultOfCell_20 rfl kc_iconst_0 ?_
      refine r_goto (tgt := 25) dX3_faultOfCell_21 (by decide) ?_
      refine r_reti dX3_faultOfCell_25 rfl (rfl) (Nat.le_of_ble_eq_true rfl) (Nat.le_of_ble_eq_true rfl) ⟨_, rfl, ?_⟩
      exact Or.inr (Or.inr (Or.inr ⟨rfl, rfl, a, n, f, j14, rfl, rfl, hj14, rfl⟩))
    · refine r_ifeq_t (tgt := 24) dX3_faultOfCell_17 (by decide) (by decide) ?_
      refine r_c (pc' := 25) dX3_faultOfCell_24 rfl kc_iconst_3 ?_
      refine r_reti dX3_faultOfCell_25 rfl (rfl) (Nat.le_of_ble_eq_true rfl) (Nat.le_of_ble_eq_true rfl) ⟨_, rfl, ?_⟩
      exact Or.inr (Or.inr (Or.inl ⟨rfl, rfl, a, n, f, rfl, rfl, hn14⟩))
  · refine r_st_3_4 (pc' := 6) dX3_faultOfCell_5 rfl rfl rfl ?_
    refine r_s (pc' := 7) dX3_faultOfCell_6 rfl rfl ?_
    refine r_ifeq_f (pc' := 10) (tgt := 12) dX3_faultOfCell_7 rfl (by decide) (by decide) ?_
    refine r_s (pc' := 11) dX3_faultOfCell_10 rfl rfl ?_
    refine r_reti dX3_faultOfCell_11 rfl (rfl) (Nat.le_of_ble_eq_true rfl) (Nat.le_of_ble_eq_true rfl) ⟨_, rfl, ?_⟩
    exact Or.inr (Or.inl ⟨rfl, rfl, a, n, f, rfl, hln⟩)

set_option maxHeartbeats 4000000 in
set_option maxRecDepth 100000 in
theorem ct_X3_faultOfRow {d : Nat} {x : hX} {I : Nat → Nat → Int32} {o : Option (Nat × Nat × (Nat → Int32))} {ln i m : Int32} {q : Nat} (hq : isS q) (hs : shQ I q o) (hb : okO o) : ci (d + 3) MX3_faultOfRow [.ref q, .int ln, .int i, .int m] (hp x I) (fun r h' => (h' = hp x I ∧ r = 1 ∧ o = none) ∨ (h' = hp x I ∧ r = 2 ∧ ∃ a n f, o = some (a, n, f) ∧ ¬ nI a = ln) ∨ (h' = hp x I ∧ r = 4 ∧ ∃ a n f, o = some (a, n, f) ∧ ln = nI a ∧ m < 0) ∨ (h' = hp x I ∧ r = 3 ∧ ∃ a n f, o = some (a, n, f) ∧ ln = nI a ∧ ¬ m < 0 ∧ rowok n i m = false) ∨ (h' = hp x I ∧ r = 0 ∧ ∃ a n f i1 m1, o = some (a, n, f) ∧ ln = nI a ∧ i1 + m1 ≤ n ∧ i = nI i1 ∧ m = nI m1)) := by
  refine c_in (L := [.ref q, .int ln, .int i, .int m, .null]) rfl rfl ?_
  refine r_s (pc' := 1) dX3_faultOfRow_0 rfl rfl ?_
  refine r_s (pc' := 2) dX3_faultOfRow_1 rfl rfl ?_
  refine r_Vi1 (pc' := 5) dX3_faultOfRow_2 rfl lX3_22 (hq).l (hq).K rfl rfl rfl (Nat.le_of_ble_eq_true rfl) (Nat.le_of_ble_eq_true rfl) (ct_X3_faultOfLane hq hs hb) (fun r2 h2 e2 => ?_)
  rcases e2 with ⟨rfl, rfl, rfl⟩ | ⟨rfl, rfl, a, n, f, rfl, rfl⟩ | ⟨rfl, rfl, a, n, f, rfl, hln⟩
  · refine r_st_4_5 (pc' := 7) dX3_faultOfRow_5 rfl rfl rfl ?_
    refine r_s (pc' := 9) dX3_faultOfRow_7 rfl rfl ?_
    refine r_ifeq_f (pc' := 12) (tgt := 15) dX3_faultOfRow_9 rfl (by decide) (by decide) ?_
    refine r_s (pc' := 14) dX3_faultOfRow_12 rfl rfl ?_
    refine r_reti dX3_faultOfRow_14 rfl (rfl) (Nat.le_of_ble_eq_true rfl) (Nat.le_of_ble_eq_true rfl) ⟨_, rfl, ?_⟩
    exact Or.inl ⟨rfl, rfl, rfl⟩
  · refine r_st_4_5 (pc' := 7) dX3_faultOfRow_5 rfl rfl rfl ?_
    refine r_s (pc' := 9) dX3_faultOfRow_7 rfl rfl ?_
    refine r_ifeq_t (tgt := 15) dX3_faultOfRow_9 (by decide) (by decide) ?_
    refine r_s (pc' := 16) dX3_faultOfRow_15 rfl rfl ?_
    refine r_ifge (pc' := 19) (tgt := 21) dX3_faultOfRow_16 rfl (by decide) (fun c16 => ?_) (fun c16 => ?_)
    · refine r_s (pc' := 22) dX3_faultOfRow_21 rfl rfl ?_
      refine r_s (pc' := 23) dX3_faultOfRow_22 rfl rfl ?_
      refine r_s (pc' := 24) dX3_faultOfRow_23 rfl rfl ?_
      refine r_Vi2 (pc' := 27) dX3_faultOfRow_24 rfl lX3_30 (hq).l (hq).K rfl rfl rfl (Nat.le_of_ble_eq_true rfl) (Nat.le_of_ble_eq_true rfl) (ct_X3_hasCells hq hs.2.1 (by have := (hb a n f rfl).2; omega)) (fun r24 h24 e24 => ?_)
      rcases e24 with ⟨rfl, rfl, i1, m1, him, rfl, rfl⟩ | ⟨rfl, rfl, hn24⟩
      · refine r_ifeq_f (pc' := 30) (tgt := 34) dX3_faultOfRow_27 rfl (by decide) (by decide) ?_
        refine r_c (pc' := 31) dX3_faultOfRow_30 rfl kc_iconst_0 ?_
        refine r_goto (tgt := 35) dX3_faultOfRow_31 (by decide) ?_
        refine r_reti dX3_faultOfRow_35 rfl (rfl) (Nat.le_of_ble_eq_true rfl) (Nat.le_of_ble_eq_true rfl) ⟨_, rfl, ?_⟩
        exact Or.inr (Or.inr (Or.inr (Or.inr ⟨rfl, rfl, a, n, f, i1, m1, rfl, rfl, him, rfl, rfl⟩)))
      · refine r_ifeq_t (tgt := 34) dX3_faultOfRow_27 (by decide) (by decide) ?_
        refine r_c (pc' := 35) dX3_faultOfRow_34 rfl kc_iconst_3 ?_
        refine r_reti dX3_faultOfRow_35 rfl (rfl) (Nat.le_of_ble_eq_true rfl) (Nat.le_of_ble_eq_true rfl) ⟨_, rfl, ?_⟩
        exact Or.inr (Or.inr (Or.inr (Or.inl ⟨rfl, rfl, a, n, f, rfl, rfl, Int32.not_lt.mpr c16, hn24⟩)))
    · refine r_c (pc' := 20) dX3_faultOfRow_19 rfl kc_iconst_4 ?_
      refine r_reti dX3_faultOfRow_20 rfl (rfl) (Nat.le_of_ble_eq_true rfl) (Nat.le_of_ble_eq_true rfl) ⟨_, rfl, ?_⟩
      exact Or.inr (Or.inr (Or.inl ⟨rfl, rfl, a, n, f, rfl, rfl, x_nle c16⟩))
  · refine r_st_4_5 (pc' := 7) dX3_faultOfRow_5 rfl rfl rfl ?_
    refine r_s (pc' := 9) dX3_faultOfRow_7 rfl rfl ?_
    refine r_ifeq_f (pc' := 12) (tgt := 15) dX3_faultOfRow_9 rfl (by decide) (by decide) ?_
    refine r_s (pc' := 14) dX3_faultOfRow_12 rfl rfl ?_
    refine r_reti dX3_faultOfRow_14 rfl (rfl) (Nat.le_of_ble_eq_true rfl) (Nat.le_of_ble_eq_true rfl) ⟨_, rfl, ?_⟩
    exact Or.inr (Or.inl ⟨rfl, rfl, a, n, f, rfl, hln⟩)

set_option maxHeartbeats 4000000 in
set_option maxRecDepth 100000 in
theorem pc_sheet {d : Nat} {x : hX} {I : Nat → Nat → Int32} {ρ : zR} {δ : zD} {η : zH} {ft tr : Int32} {k ln n : Int32} (hC : CI I (ρ, δ, η, ft, tr)) (hW : WF (ρ, δ, η, ft, tr)) : ci (d + 2) MX6_sheet [.ref 0, .int k, .int ln, .int n] (hp x I) (fun r h' => ∃ I', h' = hp x I' ∧ (∀ q, 80 ≤ q → I' q = I q) ∧ CI I' (ρ, δ, (sp_sheet η k ln n).1, (sp_sheet η k ln n).2.1, tr) ∧ r = (sp_sheet η k ln n).2.2) := by
  have hR : isRd I 2 ρ := hC.R
  have hw : wfR ρ := hW.1
  have b6 : zi ρ ≤ 6 := hw.1
  have b8 : zn ρ ≤ 8 := hw.2.1
  have bg : zg ρ ≤ 8 := hw.2.2.1
  have d8 : δ.1 ≤ 8 := hW.2.1.1
  have hSh : ∀ k, k < 4 → shC I k (η k) := hC.S
  have hWh : ∀ k, k < 4 → okO (η k) := fun k hk a n f e => hW.2.2 k hk a n f e
  have hS1 : CI (sm_up I 0 6 0) (ρ, δ, η, 0, tr) := hC.upf 0
  have hSh1 : ∀ k, k < 4 → shC (sm_up I 0 6 0) k (η k) := hS1.S
  refine c_in (L := [.ref 0, .int k, .int ln, .int n]) rfl rfl ?_
  refine r_s (pc' := 1) dX6_sheet_0 rfl rfl ?_
  refine r_c (pc' := 2) dX6_sheet_1 rfl kc_iconst_0 ?_
  refine h_pi (pc' := 5) dX6_sheet_2 rfl fX6_52 rfl (hl_ rfl) rfl ?_
  refine r_s (pc' := 6) dX6_sheet_5 rfl rfl ?_
  refine r_Si1 (pc' := 9) dX6_sheet_6 rfl lX6_60 rfl (Nat.le_of_ble_eq_true rfl) (Nat.le_of_ble_eq_true rfl) (ct_X6_isSheet) (fun r6 h6 e6 => ?_)
  rcases e6 with ⟨rfl, rfl, j6, hj6, rfl⟩ | ⟨rfl, rfl, hn6⟩
  · refine r_ifne_t (tgt := 14) dX6_sheet_9 (by decide) (by decide) ?_
    refine r_s (pc' := 15) dX6_sheet_14 rfl rfl ?_
    refine r_Si1 (pc' := 18) dX6_sheet_15 rfl lX6_64 rfl (Nat.le_of_ble_eq_true rfl) (Nat.le_of_ble_eq_true rfl) (ct_X6_isLane) (fun r15 h15 e15 => ?_)
    rcases e15 with ⟨rfl, rfl, j15, hj15, rfl⟩ | ⟨rfl, rfl, hn15⟩
    · refine r_ifeq_f (pc' := 21) (tgt := 27) dX6_sheet_18 rfl (by decide) (by decide) ?_
      refine r_s (pc' := 22) dX6_sheet_21 rfl rfl ?_
      refine r_c (pc' := 24) dX6_sheet_22 rfl kc_bipush_60 ?_
      refine r_cle (pc' := 27) (tgt := 30) dX6_sheet_24 rfl (by decide) (fun c24 => ?_) (fun c24 => ?_)
      · refine r_s (pc' := 31) dX6_sheet_30 rfl rfl ?_
        refine r_ifge (pc' := 34) (tgt := 40) dX6_sheet_31 rfl (by decide) (fun c31 => ?_) (fun c31 => ?_)
        · refine r_s (pc' := 41) dX6_sheet_40 rfl rfl ?_
          refine r_gr (pc' := 44) dX6_sheet_41 rfl fX6_13 (hl_ rfl) rfl rfl ?_
          refine r_s (pc' := 45) dX6_sheet_44 rfl rfl ?_
          refine r_sald (pc' := 46) dX6_sheet_45 rfl (hl_ rfl) rfl (vp_in_nI (by omega) (by decide)) (by rw [nI_clamp (by omega : j6 < 2 ^ 31)]; exact isS_r (x := x) (by omega)) ?_
          refine r_s (pc' := 47) dX6_sheet_46 rfl rfl ?_
          refine r_s (pc' := 48) dX6_sheet_47 rfl rfl ?_
          refine r_Vv2 (pc' := 51) dX6_sheet_48 rfl lX6_201 ((isS_of (by omega : j6 < 4))).l ((isS_of (by omega : j6 < 4))).K rfl rfl rfl (Nat.le_of_ble_eq_true rfl) (Nat.le_of_ble_eq_true rfl) (ct_X3_renew (isS_of hj6)) (fun h48 e48 => ?_)
          obtain ⟨I1, rfl, a1, a2, a3, a4⟩ := e48
          refine r_c (pc' := 52) dX6_sheet_51 rfl kc_iconst_1 ?_
          refine r_reti dX6_sheet_52 rfl (rfl) (Nat.le_of_ble_eq_true rfl) (Nat.le_of_ble_eq_true rfl) ⟨_, rfl, ?_⟩
          obtain ⟨m, hm, rfl⟩ := x_in' (n := 60) (Int32.not_lt.mpr c31) c24 (by decide)
          have e2 : sp_sheet η (nI j6) (nI j15) (nI m) = (hup η j6 (some (j15, m, fun _ => 0)), 0, 1) := by rw [sp_sheet, if_pos (ok_in hj6 (by decide)), if_pos ⟨ok_in hj15 (by decide), c24⟩, if_neg (Int32.not_lt.mpr c31), ix_nI (by omega), ix_nI (by omega), ix_nI (by omega)]
          rw [e2]
          exact ⟨I1, rfl, fun q hq => by rw [a4 q (by omega) (by omega), up_o (by omega)], hS1.putH j6 hj6 ⟨a1, a2, fun i hi => a3 i (by omega)⟩ (fun r h1 h2 => a4 r h1 h2), rfl⟩
        · refine r_s (pc' := 35) dX6_sheet_34 rfl rfl ?_
          refine r_c (pc' := 36) dX6_sheet_35 rfl kc_iconst_4 ?_
          refine r_Vi1 (pc' := 39) dX6_sheet_36 rfl lX6_71 (hl_ rfl) rfl rfl rfl rfl (Nat.le_of_ble_eq_true rfl) (Nat.le_of_ble_eq_true rfl) (ct_X6_faulted (f := 4)) (fun r36 h36 e36 => ?_)
          obtain ⟨rfl, rfl⟩ := e36
          refine r_reti dX6_sheet_39 rfl (rfl) (Nat.le_of_ble_eq_true rfl) (Nat.le_of_ble_eq_true rfl) ⟨_, rfl, ?_⟩
          have e2 : sp_sheet η (nI j6) (nI j15) n = (η, 4, -14) := by rw [sp_sheet, if_pos (ok_in hj6 (by decide)), if_pos ⟨ok_in hj15 (by decide), c24⟩, if_pos (x_nle c31)]
          rw [e2]
          exact ⟨_, rfl, fun q hq => by rw [up_o (by omega), up_o (by omega)], (hC.upf 0).upf 4, rfl⟩
      · refine r_c (pc' := 29) dX6_sheet_27 rfl kc_bipush_m2 ?_
        refine r_reti dX6_sheet_29 rfl (rfl) (Nat.le_of_ble_eq_true rfl) (Nat.le_of_ble_eq_true rfl) ⟨_, rfl, ?_⟩
        have e2 : sp_sheet η (nI j6) (nI j15) n = (η, 0, -2) := by
          rw [sp_sheet, if_pos (ok_in hj6 (by decide)), if_neg]
          intro ⟨a, b⟩
          exact c24 b
        rw [e2]
        exact ⟨_, rfl, fun q hq => up_o (by omega), hC.upf 0, rfl⟩
    · refine r_ifeq_t (tgt := 27) dX6_sheet_18 (by decide) (by decide) ?_
      refine r_c (pc' := 29) dX6_sheet_27 rfl kc_bipush_m2 ?_
      refine r_reti dX6_sheet_29 rfl (rfl) (Nat.le_of_ble_eq_true rfl) (Nat.le_of_ble_eq_true rfl) ⟨_, rfl, ?_⟩
      have e2 : sp_sheet η (nI j6) ln n = (η, 0, -2) := by
        rw [sp_sheet, if_pos (ok_in hj6 (by decide)), if_neg]
        intro ⟨a, b⟩
        rw [ok_no (by decide) hn15] at a; cases a
      rw [e2]
      exact ⟨_, rfl, fun q hq => up_o (by omega), hC.upf 0, rfl⟩
  · refine r_ifne_f (pc' := 12) (tgt := 14) dX6_sheet_9 rfl (by decide) (by decide) ?_
    refine r_c (pc' := 13) dX6_sheet_12 rfl kc_iconst_m1 ?_
    refine r_reti dX6_sheet_13 rfl (rfl) (Nat.le_of_ble_eq_true rfl) (Nat.le_of_ble_eq_true rfl) ⟨_, rfl, ?_⟩
    have e2 : sp_sheet η k ln n = (η, 0, -1) := by rw [sp_sheet, ok_no (by decide) hn6]; rfl
    rw [e2]
    exact ⟨_, rfl, fun q hq => up_o (by omega), hC.upf 0, rfl⟩

set_option maxHeartbeats 4000000 in
set_option maxRecDepth 100000 in
theorem pc_lose {d : Nat} {x : hX} {I : Nat → Nat → Int32} {ρ : zR} {δ : zD} {η : zH} {ft tr : Int32} {k : Int32} (hC : CI I (ρ, δ, η, ft, tr)) (hW : WF (ρ, δ, η, ft, tr)) : ci (d + 2) MX6_lose [.ref 0, .int k] (hp x I) (fun r h' => ∃ I', h' = hp x I' ∧ (∀ q, 80 ≤ q → I' q = I q) ∧ CI I' (ρ, δ, (sp_lose η k).1, ft, tr) ∧ r = (sp_lose η k).2) := by
  have hR : isRd I 2 ρ := hC.R
  have hw : wfR ρ := hW.1
  have b6 : zi ρ ≤ 6 := hw.1
  have b8 : zn ρ ≤ 8 := hw.2.1
  have bg : zg ρ ≤ 8 := hw.2.2.1
  have d8 : δ.1 ≤ 8 := hW.2.1.1
  have hSh : ∀ k, k < 4 → shC I k (η k) := hC.S
  have hWh : ∀ k, k < 4 → okO (η k) := fun k hk a n f e => hW.2.2 k hk a n f e
  refine c_in (L := [.ref 0, .int k, .null]) rfl rfl ?_
  refine r_s (pc' := 1) dX6_lose_0 rfl rfl ?_
  refine r_Si1 (pc' := 4) dX6_lose_1 rfl lX6_60 rfl (Nat.le_of_ble_eq_true rfl) (Nat.le_of_ble_eq_true rfl) (ct_X6_isSheet) (fun r1 h1 e1 => ?_)
  rcases e1 with ⟨rfl, rfl, j1, hj1, rfl⟩ | ⟨rfl, rfl, hn1⟩
  · refine r_ifne_t (tgt := 9) dX6_lose_4 (by decide) (by decide) ?_
    refine r_s (pc' := 10) dX6_lose_9 rfl rfl ?_
    refine r_gr (pc' := 13) dX6_lose_10 rfl fX6_13 (hl_ rfl) rfl rfl ?_
    refine r_s (pc' := 14) dX6_lose_13 rfl rfl ?_
    refine r_sald (pc' := 15) dX6_lose_14 rfl (hl_ rfl) rfl (vp_in_nI (by omega) (by decide)) (by rw [nI_clamp (by omega : j1 < 2 ^ 31)]; exact isS_r (x := x) (by omega)) ?_
    refine r_Vi0 (pc' := 18) dX6_lose_15 rfl lX6_205 ((isS_of (by omega : j1 < 4))).l ((isS_of (by omega : j1 < 4))).K rfl rfl rfl (Nat.le_of_ble_eq_true rfl) (Nat.le_of_ble_eq_true rfl) (ct_X3_isThere (isS_of hj1) (hSh _ hj1).Q (hWh _ hj1)) (fun r15 h15 e15 => ?_)
    rcases e15 with ⟨rfl, rfl, a, n, f, ho⟩ | ⟨rfl, rfl, ho⟩
    · refine r_ifeq_f (pc' := 21) (tgt := 25) dX6_lose_18 rfl (by decide) (by decide) ?_
      refine r_c (pc' := 22) dX6_lose_21 rfl kc_iconst_1 ?_
      refine r_goto (tgt := 26) dX6_lose_22 (by decide) ?_
      refine r_st_2_3 (pc' := 27) dX6_lose_26 rfl rfl rfl ?_
      refine r_s (pc' := 28) dX6_lose_27 rfl rfl ?_
      refine r_gr (pc' := 31) dX6_lose_28 rfl fX6_13 (hl_ rfl) rfl rfl ?_
      refine r_s (pc' := 32) dX6_lose_31 rfl rfl ?_
      refine r_sald (pc' := 33) dX6_lose_32 rfl (hl_ rfl) rfl (vp_in_nI (by omega) (by decide)) (by rw [nI_clamp (by omega : j1 < 2 ^ 31)]; exact isS_r (x := x) (by omega)) ?_
      refine r_Vv0 (pc' := 36) dX6_lose_33 rfl lX6_208 ((isS_of (by omega : j1 < 4))).l ((isS_of (by omega : j1 < 4))).K rfl rfl rfl (Nat.le_of_ble_eq_true rfl) (Nat.le_of_ble_eq_true rfl) (ct_X3_clear (isS_of hj1)) (fun h33 e33 => ?_)
      obtain rfl := e33
      refine r_s (pc' := 37) dX6_lose_36 rfl rfl ?_
      refine r_reti dX6_lose_37 rfl (rfl) (Nat.le_of_ble_eq_true rfl) (Nat.le_of_ble_eq_true rfl) ⟨_, rfl, ?_⟩
      have e2 : sp_lose η (nI j1) = (hup η j1 none, 1) := by rw [sp_lose, if_pos (ok_in hj1 (by decide)), ix_nI (by omega), if_pos (by rw [ho]; rfl)]
      rw [e2]
      exact ⟨_, rfl, fun q hq => by rw [up_o (by omega), up_o (by omega)], hC.putH j1 hj1 ⟨by rw [up_n (by decide), up_s], up_s⟩ (fun r h1 h2 => by rw [up_o h1, up_o h1]), rfl⟩
    · refine r_ifeq_t (tgt := 25) dX6_lose_18 (by decide) (by decide) ?_
      refine r_c (pc' := 26) dX6_lose_25 rfl kc_iconst_0 ?_
      refine r_st_2_3 (pc' := 27) dX6_lose_26 rfl rfl rfl ?_
      refine r_s (pc' := 28) dX6_lose_27 rfl rfl ?_
      refine r_gr (pc' := 31) dX6_lose_28 rfl fX6_13 (hl_ rfl) rfl rfl ?_
      refine r_s (pc' := 32) dX6_lose_31 rfl rfl ?_
      refine r_sald (pc' := 33) dX6_lose_32 rfl (hl_ rfl) rfl (vp_in_nI (by omega) (by decide)) (by rw [nI_clamp (by omega : j1 < 2 ^ 31)]; exact isS_r (x := x) (by omega)) ?_
      refine r_Vv0 (pc' := 36) dX6_lose_33 rfl lX6_208 ((isS_of (by omega : j1 < 4))).l ((isS_of (by omega : j1 < 4))).K rfl rfl rfl (Nat.le_of_ble_eq_true rfl) (Nat.le_of_ble_eq_true rfl) (ct_X3_clear (isS_of hj1)) (fun h33 e33 => ?_)
      obtain rfl := e33
      refine r_s (pc' := 37) dX6_lose_36 rfl rfl ?_
      refine r_reti dX6_lose_37 rfl (rfl) (Nat.le_of_ble_eq_true rfl) (Nat.le_of_ble_eq_true rfl) ⟨_, rfl, ?_⟩
      have e2 : sp_lose η (nI j1) = (hup η j1 none, 0) := by rw [sp_lose, if_pos (ok_in hj1 (by decide)), ix_nI (by omega), if_neg (by rw [ho]; decide)]
      rw [e2]
      exact ⟨_, rfl, fun q hq => by rw [up_o (by omega), up_o (by omega)], hC.putH j1 hj1 ⟨by rw [up_n (by decide), up_s], up_s⟩ (fun r h1 h2 => by rw [up_o h1, up_o h1]), rfl⟩
  · refine r_ifne_f (pc' := 7) (tgt := 9) dX6_lose_4 rfl (by decide) (by decide) ?_
    refine r_c (pc' := 8) dX6_lose_7 rfl kc_iconst_m1 ?_
    refine r_reti dX6_lose_8 rfl (rfl) (Nat.le_of_ble_eq_true rfl) (Nat.le_of_ble_eq_true rfl) ⟨_, rfl, ?_⟩
    exact ⟨I, rfl, fun _ _ => rfl, by rw [show sp_lose η k = (η, -1) by rw [sp_lose, ok_no (by decide) hn1]; rfl]; exact hC, by rw [show sp_lose η k = (η, -1) by rw [sp_lose, ok_no (by decide) hn1]; rfl]⟩

set_option maxHeartbeats 4000000 in
set_option maxRecDepth 100000 in
theorem pc_put {d : Nat} {x : hX} {I : Nat → Nat → Int32} {ρ : zR} {δ : zD} {η : zH} {ft tr : Int32} {k i v : Int32} (hC : CI I (ρ, δ, η, ft, tr)) (hW : WF (ρ, δ, η, ft, tr)) : ci (d + 2) MX6_put [.ref 0, .int k, .int i, .int v] (hp x I) (fun r h' => ∃ I', h' = hp x I' ∧ (∀ q, 80 ≤ q → I' q = I q) ∧ CI I' (ρ, δ, (sp_put η k i v).1, (sp_put η k i v).2.1, tr) ∧ r = (sp_put η k i v).2.2) := by
  have hR : isRd I 2 ρ := hC.R
  have hw : wfR ρ := hW.1
  have b6 : zi ρ ≤ 6 := hw.1
  have b8 : zn ρ ≤ 8 := hw.2.1
  have bg : zg ρ ≤ 8 := hw.2.2.1
  have d8 : δ.1 ≤ 8 := hW.2.1.1
  have hSh : ∀ k, k < 4 → shC I k (η k) := hC.S
  have hWh : ∀ k, k < 4 → okO (η k) := fun k hk a n f e => hW.2.2 k hk a n f e
  have hS1 : CI (sm_up I 0 6 0) (ρ, δ, η, 0, tr) := hC.upf 0
  have hSh1 : ∀ k, k < 4 → shC (sm_up I 0 6 0) k (η k) := hS1.S
  refine c_in (L := [.ref 0, .int k, .int i, .int v]) rfl rfl ?_
  refine r_s (pc' := 1) dX6_put_0 rfl rfl ?_
  refine r_c (pc' := 2) dX6_put_1 rfl kc_iconst_0 ?_
  refine h_pi (pc' := 5) dX6_put_2 rfl fX6_52 rfl (hl_ rfl) rfl ?_
  refine r_s (pc' := 6) dX6_put_5 rfl rfl ?_
  refine r_Si1 (pc' := 9) dX6_put_6 rfl lX6_60 rfl (Nat.le_of_ble_eq_true rfl) (Nat.le_of_ble_eq_true rfl) (ct_X6_isSheet) (fun r6 h6 e6 => ?_)
  rcases e6 with ⟨rfl, rfl, j6, hj6, rfl⟩ | ⟨rfl, rfl, hn6⟩
  · refine r_ifne_t (tgt := 14) dX6_put_9 (by decide) (by decide) ?_
    refine r_s (pc' := 15) dX6_put_14 rfl rfl ?_
    refine r_gr (pc' := 18) dX6_put_15 rfl fX6_13 (hl_ rfl) rfl rfl ?_
    refine r_s (pc' := 19) dX6_put_18 rfl rfl ?_
    refine r_sald (pc' := 20) dX6_put_19 rfl (hl_ rfl) rfl (vp_in_nI (by omega) (by decide)) (by rw [nI_clamp (by omega : j6 < 2 ^ 31)]; exact isS_r (x := x) (by omega)) ?_
    refine r_Vi0 (pc' := 23) dX6_put_20 rfl lX6_205 ((isS_of (by omega : j6 < 4))).l ((isS_of (by omega : j6 < 4))).K rfl rfl rfl (Nat.le_of_ble_eq_true rfl) (Nat.le_of_ble_eq_true rfl) (ct_X3_isThere (isS_of hj6) (hSh1 _ hj6).Q (hWh _ hj6)) (fun r20 h20 e20 => ?_)
    rcases e20 with ⟨rfl, rfl, a, n, f, ho⟩ | ⟨rfl, rfl, ho⟩
    · refine r_ifne_t (tgt := 32) dX6_put_23 (by decide) (by decide) ?_
      have hs := (hSh1 _ hj6).Q
      rw [ho] at hs
      have hbd := hW.2.2 _ hj6 a n f ho
      refine r_s (pc' := 33) dX6_put_32 rfl rfl ?_
      refine r_gr (pc' := 36) dX6_put_33 rfl fX6_13 (hl_ rfl) rfl rfl ?_
      refine r_s (pc' := 37) dX6_put_36 rfl rfl ?_
      refine r_sald (pc' := 38) dX6_put_37 rfl (hl_ rfl) rfl (vp_in_nI (by omega) (by decide)) (by rw [nI_clamp (by omega : j6 < 2 ^ 31)]; exact isS_r (x := x) (by omega)) ?_
      refine r_s (pc' := 39) dX6_put_38 rfl rfl ?_
      refine r_Vi1 (pc' := 42) dX6_put_39 rfl lX6_209 ((isS_of (by omega : j6 < 4))).l ((isS_of (by omega : j6 < 4))).K rfl rfl rfl (Nat.le_of_ble_eq_true rfl) (Nat.le_of_ble_eq_true rfl) (ct_X3_hasCell (isS_of hj6) hs.2.1 (by omega)) (fun r39 h39 e39 => ?_)
      rcases e39 with ⟨rfl, rfl, j39, hj39, rfl⟩ | ⟨rfl, rfl, hn39⟩
      · refine r_ifne_t (tgt := 51) dX6_put_42 (by decide) (by decide) ?_
        refine r_s (pc' := 52) dX6_put_51 rfl rfl ?_
        refine r_gr (pc' := 55) dX6_put_52 rfl fX6_13 (hl_ rfl) rfl rfl ?_
        refine r_s (pc' := 56) dX6_put_55 rfl rfl ?_
        refine r_sald (pc' := 57) dX6_put_56 rfl (hl_ rfl) rfl (vp_in_nI (by omega) (by decide)) (by rw [nI_clamp (by omega : j6 < 2 ^ 31)]; exact isS_r (x := x) (by omega)) ?_
        refine r_s (pc' := 58) dX6_put_57 rfl rfl ?_
        refine r_s (pc' := 59) dX6_put_58 rfl rfl ?_
        refine r_Vv2 (pc' := 62) dX6_put_59 rfl lX6_212 ((isS_of (by omega : j6 < 4))).l ((isS_of (by omega : j6 < 4))).K rfl rfl rfl (Nat.le_of_ble_eq_true rfl) (Nat.le_of_ble_eq_true rfl) (ct_X3_write (isS_of hj6) (by omega) hs.1 hbd.1) (fun h59 e59 => ?_)
        obtain rfl := e59
        refine r_c (pc' := 63) dX6_put_62 rfl kc_iconst_1 ?_
        refine r_reti dX6_put_63 rfl (rfl) (Nat.le_of_ble_eq_true rfl) (Nat.le_of_ble_eq_true rfl) ⟨_, rfl, ?_⟩
        have e2 : sp_put η (nI j6) (nI j39) v = (hup η j6 (some (a, n, upd f j39 (cut a v))), 0, 1) := by rw [sp_put, if_pos (ok_in hj6 (by decide)), ix_nI (by omega), ho]; show (if ok (nI j39) n = true then _ else _) = _; rw [if_pos (ok_in hj39 (by omega)), ix_nI (by omega)]
        rw [e2]
        refine ⟨_, rfl, fun q hq => by rw [up_o (by omega), up_o (by omega)], hS1.putH j6 hj6 ⟨by rw [up_o (by omega)]; exact hs.1, by rw [up_o (by omega)]; exact hs.2.1, fun i hi => ?_⟩ (fun r h1 h2 => up_o h2), rfl⟩
        by_cases e : i = j39
        · subst e; rw [up_s]; show _ = (if i = i then _ else _); rw [if_pos rfl]
        · rw [up_n e]; show _ = (if i = j39 then _ else f i); rw [if_neg e]; exact hs.2.2 i hi
      · refine r_ifne_f (pc' := 45) (tgt := 51) dX6_put_42 rfl (by decide) (by decide) ?_
        refine r_s (pc' := 46) dX6_put_45 rfl rfl ?_
        refine r_c (pc' := 47) dX6_put_46 rfl kc_iconst_3 ?_
        refine r_Vi1 (pc' := 50) dX6_put_47 rfl lX6_71 (hl_ rfl) rfl rfl rfl rfl (Nat.le_of_ble_eq_true rfl) (Nat.le_of_ble_eq_true rfl) (ct_X6_faulted (f := 3)) (fun r47 h47 e47 => ?_)
        obtain ⟨rfl, rfl⟩ := e47
        refine r_reti dX6_put_50 rfl (rfl) (Nat.le_of_ble_eq_true rfl) (Nat.le_of_ble_eq_true rfl) ⟨_, rfl, ?_⟩
        have e2 : sp_put η (nI j6) i v = (η, 3, -13) := by rw [sp_put, if_pos (ok_in hj6 (by decide)), ix_nI (by omega), ho]; show (if ok i n = true then _ else _) = _; rw [ok_no (by omega) hn39]; rfl
        rw [e2]
        exact ⟨_, rfl, fun q hq => by rw [up_o (by omega), up_o (by omega)], (hC.upf 0).upf 3, rfl⟩
    · refine r_ifne_f (pc' := 26) (tgt := 32) dX6_put_23 rfl (by decide) (by decide) ?_
      refine r_s (pc' := 27) dX6_put_26 rfl rfl ?_
      refine r_c (pc' := 28) dX6_put_27 rfl kc_iconst_1 ?_
      refine r_Vi1 (pc' := 31) dX6_put_28 rfl lX6_71 (hl_ rfl) rfl rfl rfl rfl (Nat.le_of_ble_eq_true rfl) (Nat.le_of_ble_eq_true rfl) (ct_X6_faulted (f := 1)) (fun r28 h28 e28 => ?_)
      obtain ⟨rfl, rfl⟩ := e28
      refine r_reti dX6_put_31 rfl (rfl) (Nat.le_of_ble_eq_true rfl) (Nat.le_of_ble_eq_true rfl) ⟨_, rfl, ?_⟩
      have e2 : sp_put η (nI j6) i v = (η, 1, -11) := by rw [sp_put, if_pos (ok_in hj6 (by decide)), ix_nI (by omega), ho]
      rw [e2]
      exact ⟨_, rfl, fun q hq => by rw [up_o (by omega), up_o (by omega)], (hC.upf 0).upf 1, rfl⟩
  · refine r_ifne_f (pc' := 12) (tgt := 14) dX6_put_9 rfl (by decide) (by decide) ?_
    refine r_c (pc' := 13) dX6_put_12 rfl kc_iconst_m1 ?_
    refine r_reti dX6_put_13 rfl (rfl) (Nat.le_of_ble_eq_true rfl) (Nat.le_of_ble_eq_true rfl) ⟨_, rfl, ?_⟩
    have e2 : sp_put η k i v = (η, 0, -1) := by rw [sp_put, ok_no (by decide) hn6]; rfl
    rw [e2]
    exact ⟨_, rfl, fun q hq => up_o (by omega), hC.upf 0, rfl⟩

set_option maxHeartbeats 4000000 in
set_option maxRecDepth 100000 in
theorem pc_cell {d : Nat} {x : hX} {I : Nat → Nat → Int32} {ρ : zR} {δ : zD} {η : zH} {ft tr : Int32} {k i ln : Int32} (hC : CI I (ρ, δ, η, ft, tr)) (hW : WF (ρ, δ, η, ft, tr)) : cl (d + 4) MX6_cell [.ref 0, .int k, .int i, .int ln] (hp x I) (fun r h' => ∃ I', h' = hp x I' ∧ (∀ q, 80 ≤ q → I' q = I q) ∧ CI I' (ρ, δ, η, (sp_cell η k i ln).1, tr) ∧ r = (sp_cell η k i ln).2) := by
  have hR : isRd I 2 ρ := hC.R
  have hw : wfR ρ := hW.1
  have b6 : zi ρ ≤ 6 := hw.1
  have b8 : zn ρ ≤ 8 := hw.2.1
  have bg : zg ρ ≤ 8 := hw.2.2.1
  have d8 : δ.1 ≤ 8 := hW.2.1.1
  have hSh : ∀ k, k < 4 → shC I k (η k) := hC.S
  have hWh : ∀ k, k < 4 → okO (η k) := fun k hk a n f e => hW.2.2 k hk a n f e
  have hS1 : CI (sm_up I 0 6 0) (ρ, δ, η, 0, tr) := hC.upf 0
  have hSh1 : ∀ k, k < 4 → shC (sm_up I 0 6 0) k (η k) := hS1.S
  refine c_in (L := [.ref 0, .int k, .int i, .int ln]) rfl rfl ?_
  refine r_s (pc' := 1) dX6_cell_0 rfl rfl ?_
  refine r_c (pc' := 2) dX6_cell_1 rfl kc_iconst_0 ?_
  refine h_pi (pc' := 5) dX6_cell_2 rfl fX6_52 rfl (hl_ rfl) rfl ?_
  refine r_s (pc' := 6) dX6_cell_5 rfl rfl ?_
  refine r_Si1 (pc' := 9) dX6_cell_6 rfl lX6_60 rfl (Nat.le_of_ble_eq_true rfl) (Nat.le_of_ble_eq_true rfl) (ct_X6_isSheet) (fun r6 h6 e6 => ?_)
  rcases e6 with ⟨rfl, rfl, j6, hj6, rfl⟩ | ⟨rfl, rfl, hn6⟩
  · refine r_ifeq_f (pc' := 12) (tgt := 19) dX6_cell_9 rfl (by decide) (by decide) ?_
    refine r_s (pc' := 13) dX6_cell_12 rfl rfl ?_
    refine r_Si1 (pc' := 16) dX6_cell_13 rfl lX6_64 rfl (Nat.le_of_ble_eq_true rfl) (Nat.le_of_ble_eq_true rfl) (ct_X6_isLane) (fun r13 h13 e13 => ?_)
    rcases e13 with ⟨rfl, rfl, j13, hj13, rfl⟩ | ⟨rfl, rfl, hn13⟩
    · refine r_ifne_t (tgt := 23) dX6_cell_16 (by decide) (by decide) ?_
      refine r_s (pc' := 24) dX6_cell_23 rfl rfl ?_
      refine r_s (pc' := 25) dX6_cell_24 rfl rfl ?_
      refine r_gr (pc' := 28) dX6_cell_25 rfl fX6_13 (hl_ rfl) rfl rfl ?_
      refine r_s (pc' := 29) dX6_cell_28 rfl rfl ?_
      refine r_sald (pc' := 30) dX6_cell_29 rfl (hl_ rfl) rfl (vp_in_nI (by omega) (by decide)) (by rw [nI_clamp (by omega : j6 < 2 ^ 31)]; exact isS_r (x := x) (by omega)) ?_
      refine r_s (pc' := 31) dX6_cell_30 rfl rfl ?_
      refine r_s (pc' := 32) dX6_cell_31 rfl rfl ?_
      refine r_Vi2 (pc' := 35) dX6_cell_32 rfl lX6_215 ((isS_of (by omega : j6 < 4))).l ((isS_of (by omega : j6 < 4))).K rfl rfl rfl (Nat.le_of_ble_eq_true rfl) (Nat.le_of_ble_eq_true rfl) (ct_X3_faultOfCell (isS_of hj6) (hSh1 _ hj6).Q (hWh _ hj6)) (fun r32 h32 e32 => ?_)
      rcases e32 with ⟨rfl, rfl, ho⟩ | ⟨rfl, rfl, a, n, f, ho, hln⟩ | ⟨rfl, rfl, a, n, f, ho, hln, hni⟩ | ⟨rfl, rfl, a, n, f, j, ho, hln, hji, rfl⟩
      · refine h_pi (pc' := 38) dX6_cell_35 rfl fX6_52 rfl (hl_ rfl) rfl ?_
        refine r_s (pc' := 39) dX6_cell_38 rfl rfl ?_
        refine h_gi (pc' := 42) dX6_cell_39 rfl fX6_52 (hl_ rfl) rfl ?_
        refine r_top (up_s) ?_
        refine r_ifne_t (tgt := 60) dX6_cell_42 (by decide) (by decide) ?_
        refine r_ldc2 (pc' := 63) dX6_cell_60 rfl kX6_196 ?_
        refine r_retl dX6_cell_63 rfl (Nat.le_of_ble_eq_true rfl) (Nat.le_of_ble_eq_true rfl) ⟨_, rfl, ?_⟩
        have e2 : sp_cell η (nI j6) i (nI j13) = (1, LOSTv) := by rw [sp_cell, if_pos ⟨ok_in hj6 (by decide), ok_in hj13 (by decide)⟩, ix_nI (by omega), ho]
        rw [e2]
        exact ⟨_, rfl, fun q hq => by rw [up_o (by omega), up_o (by omega)], (hC.upf 0).upf 1, rfl⟩
      · refine h_pi (pc' := 38) dX6_cell_35 rfl fX6_52 rfl (hl_ rfl) rfl ?_
        refine r_s (pc' := 39) dX6_cell_38 rfl rfl ?_
        refine h_gi (pc' := 42) dX6_cell_39 rfl fX6_52 (hl_ rfl) rfl ?_
        refine r_top (up_s) ?_
        refine r_ifne_t (tgt := 60) dX6_cell_42 (by decide) (by decide) ?_
        refine r_ldc2 (pc' := 63) dX6_cell_60 rfl kX6_196 ?_
        refine r_retl dX6_cell_63 rfl (Nat.le_of_ble_eq_true rfl) (Nat.le_of_ble_eq_true rfl) ⟨_, rfl, ?_⟩
        have e2 : sp_cell η (nI j6) i (nI j13) = (2, LOSTv) := by rw [sp_cell, if_pos ⟨ok_in hj6 (by decide), ok_in hj13 (by decide)⟩, ix_nI (by omega), ho]; show (if nI a = nI j13 then _ else _) = _; rw [if_neg hln]
        rw [e2]
        exact ⟨_, rfl, fun q hq => by rw [up_o (by omega), up_o (by omega)], (hC.upf 0).upf 2, rfl⟩
      · refine h_pi (pc' := 38) dX6_cell_35 rfl fX6_52 rfl (hl_ rfl) rfl ?_
        have hbd := hW.2.2 _ hj6 a n f ho
        refine r_s (pc' := 39) dX6_cell_38 rfl rfl ?_
        refine h_gi (pc' := 42) dX6_cell_39 rfl fX6_52 (hl_ rfl) rfl ?_
        refine r_top (up_s) ?_
        refine r_ifne_t (tgt := 60) dX6_cell_42 (by decide) (by decide) ?_
        refine r_ldc2 (pc' := 63) dX6_cell_60 rfl kX6_196 ?_
        refine r_retl dX6_cell_63 rfl (Nat.le_of_ble_eq_true rfl) (Nat.le_of_ble_eq_true rfl) ⟨_, rfl, ?_⟩
        have e2 : sp_cell η (nI j6) i (nI j13) = (3, LOSTv) := by rw [sp_cell, if_pos ⟨ok_in hj6 (by decide), ok_in hj13 (by decide)⟩, ix_nI (by omega), ho]; show (if nI a = nI j13 then (if ok i n = true then _ else _) else _) = _; rw [if_pos hln.symm, ok_no (by omega) hni]; rfl
        rw [e2]
        exact ⟨_, rfl, fun q hq => by rw [up_o (by omega), up_o (by omega)], (hC.upf 0).upf 3, rfl⟩
      · refine h_pi (pc' := 38) dX6_cell_35 rfl fX6_52 rfl (hl_ rfl) rfl ?_
        have hs := (hSh1 _ hj6).Q
        rw [ho] at hs
        have hbd := hW.2.2 _ hj6 a n f ho
        refine r_s (pc' := 39) dX6_cell_38 rfl rfl ?_
        refine h_gi (pc' := 42) dX6_cell_39 rfl fX6_52 (hl_ rfl) rfl ?_
        refine r_top (up_s) ?_
        refine r_ifne_f (pc' := 45) (tgt := 60) dX6_cell_42 rfl (by decide) (by decide) ?_
        refine r_s (pc' := 46) dX6_cell_45 rfl rfl ?_
        refine r_gr (pc' := 49) dX6_cell_46 rfl fX6_13 (hl_ rfl) rfl rfl ?_
        refine r_s (pc' := 50) dX6_cell_49 rfl rfl ?_
        refine r_sald (pc' := 51) dX6_cell_50 rfl (hl_ rfl) rfl (vp_in_nI (by omega) (by decide)) (by rw [nI_clamp (by omega : j6 < 2 ^ 31)]; exact isS_r (x := x) (by omega)) ?_
        refine r_gr (pc' := 54) dX6_cell_51 rfl fX6_218 ((isS_of (by omega : j6 < 4))).l ((isS_of (by omega : j6 < 4))).K ((isS_of (by omega : j6 < 4))).r0 ?_
        refine r_s (pc' := 55) dX6_cell_54 rfl rfl ?_
        refine h_ald (pc' := 56) dX6_cell_55 rfl ((isS_of (by omega : j6 < 4))).la ((isS_of (by omega : j6 < 4))).k1 (vp_in_nI (by omega) (by decide)) (nI_clamp (by omega)) ?_
        refine r_s (pc' := 57) dX6_cell_56 rfl rfl ?_
        refine r_goto (tgt := 63) dX6_cell_57 (by decide) ?_
        refine r_retl dX6_cell_63 rfl (Nat.le_of_ble_eq_true rfl) (Nat.le_of_ble_eq_true rfl) ⟨_, rfl, ?_⟩
        have e2 : sp_cell η (nI j6) (nI j) (nI j13) = (0, (f j).toInt64) := by rw [sp_cell, if_pos ⟨ok_in hj6 (by decide), ok_in hj13 (by decide)⟩, ix_nI (by omega), ho]; show (if nI a = nI j13 then (if ok (nI j) n = true then _ else _) else _) = _; rw [if_pos hln.symm, if_pos (ok_in hji (by omega)), ix_nI (by omega)]
        rw [e2]
        exact ⟨_, rfl, fun q hq => by rw [up_o (by omega), up_o (by omega)], (hC.upf 0).upf 0, by rw [up_o (by omega), hs.2.2 j hji]⟩
    · refine r_ifne_f (pc' := 19) (tgt := 23) dX6_cell_16 rfl (by decide) (by decide) ?_
      refine r_ldc2 (pc' := 22) dX6_cell_19 rfl kX6_196 ?_
      refine r_retl dX6_cell_22 rfl (Nat.le_of_ble_eq_true rfl) (Nat.le_of_ble_eq_true rfl) ⟨_, rfl, ?_⟩
      have e2 : sp_cell η (nI j6) i ln = (0, LOSTv) := by
        rw [sp_cell, if_neg]
        intro ⟨a, b⟩
        rw [ok_no (by decide) hn13] at b; cases b
      rw [e2]
      exact ⟨_, rfl, fun q hq => up_o (by omega), hC.upf 0, rfl⟩
  · refine r_ifeq_t (tgt := 19) dX6_cell_9 (by decide) (by decide) ?_
    refine r_ldc2 (pc' := 22) dX6_cell_19 rfl kX6_196 ?_
    refine r_retl dX6_cell_22 rfl (Nat.le_of_ble_eq_true rfl) (Nat.le_of_ble_eq_true rfl) ⟨_, rfl, ?_⟩
    have e2 : sp_cell η k i ln = (0, LOSTv) := by
      rw [sp_cell, if_neg]
      intro ⟨a, b⟩
      rw [ok_no (by decide) hn6] at a; cases a
    rw [e2]
    exact ⟨_, rfl, fun q hq => up_o (by omega), hC.upf 0, rfl⟩
