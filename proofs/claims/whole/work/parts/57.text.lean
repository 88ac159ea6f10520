/-! A text in words: e is the code at a place. -/
def kdc (v : Int32) : Option Nat := if v = 110 then some 0 else if v = 108 then some 1 else if v = 99 then some 2 else none
def dgt (v : Int32) (m : Nat) : Option Nat := if ok (v - 48) m = true then some (ix (v - 48)) else none
def wnd (v : Int32) : Option Nat := if v = 62 then some 0 else if v = 60 then some 1 else none
abbrev adI (ρ : zR) (kd v : Nat) : zR := ((zi ρ + 1, zn ρ, zg ρ, zl ρ), (fup (zk ρ) (zi ρ) kd, fup (zs ρ) (zi ρ) v, zw ρ, zf ρ, zy ρ, zh ρ))
abbrev adN (ρ : zR) (w v : Nat) : zR := ((zi ρ, zn ρ + 1, zg ρ, zl ρ), (zk ρ, zs ρ, fup (zw ρ) (zn ρ) w, fup (zf ρ) (zn ρ) v, zy ρ, zh ρ))
abbrev adG (ρ : zR) (y h : Nat) : zR := ((zi ρ, zn ρ, zg ρ + 1, zl ρ), (zk ρ, zs ρ, zw ρ, zf ρ, fup (zy ρ) (zg ρ) y, fup (zh ρ) (zg ρ) h))
abbrev zpS : Type := Nat × zR
def zr0 : zR := ((0, 0, 0, 0), (fun _ => 0, fun _ => 0, fun _ => 0, fun _ => 0, fun _ => 0, fun _ => 0))
def pI (e : Nat → Int32) (s : zpS) : Bool × zpS := match kdc (e (s.1 + 1)) with
  | none => (false, s.1 + 1, s.2)
  | some kd => match dgt (e (s.1 + 1 + 1)) 10 with
    | none => (false, s.1 + 1 + 1, s.2)
    | some v => (true, s.1 + 1 + 1 + 1, adI s.2 kd v)
def pN (e : Nat → Int32) (w : Nat) (s : zpS) : Bool × zpS := match dgt (e (s.1 + 1)) 6 with
  | none => (false, s.1 + 1, s.2)
  | some v => (true, s.1 + 1 + 1, adN s.2 w v)
def pG (e : Nat → Int32) (s : zpS) : Bool × zpS := match dgt (e (s.1 + 1)) 4 with
  | none => (false, s.1 + 1, s.2)
  | some y => match dgt (e (s.1 + 1 + 1)) (zi s.2) with
    | none => (false, s.1 + 1 + 1, s.2)
    | some h => (true, s.1 + 1 + 1 + 1, adG s.2 y h)
def rI (e : Nat → Int32) : Nat → zpS → Bool × zpS
  | 0, s => (true, s)
  | m + 1, s => if e s.1 = 44 then (if (pI e s).1 = true then rI e m (pI e s).2 else pI e s) else (true, s)
def rN (e : Nat → Int32) : Nat → zpS → Bool × zpS
  | 0, s => (true, s)
  | m + 1, s => match wnd (e s.1) with
    | none => (true, s)
    | some w => if (pN e w s).1 = true then rN e m (pN e w s).2 else pN e w s
def rG (e : Nat → Int32) : Nat → zpS → Bool × zpS
  | 0, s => (true, s)
  | m + 1, s => if e s.1 = 43 then (if (pG e s).1 = true then rG e m (pG e s).2 else pG e s) else (true, s)
def pr3 (n : Nat) (g : Bool × zpS) : Bool × zpS := if (g.1 = true ∧ 0 < zg g.2.2) ∧ g.2.1 = n then (true, g.2) else (false, g.2)
def pr2 (e : Nat → Int32) (n : Nat) (b : Bool × zpS) : Bool × zpS := if b.1 = true ∧ 0 < zn b.2.2 then pr3 n (rG e 8 b.2) else (false, b.2)
def pr1 (e : Nat → Int32) (n : Nat) (a : Bool × zpS) : Bool × zpS := if a.1 = true ∧ 2 ≤ zi a.2.2 then (if e a.2.1 = 59 then pr2 e n (rN e 8 (a.2.1 + 1, a.2.2)) else (false, a.2)) else (false, a.2)
def prs (e : Nat → Int32) (n : Nat) : Bool × zpS := if e 0 = 105 then pr1 e n (rI e 6 (1, zr0)) else (false, 0, zr0)
/-- the codes of a row of n, as f tells them -/
def cde (f : Nat → Int32) (n : Nat) : Nat → Int32 := fun j => if j < n then f j else -9
def wfP (ρ : zR) : Prop := zi ρ ≤ 6 ∧ zn ρ ≤ 8 ∧ zg ρ ≤ 8 ∧ zl ρ = 0 ∧ (∀ k, k < zi ρ → zk ρ k ≤ 2) ∧ (∀ k, k < zi ρ → zs ρ k ≤ 9) ∧ (∀ n, n < zn ρ → zw ρ n ≤ 1) ∧ (∀ n, n < zn ρ → zf ρ n ≤ 5) ∧ (∀ g, g < zg ρ → zy ρ g ≤ 3) ∧ (∀ g, g < zg ρ → zh ρ g < zi ρ)
theorem wfP_0 : wfP zr0 := ⟨by decide, by decide, by decide, rfl, fun k hk => absurd hk (Nat.not_lt_zero _), fun k hk => absurd hk (Nat.not_lt_zero _), fun k hk => absurd hk (Nat.not_lt_zero _), fun k hk => absurd hk (Nat.not_lt_zero _), fun k hk => absurd hk (Nat.not_lt_zero _), fun k hk => absurd hk (Nat.not_lt_zero _)⟩
theorem fup_le1 {f : Nat → Nat} {N v b : Nat} (h : ∀ k, k < N → f k ≤ b) (hv : v ≤ b) : ∀ k, k < N + 1 → fup f N v k ≤ b := fun k hk => by
  by_cases e : k = N
  · subst e; rw [fup_s]; exact hv
  · rw [fup_n e]; exact h k (by omega)
theorem wfP.I {ρ : zR} {kd v : Nat} (h : wfP ρ) (hg0 : zg ρ = 0) (hi : zi ρ < 6) (hk : kd ≤ 2) (hv : v ≤ 9) : wfP (adI ρ kd v) :=
  ⟨hi, h.2.1, h.2.2.1, h.2.2.2.1, fup_le1 h.2.2.2.2.1 hk, fup_le1 h.2.2.2.2.2.1 hv, h.2.2.2.2.2.2.1, h.2.2.2.2.2.2.2.1, h.2.2.2.2.2.2.2.2.1, fun g hg => absurd (show g < zg ρ from hg) (by omega)⟩
theorem wfP.N {ρ : zR} {w v : Nat} (h : wfP ρ) (hi : zn ρ < 8) (hk : w ≤ 1) (hv : v ≤ 5) : wfP (adN ρ w v) :=
  ⟨h.1, hi, h.2.2.1, h.2.2.2.1, h.2.2.2.2.1, h.2.2.2.2.2.1, fup_le1 h.2.2.2.2.2.2.1 hk, fup_le1 h.2.2.2.2.2.2.2.1 hv, h.2.2.2.2.2.2.2.2.1, h.2.2.2.2.2.2.2.2.2⟩
theorem wfP.G {ρ : zR} {y v : Nat} (h : wfP ρ) (hi : zg ρ < 8) (hk : y ≤ 3) (hv : v < zi ρ) : wfP (adG ρ y v) :=
  ⟨h.1, h.2.1, hi, h.2.2.2.1, h.2.2.2.2.1, h.2.2.2.2.2.1, h.2.2.2.2.2.2.1, h.2.2.2.2.2.2.2.1, fup_le1 h.2.2.2.2.2.2.2.2.1 hk, fun g hg => by
    show fup (zh ρ) (zg ρ) v g < zi ρ
    by_cases e : g = zg ρ
    · subst e; rw [fup_s]; exact hv
    · rw [fup_n e]; exact h.2.2.2.2.2.2.2.2.2 g (by have : g < zg ρ + 1 := hg; omega)⟩
theorem wfP.R {ρ : zR} (h : wfP ρ) (h1 : 2 ≤ zi ρ) (h2 : 0 < zn ρ) (h3 : 0 < zg ρ) : wfR ρ :=
  ⟨h.1, h.2.1, h.2.2.1, by rw [h.2.2.2.1]; decide, fun e => by omega, fun _ => ⟨h1, h2, h3⟩, h.2.2.2.2.1, h.2.2.2.2.2.1, h.2.2.2.2.2.2.1, h.2.2.2.2.2.2.2.1, h.2.2.2.2.2.2.2.2.1, h.2.2.2.2.2.2.2.2.2⟩
theorem dgt_s {v : Int32} {m j : Nat} (hj : j < m) (hm : m < 2 ^ 31) (h : v - 48 = nI j) : dgt v m = some j := by
  unfold dgt; rw [h, if_pos (ok_in hj hm), ix_nI (by omega)]
theorem dgt_n {v : Int32} {m : Nat} (hm : m < 2 ^ 31) (h : ∀ j, j < m → v - 48 ≠ nI j) : dgt v m = none := by
  unfold dgt; rw [ok_no hm h]; rfl
theorem sub48 {v : Int32} {j : Nat} (h : v - 48 = nI j) : v = nI (48 + j) := by
  have : v = nI j + 48 := by rw [← h, Int32.sub_add_cancel]
  rw [this, Nat.add_comm, ← nI_add]; rfl
theorem add48 {j : Nat} : nI (48 + j) - 48 = nI j := by
  rw [Nat.add_comm, ← nI_add]
  show nI j + 48 - 48 = nI j
  exact Int32.add_sub_cancel _ _
theorem cde_in {f : Nat → Int32} {n j : Nat} (h : j < n) : cde f n j = f j := if_pos h
theorem cde_out {f : Nat → Int32} {n j : Nat} (h : n ≤ j) : cde f n j = -9 := if_neg (by omega)

theorem isRd.I {I : Nat → Nat → Int32} {q : Nat} {ρ : zR} {kd v : Nat} (h : isRd I q ρ) : isRd (sm_up (sm_up (sm_up I (q + 1) (zi ρ) (nI kd)) (q + 2) (zi ρ) (nI v)) q 0 (nI (zi ρ + 1))) q (adI ρ kd v) := by
  obtain ⟨h0, h3, h6, h9, h1, h2, h4, h5, h7, h8⟩ := h
  refine ⟨?_, ?_, ?_, ?_, ?_, ?_, ?_, ?_, ?_, ?_⟩
  · exact up_s
  · rw [up_n (by decide), up_o (by omega), up_o (by omega)]; exact h3
  · rw [up_n (by decide), up_o (by omega), up_o (by omega)]; exact h6
  · rw [up_n (by decide), up_o (by omega), up_o (by omega)]; exact h9
  · intro k hk
    have hk : k < zi ρ + 1 := hk
    show _ = nI (fup (zk ρ) (zi ρ) kd k)
    by_cases e : k = zi ρ
    · subst e; rw [up_o (by omega), up_o (by omega), up_s, fup_s]
    · rw [up_o (by omega), up_o (by omega), up_n e, fup_n e]; exact h1 k (by omega)
  · intro k hk
    have hk : k < zi ρ + 1 := hk
    show _ = nI (fup (zs ρ) (zi ρ) v k)
    by_cases e : k = zi ρ
    · subst e; rw [up_o (by omega), up_s, fup_s]
    · rw [up_o (by omega), up_n e, fup_n e]; rw [up_o (by omega)]; exact h2 k (by omega)
  · intro k hk; rw [up_o (by omega), up_o (by omega), up_o (by omega)]; exact h4 k hk
  · intro k hk; rw [up_o (by omega), up_o (by omega), up_o (by omega)]; exact h5 k hk
  · intro k hk; rw [up_o (by omega), up_o (by omega), up_o (by omega)]; exact h7 k hk
  · intro k hk; rw [up_o (by omega), up_o (by omega), up_o (by omega)]; exact h8 k hk

theorem isRd.N {I : Nat → Nat → Int32} {q : Nat} {ρ : zR} {w v : Nat} (h : isRd I q ρ) : isRd (sm_up (sm_up (sm_up I (q + 3) (zn ρ) (nI w)) (q + 4) (zn ρ) (nI v)) q 3 (nI (zn ρ + 1))) q (adN ρ w v) := by
  obtain ⟨h0, h3, h6, h9, h1, h2, h4, h5, h7, h8⟩ := h
  refine ⟨?_, ?_, ?_, ?_, ?_, ?_, ?_, ?_, ?_, ?_⟩
  · rw [up_n (by decide), up_o (by omega), up_o (by omega)]; exact h0
  · exact up_s
  · rw [up_n (by decide), up_o (by omega), up_o (by omega)]; exact h6
  · rw [up_n (by decide), up_o (by omega), up_o (by omega)]; exact h9
  · intro k hk; rw [up_o (by omega), up_o (by omega), up_o (by omega)]; exact h1 k hk
  · intro k hk; rw [up_o (by omega), up_o (by omega), up_o (by omega)]; exact h2 k hk
  · intro k hk
    have hk : k < zn ρ + 1 := hk
    show _ = nI (fup (zw ρ) (zn ρ) w k)
    by_cases e : k = zn ρ
    · subst e; rw [up_o (by omega), up_o (by omega), up_s, fup_s]
    · rw [up_o (by omega), up_o (by omega), up_n e, fup_n e]; exact h4 k (by omega)
  · intro k hk
    have hk : k < zn ρ + 1 := hk
    show _ = nI (fup (zf ρ) (zn ρ) v k)
    by_cases e : k = zn ρ
    · subst e; rw [up_o (by omega), up_s, fup_s]
    · rw [up_o (by omega), up_n e, fup_n e]; rw [up_o (by omega)]; exact h5 k (by omega)
  · intro k hk; rw [up_o (by omega), up_o (by omega), up_o (by omega)]; exact h7 k hk
  · intro k hk; rw [up_o (by omega), up_o (by omega), up_o (by omega)]; exact h8 k hk

theorem isRd.G {I : Nat → Nat → Int32} {q : Nat} {ρ : zR} {y v : Nat} (h : isRd I q ρ) : isRd (sm_up (sm_up (sm_up I (q + 5) (zg ρ) (nI y)) (q + 6) (zg ρ) (nI v)) q 6 (nI (zg ρ + 1))) q (adG ρ y v) := by
  obtain ⟨h0, h3, h6, h9, h1, h2, h4, h5, h7, h8⟩ := h
  refine ⟨?_, ?_, ?_, ?_, ?_, ?_, ?_, ?_, ?_, ?_⟩
  · rw [up_n (by decide), up_o (by omega), up_o (by omega)]; exact h0
  · rw [up_n (by decide), up_o (by omega), up_o (by omega)]; exact h3
  · exact up_s
  · rw [up_n (by decide), up_o (by omega), up_o (by omega)]; exact h9
  · intro k hk; rw [up_o (by omega), up_o (by omega), up_o (by omega)]; exact h1 k hk
  · intro k hk; rw [up_o (by omega), up_o (by omega), up_o (by omega)]; exact h2 k hk
  · intro k hk; rw [up_o (by omega), up_o (by omega), up_o (by omega)]; exact h4 k hk
  · intro k hk; rw [up_o (by omega), up_o (by omega), up_o (by omega)]; exact h5 k hk
  · intro k hk
    have hk : k < zg ρ + 1 := hk
    show _ = nI (fup (zy ρ) (zg ρ) y k)
    by_cases e : k = zg ρ
    · subst e; rw [up_o (by omega), up_o (by omega), up_s, fup_s]
    · rw [up_o (by omega), up_o (by omega), up_n e, fup_n e]; exact h7 k (by omega)
  · intro k hk
    have hk : k < zg ρ + 1 := hk
    show _ = nI (fup (zh ρ) (zg ρ) v k)
    by_cases e : k = zg ρ
    · subst e; rw [up_o (by omega), up_s, fup_s]
    · rw [up_o (by omega), up_n e, fup_n e]; rw [up_o (by omega)]; exact h8 k (by omega)

/-- a Text at T: its row is m cells of sheet k from f on; it stands at a -/
def isT (x : hX) (I : Nat → Nat → Int32) (T k f m a : Nat) : Prop := 102 ≤ T ∧ T < 102 + x.1 ∧ k < 4 ∧ f + m ≤ 60 ∧ a ≤ m ∧ x.2 T 0 = some (72 + 2 * k + 1) ∧ I T 1 = nI f ∧ I T 2 = nI m ∧ I T 3 = nI a
theorem K0_T {T : Nat} (h : 102 ≤ T) : K0 T = (7, 0) := by
  unfold K0
  rw [List.getD_eq_getElem?_getD, List.getElem?_eq_none (by show 102 ≤ T; exact h)]
  rfl
theorem isT.K {x : hX} {I : Nat → Nat → Int32} {T k f m a : Nat} (h : isT x I T k f m a) : (K0 T).1 = 7 := by rw [K0_T h.1]
theorem isT.r0 {x : hX} {I : Nat → Nat → Int32} {T k f m a : Nat} (h : isT x I T k f m a) : hR x T 0 = some (72 + 2 * k + 1) := by
  unfold hR; rw [if_neg (by have := h.1; omega)]; exact h.2.2.2.2.2.1
theorem isT.at {x : hX} {I : Nat → Nat → Int32} {T k f m a : Nat} (h : isT x I T k f m a) (ha : a < m) : isT x (sm_up I T 3 (nI (a + 1))) T k f m (a + 1) :=
  ⟨h.1, h.2.1, h.2.2.1, h.2.2.2.1, ha, h.2.2.2.2.2.1, by rw [up_n (by decide)]; exact h.2.2.2.2.2.2.1, by rw [up_n (by decide)]; exact h.2.2.2.2.2.2.2.1, up_s⟩
theorem isT.up {x : hX} {I : Nat → Nat → Int32} {T k f m a q j : Nat} {v : Int32} (h : isT x I T k f m a) (hq : q < 102) : isT x (sm_up I q j v) T k f m a :=
  ⟨h.1, h.2.1, h.2.2.1, h.2.2.2.1, h.2.2.2.2.1, h.2.2.2.2.2.1, by rw [up_o (by have := h.1; omega)]; exact h.2.2.2.2.2.2.1, by rw [up_o (by have := h.1; omega)]; exact h.2.2.2.2.2.2.2.1, by rw [up_o (by have := h.1; omega)]; exact h.2.2.2.2.2.2.2.2⟩
/-- its codes -/
def isC (I : Nat → Nat → Int32) (k f m : Nat) (c : Nat → Int32) : Prop := ∀ j, j < m → I (72 + 2 * k + 1) (f + j) = c j
theorem isRd.T {x : hX} {I : Nat → Nat → Int32} {T k f m a : Nat} {ρ : zR} {v : Int32} (hT : isT x I T k f m a) (h : isRd I 9 ρ) : isRd (sm_up I T 3 v) 9 ρ := h.same (fun t t1 t2 => up_o (by have := hT.1; omega))
/-- all but the draft and the text -/
def frD (T : Nat) (I I' : Nat → Nat → Int32) : Prop := (∀ t, (t < 9 ∨ 15 < t) → t ≠ T → I' t = I t) ∧ I' 9 10 = I 9 10
theorem frD.tr {T : Nat} {I J K : Nat → Nat → Int32} (h : frD T I J) (h2 : frD T J K) : frD T I K := ⟨fun t a b => by rw [h2.1 t a b, h.1 t a b], by rw [h2.2, h.2]⟩
theorem frD_0 {T : Nat} {I : Nat → Nat → Int32} : frD T I I := ⟨fun _ _ _ => rfl, rfl⟩
theorem frD_T {T j : Nat} {I : Nat → Nat → Int32} {v : Int32} (h : 102 ≤ T) : frD T I (sm_up I T j v) := ⟨fun t _ b => up_o b, by rw [up_o (by omega)]⟩
theorem frD_d {T q j : Nat} {I : Nat → Nat → Int32} {v : Int32} (h1 : 10 ≤ q) (h2 : q ≤ 15) : frD T I (sm_up I q j v) := ⟨fun t a _ => up_o (by omega), by rw [up_o (by omega)]⟩
theorem frD_9 {T j : Nat} {I : Nat → Nat → Int32} {v : Int32} (h1 : j ≠ 10) : frD T I (sm_up I 9 j v) := ⟨fun t a _ => up_o (by omega), by rw [up_n (Ne.symm h1)]⟩
theorem isC.fr {T k f m : Nat} {I I' : Nat → Nat → Int32} {c : Nat → Int32} (h : isC I k f m c) (hf : frD T I I') (hk : k < 4) (hT : 102 ≤ T) : isC I' k f m c := fun j hj => by rw [hf.1 _ (by omega) (by omega)]; exact h j hj

set_option maxHeartbeats 4000000 in
set_option maxRecDepth 100000 in
theorem ct_X4_takes {d : Nat} {x : hX} {I : Nat → Nat → Int32} {T k f m a : Nat} {c : Nat → Int32} (hT : isT x I T k f m a) (hc : isC I k f m c) {ch : Int32} (hch : ¬ (-9 : Int32) = ch) : ci (d + 1) MX4_takes [.ref T, .int ch] (hp x I) (fun r h' => (h' = hp x (sm_up I T 3 (nI (a + 1))) ∧ r = 1 ∧ a < m ∧ cde c m a = ch) ∨ (h' = hp x I ∧ r = 0 ∧ ¬ cde c m a = ch)) := by
  have hfm := hT.2.2.2.1
  have ham := hT.2.2.2.2.1
  refine c_in (L := [.ref T, .int ch]) rfl rfl ?_
  refine r_s (pc' := 1) dX4_takes_0 rfl rfl ?_
  refine h_gi (pc' := 4) dX4_takes_1 rfl fX4_9 hT.2.1 hT.K ?_
  refine r_top (hT.2.2.2.2.2.2.2.2) ?_
  refine r_s (pc' := 5) dX4_takes_4 rfl rfl ?_
  refine h_gi (pc' := 8) dX4_takes_5 rfl fX4_27 hT.2.1 hT.K ?_
  refine r_top (hT.2.2.2.2.2.2.2.1) ?_
  refine r_cge (pc' := 11) (tgt := 29) dX4_takes_8 rfl (by decide) (fun c8 => ?_) (fun c8 => ?_)
  · refine r_c (pc' := 30) dX4_takes_29 rfl kc_iconst_0 ?_
    refine r_reti dX4_takes_30 rfl (rfl) (Nat.le_of_ble_eq_true rfl) (Nat.le_of_ble_eq_true rfl) ⟨_, rfl, ?_⟩
    exact Or.inr ⟨rfl, rfl, by rw [cde_out ((nI_leI (by omega) (by omega)).mp c8)]; exact hch⟩
  · have hlt : a < m := Nat.lt_of_not_le (fun h => c8 (nI_le h (by omega)))
    refine r_s (pc' := 12) dX4_takes_11 rfl rfl ?_
    refine r_gr (pc' := 15) dX4_takes_12 rfl fX4_21 hT.2.1 hT.K hT.r0 ?_
    refine r_s (pc' := 16) dX4_takes_15 rfl rfl ?_
    refine h_gi (pc' := 19) dX4_takes_16 rfl fX4_24 hT.2.1 hT.K ?_
    refine r_top (hT.2.2.2.2.2.2.1) ?_
    refine r_s (pc' := 20) dX4_takes_19 rfl rfl ?_
    refine h_gi (pc' := 23) dX4_takes_20 rfl fX4_9 hT.2.1 hT.K ?_
    refine r_top (hT.2.2.2.2.2.2.2.2) ?_
    refine r_s (pc' := 24) dX4_takes_23 rfl rfl ?_
    refine r_top (nI_add _ _) ?_
    refine h_ald (pc' := 25) dX4_takes_24 rfl (isS_of hT.2.2.1).la (isS_of hT.2.2.1).k1 (vp_in_nI (by omega) (by decide)) (nI_clamp (by omega)) ?_
    refine r_top (hc a (by omega)) ?_
    refine r_s (pc' := 26) dX4_takes_25 rfl rfl ?_
    refine r_ceq (pc' := 29) (tgt := 31) dX4_takes_26 rfl (by decide) (fun c26 => ?_) (fun c26 => ?_)
    · refine r_s (pc' := 32) dX4_takes_31 rfl rfl ?_
      refine r_s (pc' := 33) dX4_takes_32 rfl rfl ?_
      refine h_gi (pc' := 36) dX4_takes_33 rfl fX4_9 hT.2.1 hT.K ?_
      refine r_top (hT.2.2.2.2.2.2.2.2) ?_
      refine r_c (pc' := 37) dX4_takes_36 rfl kc_iconst_1 ?_
      refine r_s (pc' := 38) dX4_takes_37 rfl rfl ?_
      refine r_top (nI_1 _) ?_
      refine h_pi (pc' := 41) dX4_takes_38 rfl fX4_9 rfl hT.2.1 hT.K ?_
      refine r_c (pc' := 42) dX4_takes_41 rfl kc_iconst_1 ?_
      refine r_reti dX4_takes_42 rfl (rfl) (Nat.le_of_ble_eq_true rfl) (Nat.le_of_ble_eq_true rfl) ⟨_, rfl, ?_⟩
      exact Or.inl ⟨rfl, rfl, by omega, by rw [cde_in (by omega)]; exact c26⟩
    · refine r_c (pc' := 30) dX4_takes_29 rfl kc_iconst_0 ?_
      refine r_reti dX4_takes_30 rfl (rfl) (Nat.le_of_ble_eq_true rfl) (Nat.le_of_ble_eq_true rfl) ⟨_, rfl, ?_⟩
      exact Or.inr ⟨rfl, rfl, by rw [cde_in (by omega)]; exact c26⟩

set_option maxHeartbeats 4000000 in
set_option maxRecDepth 100000 in
theorem ct_X4_takeDigit {d : Nat} {x : hX} {I : Nat → Nat → Int32} {T k f m a : Nat} {c : Nat → Int32} (hT : isT x I T k f m a) (hc : isC I k f m c) {g : Nat} (hg : g ≤ 9) : ci (d + 1) MX4_takeDigit [.ref T, .int (nI g)] (hp x I) (fun r h' => (∃ v, v ≤ g ∧ h' = hp x (sm_up I T 3 (nI (a + 1))) ∧ r = nI v ∧ a < m ∧ dgt (cde c m a) (g + 1) = some v) ∨ (h' = hp x I ∧ r = -1 ∧ dgt (cde c m a) (g + 1) = none)) := by
  have hfm := hT.2.2.2.1
  have ham := hT.2.2.2.2.1
  refine c_in (L := [.ref T, .int (nI g), .null]) rfl rfl ?_
  refine r_s (pc' := 1) dX4_takeDigit_0 rfl rfl ?_
  refine h_gi (pc' := 4) dX4_takeDigit_1 rfl fX4_9 hT.2.1 hT.K ?_
  refine r_top (hT.2.2.2.2.2.2.2.2) ?_
  refine r_s (pc' := 5) dX4_takeDigit_4 rfl rfl ?_
  refine h_gi (pc' := 8) dX4_takeDigit_5 rfl fX4_27 hT.2.1 hT.K ?_
  refine r_top (hT.2.2.2.2.2.2.2.1) ?_
  refine r_cge (pc' := 11) (tgt := 51) dX4_takeDigit_8 rfl (by decide) (fun c8 => ?_) (fun c8 => ?_)
  · refine r_c (pc' := 52) dX4_takeDigit_51 rfl kc_iconst_m1 ?_
    refine r_reti dX4_takeDigit_52 rfl (rfl) (Nat.le_of_ble_eq_true rfl) (Nat.le_of_ble_eq_true rfl) ⟨_, rfl, ?_⟩
    exact Or.inr ⟨rfl, rfl, by rw [cde_out ((nI_leI (by omega) (by omega)).mp c8)]; exact dgt_n (by omega) (fun j hj e => absurd (show ((-9 : Int32) - 48) < 0 by decide) (by rw [e]; exact nI_pos (by omega)))⟩
  · have hlt : a < m := Nat.lt_of_not_le (fun h => c8 (nI_le h (by omega)))
    refine r_s (pc' := 12) dX4_takeDigit_11 rfl rfl ?_
    refine r_gr (pc' := 15) dX4_takeDigit_12 rfl fX4_21 hT.2.1 hT.K hT.r0 ?_
    refine r_s (pc' := 16) dX4_takeDigit_15 rfl rfl ?_
    refine h_gi (pc' := 19) dX4_takeDigit_16 rfl fX4_24 hT.2.1 hT.K ?_
    refine r_top (hT.2.2.2.2.2.2.1) ?_
    refine r_s (pc' := 20) dX4_takeDigit_19 rfl rfl ?_
    refine h_gi (pc' := 23) dX4_takeDigit_20 rfl fX4_9 hT.2.1 hT.K ?_
    refine r_top (hT.2.2.2.2.2.2.2.2) ?_
    refine r_s (pc' := 24) dX4_takeDigit_23 rfl rfl ?_
    refine r_top (nI_add _ _) ?_
    refine h_ald (pc' := 25) dX4_takeDigit_24 rfl (isS_of hT.2.2.1).la (isS_of hT.2.2.1).k1 (vp_in_nI (by omega) (by decide)) (nI_clamp (by omega)) ?_
    refine r_top (hc a (by omega)) ?_
    refine r_c (pc' := 27) dX4_takeDigit_25 rfl kc_bipush_48 ?_
    refine r_clt (pc' := 30) (tgt := 51) dX4_takeDigit_27 rfl (by decide) (fun c27 => ?_) (fun c27 => ?_)
    · refine r_c (pc' := 52) dX4_takeDigit_51 rfl kc_iconst_m1 ?_
      refine r_reti dX4_takeDigit_52 rfl (rfl) (Nat.le_of_ble_eq_true rfl) (Nat.le_of_ble_eq_true rfl) ⟨_, rfl, ?_⟩
      exact Or.inr ⟨rfl, rfl, by rw [cde_in hlt]; exact dgt_n (by omega) (fun j hj e => by rw [sub48 e] at c27; exact nI_nlt (a := 48 + j) (b := 48) (by omega) (by omega) c27)⟩
    · refine r_s (pc' := 31) dX4_takeDigit_30 rfl rfl ?_
      refine r_gr (pc' := 34) dX4_takeDigit_31 rfl fX4_21 hT.2.1 hT.K hT.r0 ?_
      refine r_s (pc' := 35) dX4_takeDigit_34 rfl rfl ?_
      refine h_gi (pc' := 38) dX4_takeDigit_35 rfl fX4_24 hT.2.1 hT.K ?_
      refine r_top (hT.2.2.2.2.2.2.1) ?_
      refine r_s (pc' := 39) dX4_takeDigit_38 rfl rfl ?_
      refine h_gi (pc' := 42) dX4_takeDigit_39 rfl fX4_9 hT.2.1 hT.K ?_
      refine r_top (hT.2.2.2.2.2.2.2.2) ?_
      refine r_s (pc' := 43) dX4_takeDigit_42 rfl rfl ?_
      refine r_top (nI_add _ _) ?_
      refine h_ald (pc' := 44) dX4_takeDigit_43 rfl (isS_of hT.2.2.1).la (isS_of hT.2.2.1).k1 (vp_in_nI (by omega) (by decide)) (nI_clamp (by omega)) ?_
      refine r_top (hc a (by omega)) ?_
      refine r_c (pc' := 46) dX4_takeDigit_44 rfl kc_bipush_48 ?_
      refine r_s (pc' := 47) dX4_takeDigit_46 rfl rfl ?_
      refine r_s (pc' := 48) dX4_takeDigit_47 rfl rfl ?_
      refine r_top ((nI_add 48 g : nI 48 + nI g = nI (48 + g))) ?_
      refine r_cle (pc' := 51) (tgt := 53) dX4_takeDigit_48 rfl (by decide) (fun c48 => ?_) (fun c48 => ?_)
      · have hd : ∃ j, j ≤ g ∧ c a = nI (48 + j) := by
          obtain ⟨i, hi, ei⟩ := x_in' (n := 48 + g) (k := c a) (fun h => c27 (Int32.lt_trans h (by decide))) c48 (by omega)
          refine ⟨i - 48, by omega, ?_⟩
          rw [ei]; refine congrArg nI ?_
          have : ¬ i < 48 := fun h => c27 (by rw [ei]; exact nI_lt h (by decide))
          omega
        refine r_s (pc' := 54) dX4_takeDigit_53 rfl rfl ?_
        refine r_gr (pc' := 57) dX4_takeDigit_54 rfl fX4_21 hT.2.1 hT.K hT.r0 ?_
        refine r_s (pc' := 58) dX4_takeDigit_57 rfl rfl ?_
        refine h_gi (pc' := 61) dX4_takeDigit_58 rfl fX4_24 hT.2.1 hT.K ?_
        refine r_top (hT.2.2.2.2.2.2.1) ?_
        refine r_s (pc' := 62) dX4_takeDigit_61 rfl rfl ?_
        refine h_gi (pc' := 65) dX4_takeDigit_62 rfl fX4_9 hT.2.1 hT.K ?_
        refine r_top (hT.2.2.2.2.2.2.2.2) ?_
        refine r_s (pc' := 66) dX4_takeDigit_65 rfl rfl ?_
        refine r_top (nI_add _ _) ?_
        refine h_ald (pc' := 67) dX4_takeDigit_66 rfl (isS_of hT.2.2.1).la (isS_of hT.2.2.1).k1 (vp_in_nI (by omega) (by decide)) (nI_clamp (by omega)) ?_
        refine r_top (hc a (by omega)) ?_
        refine r_c (pc' := 69) dX4_takeDigit_67 rfl kc_bipush_48 ?_
        refine r_s (pc' := 70) dX4_takeDigit_69 rfl rfl ?_
        refine r_st_2_3 (pc' := 71) dX4_takeDigit_70 rfl rfl rfl ?_
        refine r_s (pc' := 72) dX4_takeDigit_71 rfl rfl ?_
        refine r_s (pc' := 73) dX4_takeDigit_72 rfl rfl ?_
        refine h_gi (pc' := 76) dX4_takeDigit_73 rfl fX4_9 hT.2.1 hT.K ?_
        refine r_top (hT.2.2.2.2.2.2.2.2) ?_
        refine r_c (pc' := 77) dX4_takeDigit_76 rfl kc_iconst_1 ?_
        refine r_s (pc' := 78) dX4_takeDigit_77 rfl rfl ?_
        refine r_top (nI_1 _) ?_
        refine h_pi (pc' := 81) dX4_takeDigit_78 rfl fX4_9 rfl hT.2.1 hT.K ?_
        refine r_s (pc' := 82) dX4_takeDigit_81 rfl rfl ?_
        refine r_reti dX4_takeDigit_82 rfl (rfl) (Nat.le_of_ble_eq_true rfl) (Nat.le_of_ble_eq_true rfl) ⟨_, rfl, ?_⟩
        obtain ⟨j, hj, ej⟩ := hd
        exact Or.inl ⟨j, by omega, rfl, by rw [ej]; exact add48, hlt, by rw [cde_in hlt]; exact dgt_s (by omega) (by omega) (by rw [ej]; exact add48)⟩
      · refine r_c (pc' := 52) dX4_takeDigit_51 rfl kc_iconst_m1 ?_
        refine r_reti dX4_takeDigit_52 rfl (rfl) (Nat.le_of_ble_eq_true rfl) (Nat.le_of_ble_eq_true rfl) ⟨_, rfl, ?_⟩
        exact Or.inr ⟨rfl, rfl, by rw [cde_in hlt]; exact dgt_n (by omega) (fun j hj e => c48 (by rw [sub48 e]; exact nI_le (by omega) (by omega)))⟩

set_option maxHeartbeats 4000000 in
set_option maxRecDepth 100000 in
theorem ct_X4_takeKind {d : Nat} {x : hX} {I : Nat → Nat → Int32} {T k f m a : Nat} {c : Nat → Int32} (hT : isT x I T k f m a) (hc : isC I k f m c) : ci (d + 2) MX4_takeKind [.ref T] (hp x I) (fun r h' => (∃ v, v ≤ 2 ∧ h' = hp x (sm_up I T 3 (nI (a + 1))) ∧ r = nI v ∧ a < m ∧ kdc (cde c m a) = some v) ∨ (h' = hp x I ∧ r = -9 ∧ kdc (cde c m a) = none)) := by
  have hfm := hT.2.2.2.1
  have ham := hT.2.2.2.2.1
  refine c_in (L := [.ref T]) rfl rfl ?_
  refine r_s (pc' := 1) dX4_takeKind_0 rfl rfl ?_
  refine r_c (pc' := 3) dX4_takeKind_1 rfl kc_bipush_110 ?_
  refine r_Vi1 (pc' := 6) dX4_takeKind_3 rfl lX4_35 hT.2.1 hT.K rfl rfl rfl (Nat.le_of_ble_eq_true rfl) (Nat.le_of_ble_eq_true rfl) (ct_X4_takes hT hc (ch := 110) (by decide)) (fun r3 h3 e3 => ?_)
  rcases e3 with ⟨rfl, rfl, hlt, e0⟩ | ⟨rfl, rfl, e0⟩
  · refine r_ifeq_f (pc' := 9) (tgt := 13) dX4_takeKind_6 rfl (by decide) (by decide) ?_
    refine r_c (pc' := 10) dX4_takeKind_9 rfl kc_iconst_0 ?_
    refine r_goto (tgt := 41) dX4_takeKind_10 (by decide) ?_
    refine r_reti dX4_takeKind_41 rfl (rfl) (Nat.le_of_ble_eq_true rfl) (Nat.le_of_ble_eq_true rfl) ⟨_, rfl, ?_⟩
    exact Or.inl ⟨0, by decide, rfl, rfl, hlt, by unfold kdc; rw [if_pos e0]⟩
  · refine r_ifeq_t (tgt := 13) dX4_takeKind_6 (by decide) (by decide) ?_
    refine r_s (pc' := 14) dX4_takeKind_13 rfl rfl ?_
    refine r_c (pc' := 16) dX4_takeKind_14 rfl kc_bipush_108 ?_
    refine r_Vi1 (pc' := 19) dX4_takeKind_16 rfl lX4_35 hT.2.1 hT.K rfl rfl rfl (Nat.le_of_ble_eq_true rfl) (Nat.le_of_ble_eq_true rfl) (ct_X4_takes hT hc (ch := 108) (by decide)) (fun r16 h16 e16 => ?_)
    rcases e16 with ⟨rfl, rfl, hlt, e1⟩ | ⟨rfl, rfl, e1⟩
    · refine r_ifeq_f (pc' := 22) (tgt := 26) dX4_takeKind_19 rfl (by decide) (by decide) ?_
      refine r_c (pc' := 23) dX4_takeKind_22 rfl kc_iconst_1 ?_
      refine r_goto (tgt := 41) dX4_takeKind_23 (by decide) ?_
      refine r_reti dX4_takeKind_41 rfl (rfl) (Nat.le_of_ble_eq_true rfl) (Nat.le_of_ble_eq_true rfl) ⟨_, rfl, ?_⟩
      exact Or.inl ⟨1, by decide, rfl, rfl, hlt, by unfold kdc; rw [if_neg e0, if_pos e1]⟩
    · refine r_ifeq_t (tgt := 26) dX4_takeKind_19 (by decide) (by decide) ?_
      refine r_s (pc' := 27) dX4_takeKind_26 rfl rfl ?_
      refine r_c (pc' := 29) dX4_takeKind_27 rfl kc_bipush_99 ?_
      refine r_Vi1 (pc' := 32) dX4_takeKind_29 rfl lX4_35 hT.2.1 hT.K rfl rfl rfl (Nat.le_of_ble_eq_true rfl) (Nat.le_of_ble_eq_true rfl) (ct_X4_takes hT hc (ch := 99) (by decide)) (fun r29 h29 e29 => ?_)
      rcases e29 with ⟨rfl, rfl, hlt, e2⟩ | ⟨rfl, rfl, e2⟩
      · refine r_ifeq_f (pc' := 35) (tgt := 39) dX4_takeKind_32 rfl (by decide) (by decide) ?_
        refine r_c (pc' := 36) dX4_takeKind_35 rfl kc_iconst_2 ?_
        refine r_goto (tgt := 41) dX4_takeKind_36 (by decide) ?_
        refine r_reti dX4_takeKind_41 rfl (rfl) (Nat.le_of_ble_eq_true rfl) (Nat.le_of_ble_eq_true rfl) ⟨_, rfl, ?_⟩
        exact Or.inl ⟨2, by decide, rfl, rfl, hlt, by unfold kdc; rw [if_neg e0, if_neg e1, if_pos e2]⟩
      · refine r_ifeq_t (tgt := 39) dX4_takeKind_32 (by decide) (by decide) ?_
        refine r_c (pc' := 41) dX4_takeKind_39 rfl kc_bipush_m9 ?_
        refine r_reti dX4_takeKind_41 rfl (rfl) (Nat.le_of_ble_eq_true rfl) (Nat.le_of_ble_eq_true rfl) ⟨_, rfl, ?_⟩
        exact Or.inr ⟨rfl, rfl, by unfold kdc; rw [if_neg e0, if_neg e1, if_neg e2]⟩
