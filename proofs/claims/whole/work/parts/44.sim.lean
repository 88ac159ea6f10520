/-! A night in words: guests by where they are; sets of them as bits. -/
def cb0 (t : Nat) : Nat → Nat
  | 0 => 0
  | g + 1 => cb0 t g + (if t.testBit g then 1 else 0)
/-- how many of the set t come ahead of g, by the rule l -/
def cbr (l t g : Nat) : Nat := if l = 0 then cb0 t g else cb0 t 8 - cb0 t (g + 1)
def wlst (t : Nat) : Nat → Nat
  | 0 => t
  | m + 1 => wlst t m &&& (wlst t m - 1)
def andn (t u : Nat) : Nat := t &&& (u ^^^ 4294967295)
/-- whom an inn keeps of the set t, with room for r -/
def kpt (l t r : Nat) : Nat := if l = 0 then andn t (wlst t (min r (cb0 t 8))) else wlst t (cb0 t 8 - min r (cb0 t 8))
set_option maxRecDepth 100000 in
theorem KPT0 : ∀ l, l < 2 → ∀ t, t < 256 → ∀ r, r < 9 → kpt l t r < 256 ∧ ∀ g, g < 8 → (kpt l t r).testBit g = (t.testBit g && decide (cbr l t g < r)) := by decide +kernel
set_option maxRecDepth 100000 in
theorem cb0_le8 : ∀ t, t < 256 → cb0 t 8 ≤ 8 ∧ ∀ l, l < 2 → ∀ g, g < 8 → cbr l t g < 8 := by decide +kernel
theorem KPT {l t r : Nat} (hl : l < 2) (ht : t < 256) : kpt l t r < 256 ∧ ∀ g, g < 8 → (kpt l t r).testBit g = (t.testBit g && decide (cbr l t g < r)) := by
  by_cases hr : r < 9
  · exact KPT0 l hl t ht r hr
  · have h8 := cb0_le8 t ht
    have e : kpt l t r = kpt l t 8 := by
      unfold kpt
      rw [Nat.min_eq_right (by omega : cb0 t 8 ≤ r), Nat.min_eq_right h8.1]
    rw [e]
    have h := KPT0 l hl t ht 8 (by decide)
    refine ⟨h.1, fun g hg => ?_⟩
    rw [h.2 g hg, decide_eq_true (h8.2 l hl g hg), decide_eq_true (by have := h8.2 l hl g hg; omega)]
/-- the guests who are at k -/
def mA (A : Nat → Nat) (G k : Nat) : Nat := mk (fun g => decide (A g = k)) G
theorem mA_lt {A : Nat → Nat} {G k : Nat} (hG : G ≤ 8) : mA A G k < 256 := Nat.lt_of_lt_of_le (mk_lt _ G) (Nat.pow_le_pow_right (by decide) hG : 2 ^ G ≤ 2 ^ 8)
theorem mA_bit {A : Nat → Nat} {G k g : Nat} : (mA A G k).testBit g = (decide (g < G) && decide (A g = k)) := mk_bit _ g G
theorem bit_ext {a b : Nat} (ha : a < 256) (hb : b < 256) (h : ∀ g, g < 8 → a.testBit g = b.testBit g) : a = b := by
  apply Nat.eq_of_testBit_eq
  intro i
  by_cases hi : i < 8
  · exact h i hi
  · rw [Nat.testBit_lt_two_pow (Nat.lt_of_lt_of_le ha (Nat.pow_le_pow_right (by decide) (by omega) : 2 ^ 8 ≤ 2 ^ i)), Nat.testBit_lt_two_pow (Nat.lt_of_lt_of_le hb (Nat.pow_le_pow_right (by decide) (by omega) : 2 ^ 8 ≤ 2 ^ i))]
theorem andn_bit {t u g : Nat} (hg : g < 32) : (andn t u).testBit g = (t.testBit g && !u.testBit g) := by
  unfold andn
  have e : (4294967295 : Nat) = 2 ^ 32 - 1 := by decide
  rw [Nat.testBit_and, Nat.testBit_xor, e, Nat.testBit_two_pow_sub_one, decide_eq_true hg, Bool.xor_true]
theorem andn_lt {t u : Nat} (ht : t < 256) : andn t u < 256 := Nat.lt_of_le_of_lt Nat.and_le_left ht
theorem or_lt {t u : Nat} (ht : t < 256) (hu : u < 256) : t ||| u < 256 := Nat.or_lt_two_pow (n := 8) ht hu
/-- inn k keeps r of those who are there, and passes the others to 'to' -/
def psk (l G k to r : Nat) (A : Nat → Nat) : Nat → Nat := fun g => if g < G ∧ A g = k then (if cbr l (mA A G k) g < r then k else to) else A g
theorem psk_k {l G k to r : Nat} {A : Nat → Nat} (hl : l < 2) (hG : G ≤ 8) (hne : to ≠ k) : mA (psk l G k to r A) G k = kpt l (mA A G k) r := by
  have h := KPT (r := r) hl (mA_lt (A := A) (k := k) hG)
  refine bit_ext (mA_lt hG) h.1 (fun g hg => ?_)
  rw [h.2 g hg, mA_bit, mA_bit]
  unfold psk
  by_cases h1 : g < G
  · by_cases h2 : A g = k
    · rw [if_pos ⟨h1, h2⟩]
      by_cases h3 : cbr l (mA A G k) g < r
      · rw [if_pos h3]; simp [h1, h2, h3]
      · rw [if_neg h3]; simp [h1, h2, h3, hne]
    · rw [if_neg (fun q => h2 q.2)]; simp [h1, h2]
  · simp [h1]
theorem psk_to {l G k to r : Nat} {A : Nat → Nat} (hl : l < 2) (hG : G ≤ 8) (hne : to ≠ k) : mA (psk l G k to r A) G to = mA A G to ||| andn (mA A G k) (kpt l (mA A G k) r) := by
  have h := KPT (r := r) hl (mA_lt (A := A) (k := k) hG)
  refine bit_ext (mA_lt hG) (or_lt (mA_lt hG) (andn_lt (mA_lt hG))) (fun g hg => ?_)
  rw [Nat.testBit_or, andn_bit (by omega), h.2 g hg, mA_bit, mA_bit, mA_bit]
  unfold psk
  by_cases h1 : g < G
  · by_cases h2 : A g = k
    · rw [if_pos ⟨h1, h2⟩]
      have h4 : ¬ A g = to := fun e => hne (e.symm.trans h2)
      by_cases h3 : cbr l (mA A G k) g < r
      · rw [if_pos h3]; simp [h1, h2, h3, Ne.symm hne]
      · rw [if_neg h3]; simp [h1, h2, h3]
    · rw [if_neg (fun q => h2 q.2)]; simp [h1, h2]
  · simp [h1]
theorem psk_o {l G k to r j : Nat} {A : Nat → Nat} (h1 : j ≠ k) (h2 : j ≠ to) : mA (psk l G k to r A) G j = mA A G j := by
  refine mk_cg (fun g hg => ?_)
  show decide ((if g < G ∧ A g = k then (if cbr l (mA A G k) g < r then k else to) else A g) = j) = decide (A g = j)
  by_cases h3 : A g = k
  · rw [if_pos ⟨hg, h3⟩, h3]
    by_cases h4 : cbr l (mA A G k) g < r
    · rw [if_pos h4]
    · rw [if_neg h4, decide_eq_false (Ne.symm h2), decide_eq_false (Ne.symm h1)]
  · rw [if_neg (fun q => h3 q.2)]
def kst (w z s : Nat) : Nat := if w = 0 then s else z - 1 - s
def gtn (w z : Nat) : Nat := if w = 0 then z - 1 else 0
def tos (w z k : Nat) : Nat := if k = gtn w z then z else if w = 0 then k + 1 else k - 1
def stp (l G w z : Nat) (r : Nat → Nat) (A0 : Nat → Nat) : Nat → (Nat → Nat)
  | 0 => A0
  | s + 1 => psk l G (kst w z s) (tos w z (kst w z s)) (r (kst w z s)) (stp l G w z r A0 s)
abbrev zN : Type := (Nat → Nat) × (Nat → Nat) × Nat
def snw (f : Nat) (D : Nat → Nat) : Nat → Nat := fun k => min 9 (D k + f - 2)
def rom (ρ : zR) (rm : Nat) (D : Nat → Nat) : Nat → Nat := fun k => keeps (zk ρ k) (D k) + rmB rm k
def bck (z gt : Nat) (A : Nat → Nat) : Nat → Nat := fun g => if A g = z then gt else A g
/-- one night, with the wind w -/
def nig (ρ : zR) (rm w n : Nat) (S : zN) : zN := (stp (zl ρ) (zg ρ) w (zi ρ) (rom ρ rm (snw (zf ρ n) S.2.1)) (bck (zi ρ) S.2.2 S.1) (zi ρ), snw (zf ρ n) S.2.1, gtn w (zi ρ))
def bgn (ρ : zR) : zN := (zh ρ, zs ρ, 0)
def sim (ρ : zR) (rm : Nat) (w : Nat → Nat) : Nat → zN
  | 0 => bgn ρ
  | n + 1 => nig ρ rm (w n) n (sim ρ rm w n)
/-- what holds of every state of guests: they are in an inn or on the road, 9 inches at most, the gate is an inn -/
def okN (ρ : zR) (S : zN) : Prop := (∀ g, g < zg ρ → S.1 g ≤ zi ρ) ∧ (∀ k, k < zi ρ → S.2.1 k ≤ 9) ∧ S.2.2 < zi ρ
theorem kst_lt {w z s : Nat} (h : s < z) : kst w z s < z := by unfold kst; split <;> omega
theorem kst_inj {w z s t : Nat} (hs : s < z) (ht : t < z) (e : kst w z s = kst w z t) : s = t := by unfold kst at e; split at e <;> omega
theorem tos_s {w z s : Nat} (h : s + 1 < z) : tos w z (kst w z s) = kst w z (s + 1) := by
  unfold tos kst gtn
  by_cases hw : w = 0
  · simp only [if_pos hw]; rw [if_neg (by omega)]
  · simp only [if_neg hw]; rw [if_neg (by omega)]; omega
theorem tos_l {w z : Nat} (h : 0 < z) : tos w z (kst w z (z - 1)) = z := by
  unfold tos kst gtn
  by_cases hw : w = 0
  · simp only [if_pos hw, if_true]
  · simp only [if_neg hw]; rw [if_pos (by omega)]
theorem tos_le {w z k : Nat} (h : k < z) : tos w z k ≤ z := by unfold tos; split; omega; split <;> omega
theorem tos_ne {w z k : Nat} (h : k < z) : tos w z k ≠ k := by
  unfold tos gtn
  by_cases hw : w = 0
  · simp only [if_pos hw]; split <;> omega
  · simp only [if_neg hw]; split <;> omega
theorem stp_le {l G w z : Nat} {r A0 : Nat → Nat} (h : ∀ g, g < G → A0 g ≤ z) : ∀ s, s ≤ z → ∀ g, g < G → stp l G w z r A0 s g ≤ z
  | 0, _, g, hg => h g hg
  | s + 1, hs, g, hg => by
    have ih := stp_le (l := l) (w := w) (r := r) h s (by omega) g hg
    have hk := kst_lt (w := w) (z := z) (s := s) (by omega)
    show psk l G (kst w z s) (tos w z (kst w z s)) (r (kst w z s)) (stp l G w z r A0 s) g ≤ z
    unfold psk
    split
    · split
      · omega
      · exact tos_le hk
    · exact ih
theorem nig_ok {ρ : zR} {rm w n : Nat} {S : zN} (h : okN ρ S) (hz : 0 < zi ρ) : okN ρ (nig ρ rm w n S) := by
  refine ⟨stp_le (fun g hg => ?_) _ (Nat.le_refl _), fun k hk => Nat.min_le_left _ _, ?_⟩
  · show (if S.1 g = zi ρ then S.2.2 else S.1 g) ≤ zi ρ
    have := h.1 g hg
    have := h.2.2
    split <;> omega
  · show gtn w (zi ρ) < zi ρ
    unfold gtn; split <;> omega
theorem bgn_ok {ρ : zR} (hw : wfR ρ) (hz : 0 < zi ρ) : okN ρ (bgn ρ) := ⟨fun g hg => Nat.le_of_lt (hw.hi hg), fun k hk => hw.s9 hk, hz⟩
theorem sim_ok {ρ : zR} (hw : wfR ρ) (hz : 0 < zi ρ) (rm : Nat) (w : Nat → Nat) : ∀ n, okN ρ (sim ρ rm w n)
  | 0 => bgn_ok hw hz
  | n + 1 => nig_ok (sim_ok hw hz rm w n) hz
theorem bck_m {A : Nat → Nat} {G z gt k : Nat} (hgt : gt < z) (hk : k < z) (hG : G ≤ 8) : mA (bck z gt A) G k = if k = gt then mA A G k ||| mA A G z else mA A G k := by
  by_cases e : k = gt
  · rw [if_pos e]
    refine bit_ext (mA_lt hG) (or_lt (mA_lt hG) (mA_lt hG)) (fun g hg => ?_)
    rw [Nat.testBit_or, mA_bit, mA_bit, mA_bit]
    unfold bck
    by_cases h1 : A g = z
    · rw [if_pos h1]; simp [h1, e]; exact fun h _ => h
    · rw [if_neg h1]; simp [h1]
  · rw [if_neg e]
    refine mk_cg (fun g hg => ?_)
    show decide ((if A g = z then gt else A g) = k) = decide (A g = k)
    by_cases h1 : A g = z
    · rw [if_pos h1, h1, decide_eq_false (Ne.symm e), decide_eq_false (by omega)]
    · rw [if_neg h1]
theorem bck_z {A : Nat → Nat} {G z gt : Nat} (hgt : gt < z) : mA (bck z gt A) G z = 0 := by
  have h : ∀ n, mk (fun g => decide (bck z gt A g = z)) n = 0 := by
    intro n
    induction n with
    | zero => rfl
    | succ n ih =>
      rw [mk, ih, if_neg]
      unfold bck
      by_cases h1 : A n = z
      · rw [if_pos h1]; simp; omega
      · rw [if_neg h1]; simp [h1]
  exact h G
set_option maxRecDepth 100000 in
theorem SNW : ∀ d, d < 10 → ∀ f, f < 6 → (if (0 : Int32) < (if nI d + (nI f - 2) < 9 then nI d + (nI f - 2) else 9) then (if nI d + (nI f - 2) < 9 then nI d + (nI f - 2) else 9) else 0) = nI (min 9 (d + f - 2)) := by decide +kernel
theorem fb_xorI (a b : Nat) : nI a ^^^ nI b = nI (a ^^^ b) := by
  apply Int32.toBitVec_inj.1
  show BitVec.ofNat 32 a ^^^ BitVec.ofNat 32 b = BitVec.ofNat 32 (a ^^^ b)
  apply BitVec.eq_of_getLsbD_eq
  intro i hi
  simp [hi]
theorem nI_andn {t u : Nat} : nI t &&& (nI u ^^^ (-1)) = nI (andn t u) := by
  have e : (-1 : Int32) = nI 4294967295 := by decide
  rw [e, fb_xorI, fa_and]; rfl
