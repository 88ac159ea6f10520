/-! A small machine over places: what the methods do, said without addresses; one theorem ties it to the machine. -/
abbrev sm_H : Type := Nat × (Nat → Nat × Nat) × (Nat → Nat → Int32) × (Nat → Nat → Option Nat)
abbrev sm_M : Type := MethodName × ByteArray × Nat × Option FieldType
/-- a value whose references are places, as it stands in a heap whose places begin at b -/
def sm_v (b : Nat) (v : Value) : Value := match v with
  | .ref q => .ref (b + q)
  | v => v
theorem sm_v_cat (b : Nat) (v : Value) : (sm_v b v).category = v.category := by cases v <;> rfl
def sm_cl (c : Nat) : vw_C := vwCl.getD c ("", (fun _ => ("", "", "", false)), 0)
/-- the cell at a place: kinds 0 int[], 1 int[][], 2 Sheet[], c + 3 an object of class c -/
def sm_e (b : Nat) (cs : ClassId × ClassId × ClassId) (h : sm_H) (q : Nat) : va_E := match h.2.1 q with
  | (0, n) => .inl (cs.1, n, .inl (h.2.2.1 q))
  | (1, n) => .inl (cs.2.1, n, .inr (.inr (.inr (.inr (fun j => (h.2.2.2 q j).map (fun r => b + r))))))
  | (2, n) => .inl (cs.2.2, n, .inr (.inr (.inr (.inr (fun j => (h.2.2.2 q j).map (fun r => b + r))))))
  | (c + 3, _) => .inr (c, (List.range (sm_cl c).2.2).map (fun j => if ((sm_cl c).2.1 j).2.2.1 = "I" then .int (h.2.2.1 q j) else va_rf ((h.2.2.2 q j).map (fun r => b + r))))
def sm_ws (b : Nat) (cs : ClassId × ClassId × ClassId) (h : sm_H) : va_W := (List.range h.1).map (fun q => (b + q, sm_e b cs h q))
def sm_A (b : Nat) : Nat → Prop := fun q => b ≤ q
/-- the heap holds the picture h -/
def sm_W (b : Nat) (D : va_G) (cs : ClassId × ClassId × ClassId) (h : sm_H) (H : Heap) : Prop := va_P D vwCl (sm_ws b cs h) H ∧ H.size = b + h.1
theorem sm_ws_at (b : Nat) (cs : ClassId × ClassId × ClassId) (h : sm_H) {q : Nat} (hq : q < h.1) : (sm_ws b cs h)[q]? = some (b + q, sm_e b cs h q) := by
  unfold sm_ws
  rw [List.getElem?_map, List.getElem?_range hq]
  rfl
theorem sm_ws_lt {b : Nat} {cs : ClassId × ClassId × ClassId} {h : sm_H} {k : Nat} {x : Nat × va_E} (e : (sm_ws b cs h)[k]? = some x) : k < h.1 ∧ x = (b + k, sm_e b cs h k) := by
  have hk : k < h.1 := by
    have := (List.getElem?_eq_some_iff.mp e).1
    unfold sm_ws at this
    rw [List.length_map, List.length_range] at this
    exact this
  rw [sm_ws_at b cs h hk] at e
  exact ⟨hk, (Option.some.inj e).symm⟩
theorem sm_ws_D (b : Nat) (cs : ClassId × ClassId × ClassId) (h : sm_H) : va_D (sm_A b) (sm_ws b cs h) := by
  refine ⟨fun i j p q hi hj e => ?_, fun k q hk => ?_⟩
  · obtain ⟨-, rfl⟩ := sm_ws_lt hi
    obtain ⟨-, rfl⟩ := sm_ws_lt hj
    have e : b + i = b + j := e
    omega
  · obtain ⟨-, rfl⟩ := sm_ws_lt hk
    exact Nat.le_add_right b k
/-- the picture with one cell put anew -/
theorem sm_ws_set {b : Nat} {cs : ClassId × ClassId × ClassId} {h h' : sm_H} {q : Nat} {x : va_E} (hn : h'.1 = h.1) (hx : sm_e b cs h' q = x) (ho : ∀ r, r ≠ q → sm_e b cs h' r = sm_e b cs h r) : (sm_ws b cs h).set q (b + q, x) = sm_ws b cs h' := by
  apply List.ext_getElem?
  intro k
  by_cases hk : k < h.1
  · rw [sm_ws_at b cs h' (by rw [hn]; exact hk)]
    by_cases e : k = q
    · subst e
      rw [List.getElem?_set_self (by unfold sm_ws; rw [List.length_map, List.length_range]; exact hk), hx]
    · rw [List.getElem?_set_ne (Ne.symm e), sm_ws_at b cs h hk, ho k e]
  · rw [List.getElem?_eq_none (by unfold sm_ws; rw [List.length_set, List.length_map, List.length_range]; omega), List.getElem?_eq_none (by unfold sm_ws; rw [List.length_map, List.length_range, hn]; omega)]
def sm_up {α : Type} (f : Nat → Nat → α) (q j : Nat) (v : α) : Nat → Nat → α := fun q' j' => if q' = q then (if j' = j then v else f q' j') else f q' j'
def sm_si (h : sm_H) (q j : Nat) (v : Int32) : sm_H := (h.1, h.2.1, sm_up h.2.2.1 q j v, h.2.2.2)
def sm_sr (h : sm_H) (q j : Nat) (v : Option Nat) : sm_H := (h.1, h.2.1, h.2.2.1, sm_up h.2.2.2 q j v)
/-- a whole int row anew -/
def sm_sw (h : sm_H) (q : Nat) (f : Nat → Int32) : sm_H := (h.1, h.2.1, (fun q' => if q' = q then f else h.2.2.1 q'), h.2.2.2)
/-- k new places of these kinds, with 0 and null in them; refs as told -/
def sm_nw (h : sm_H) (k : Nat) (kd : Nat → Nat × Nat) (rf : Nat → Nat → Option Nat) : sm_H := (h.1 + k, (fun q => if q < h.1 then h.2.1 q else kd (q - h.1)), (fun q j => if q < h.1 then h.2.2.1 q j else 0), (fun q j => if q < h.1 then h.2.2.2 q j else rf (q - h.1) j))
/-- locals -/
def sm_kl (L : List Value) (i : Nat) : List Value := match i with
  | 0 => L
  | j + 1 => if (L.getD j .null).category = 2 then L.set j .null else L
def sm_s1 (L : List Value) (i : Nat) (v : Value) : List Value := (sm_kl L i).set i v
def sm_s2 (L : List Value) (i : Nat) (v : Value) : List Value := ((sm_kl L i).set i v).set (i + 1) .null
def sm_L (b : Nat) (ls : Array Slot) (n : Nat) (L : List Value) : Prop := ls.size = n ∧ lv_wf ls ∧ L.length = n ∧ ∀ (i : Nat) (v : Value), L[i]? = some v → v ≠ .null → ls[i]? = some (.val (sm_v b v))
def sm_pr (b : Nat) (L : List Value) : List (Nat × Value) := (List.range L.length).filterMap (fun i => if L.getD i .null = .null then none else some (i, sm_v b (L.getD i .null)))
theorem sm_getD {L : List Value} {i : Nat} {v : Value} (h : L[i]? = some v) : L.getD i .null = v := by
  rw [List.getD_eq_getElem?_getD, h]; rfl
theorem sm_pr_in {b : Nat} {L : List Value} {i : Nat} {v : Value} (h : L[i]? = some v) (hv : v ≠ .null) : (i, sm_v b v) ∈ sm_pr b L := by
  unfold sm_pr
  refine List.mem_filterMap.mpr ⟨i, List.mem_range.mpr (List.getElem?_eq_some_iff.mp h).1, ?_⟩
  rw [sm_getD h, if_neg hv]
theorem sm_pr_has {b : Nat} {ls : Array Slot} {n : Nat} {L : List Value} (h : sm_L b ls n L) : lv_has ls n (sm_pr b L) := by
  refine ⟨h.1, h.2.1, fun q hq => ?_⟩
  obtain ⟨i, hi, e⟩ := List.mem_filterMap.mp hq
  have hi := List.mem_range.mp hi
  by_cases hz : L.getD i .null = .null
  · rw [if_pos hz] at e; cases e
  · rw [if_neg hz] at e
    cases e
    exact h.2.2.2 i _ (by rw [List.getD_eq_getElem?_getD, List.getElem?_eq_getElem hi]; rfl) hz
theorem sm_kl_len (L : List Value) (i : Nat) : (sm_kl L i).length = L.length := by
  cases i with
  | zero => rfl
  | succ j =>
    show (if (L.getD j .null).category = 2 then L.set j .null else L).length = _
    split
    · rw [List.length_set]
    · rfl
theorem sm_kl_at {L : List Value} {i j : Nat} {v : Value} (h : (sm_kl L i)[j]? = some v) (hv : v ≠ .null) : L[j]? = some v ∧ ¬ (j + 1 = i ∧ v.category = 2) := by
  cases i with
  | zero => exact ⟨h, fun q => by omega⟩
  | succ k =>
    have h5 : (if (L.getD k .null).category = 2 then L.set k .null else L)[j]? = some v := h
    clear h
    by_cases hc : (L.getD k .null).category = 2
    · rw [if_pos hc] at h5
      by_cases e : j = k
      · subst e
        have hl : j < L.length := by
          have := (List.getElem?_eq_some_iff.mp h5).1
          rw [List.length_set] at this
          exact this
        rw [List.getElem?_set_self hl] at h5
        exact absurd (Option.some.inj h5).symm hv
      · rw [List.getElem?_set_ne (Ne.symm e)] at h5
        exact ⟨h5, fun q => e (by omega)⟩
    · rw [if_neg hc] at h5
      refine ⟨h5, fun q => ?_⟩
      have e : j = k := by omega
      subst e
      rw [sm_getD h5] at hc
      exact hc q.2
theorem sm_st1 {b : Nat} {ls' : Array Slot} {n i : Nat} {L : List Value} {v : Value} {l' : List (Nat × Value)} (hL : L.length = n) (h : lv_has ls' n l') (hv : (i, sm_v b v) ∈ l') (ho : ∀ (j : Nat) (w : Value), L[j]? = some w → w ≠ .null → j ≠ i → ¬ (j + 1 = i ∧ w.category = 2) → (j, sm_v b w) ∈ l') : sm_L b ls' n (sm_s1 L i v) := by
  refine ⟨h.1, h.2.1, by unfold sm_s1; rw [List.length_set, sm_kl_len, hL], fun j w hj hw => ?_⟩
  unfold sm_s1 at hj
  by_cases e : j = i
  · subst e
    have hl : j < (sm_kl L j).length := by
      have := (List.getElem?_eq_some_iff.mp hj).1
      rw [List.length_set] at this
      exact this
    rw [List.getElem?_set_self hl] at hj
    cases hj
    exact h.2.2 _ hv
  · rw [List.getElem?_set_ne (Ne.symm e)] at hj
    obtain ⟨h1, h2⟩ := sm_kl_at hj hw
    exact h.2.2 _ (ho j w h1 hw e h2)
theorem sm_st2 {b : Nat} {ls' : Array Slot} {n i : Nat} {L : List Value} {v : Value} {l' : List (Nat × Value)} (hL : L.length = n) (h : lv_has ls' n l') (hv : (i, sm_v b v) ∈ l') (ho : ∀ (j : Nat) (w : Value), L[j]? = some w → w ≠ .null → j ≠ i → j ≠ i + 1 → ¬ (j + 1 = i ∧ w.category = 2) → (j, sm_v b w) ∈ l') : sm_L b ls' n (sm_s2 L i v) := by
  refine ⟨h.1, h.2.1, by unfold sm_s2; rw [List.length_set, List.length_set, sm_kl_len, hL], fun j w hj hw => ?_⟩
  unfold sm_s2 at hj
  by_cases e1 : j = i + 1
  · subst e1
    have hl : i + 1 < ((sm_kl L i).set i v).length := by
      have := (List.getElem?_eq_some_iff.mp hj).1
      rw [List.length_set] at this
      exact this
    rw [List.getElem?_set_self hl] at hj
    exact absurd (Option.some.inj hj).symm hw
  · rw [List.getElem?_set_ne (Ne.symm e1)] at hj
    by_cases e : j = i
    · subst e
      have hl : j < (sm_kl L j).length := by
        have := (List.getElem?_eq_some_iff.mp hj).1
        rw [List.length_set] at this
        exact this
      rw [List.getElem?_set_self hl] at hj
      cases hj
      exact h.2.2 _ hv
    · rw [List.getElem?_set_ne (Ne.symm e)] at hj
      obtain ⟨h1, h2⟩ := sm_kl_at hj hw
      exact h.2.2 _ (ho j w h1 hw e e1 h2)
theorem sm_fl1 {b i : Nat} {L : List Value} {v : Value} : ∀ (j : Nat) (w : Value), L[j]? = some w → w ≠ .null → j ≠ i → ¬ (j + 1 = i ∧ w.category = 2) → (j, sm_v b w) ∈ (i, v) :: (sm_pr b L).filter (fun q => !(q.1 == i) && !(q.1 + 1 == i && q.2.category == 2)) := by
  intro j w h hw e hc
  refine List.mem_cons_of_mem _ (List.mem_filter.mpr ⟨sm_pr_in h hw, ?_⟩)
  simp only [sm_v_cat, Bool.and_eq_true, Bool.not_eq_true', beq_eq_false_iff_ne, ne_eq, Bool.and_eq_false_imp, beq_iff_eq]
  exact ⟨e, fun h1 h2 => hc ⟨h1, h2⟩⟩
theorem sm_fl2 {b i : Nat} {L : List Value} {v : Value} : ∀ (j : Nat) (w : Value), L[j]? = some w → w ≠ .null → j ≠ i → j ≠ i + 1 → ¬ (j + 1 = i ∧ w.category = 2) → (j, sm_v b w) ∈ (i, v) :: (sm_pr b L).filter (fun q => !(q.1 == i) && (!(q.1 == i + 1) && !(q.1 + 1 == i && q.2.category == 2))) := by
  intro j w h hw e e1 hc
  refine List.mem_cons_of_mem _ (List.mem_filter.mpr ⟨sm_pr_in h hw, ?_⟩)
  simp only [sm_v_cat, Bool.and_eq_true, Bool.not_eq_true', beq_eq_false_iff_ne, ne_eq, Bool.and_eq_false_imp, beq_iff_eq]
  exact ⟨e, e1, fun h1 h2 => hc ⟨h1, h2⟩⟩
