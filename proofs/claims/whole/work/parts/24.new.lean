/-! The rules that make cells, return, and call. -/
set_option maxRecDepth 100000 in
theorem sm_cld (k : Nat) (h : vwCl[k]? = some (sm_cl k)) : ∀ j, j < (sm_cl k).2.2 → ((sm_cl k).2.1 j).2.2.1 = "I" ∨ (parseFieldDescriptor ((sm_cl k).2.1 j).2.2.1).map defaultValue = some .null := by
  have hk : k < 8 := (List.getElem?_eq_some_iff.mp h).1
  clear h
  match k, hk with
  | 0, _ => decide +kernel
  | 1, _ => decide +kernel
  | 2, _ => decide +kernel
  | 3, _ => decide +kernel
  | 4, _ => decide +kernel
  | 5, _ => decide +kernel
  | 6, _ => decide +kernel
  | 7, _ => decide +kernel
theorem sm_mAC : Cond.arrayClass .int ∈ lw_tbl := List.mem_of_getElem? (i := 145) rfl
theorem sm_mOI : Cond.instanceMethod objectInit ∈ lw_tbl := by decide +kernel
theorem sm_mOC : Cond.code objectInit ⟨#[0xb1]⟩ 1 none ∈ lw_tbl := List.mem_of_getElem? (i := 68) rfl
theorem sm_mMi : Cond.code Lib.Math.min.name Lib.Math.min.code 2 (some .int) ∈ lw_tbl := List.mem_of_getElem? (i := 409) rfl
theorem sm_mMa : Cond.code Lib.Math.max.name Lib.Math.max.code 2 (some .int) ∈ lw_tbl := List.mem_of_getElem? (i := 437) rfl
theorem sm_mMis : Cond.static Lib.Math.min.name ∈ lw_tbl := by decide +kernel
theorem sm_mMas : Cond.static Lib.Math.max.name ∈ lw_tbl := by decide +kernel
theorem sm_mMI : Cond.initialized "java/lang/Math" ∈ lw_tbl := by decide +kernel
theorem sm_mSI : Cond.initialized "java/lang/System" ∈ lw_tbl := by decide +kernel
theorem sm_mSN : Cond.native arraycopyName ∈ lw_tbl := by decide +kernel
theorem sm_mSS : Cond.static arraycopyName ∈ lw_tbl := by decide +kernel
section SMN
variable {p : Program} {l : Launch} {e : Env} {R : Room} {s : State} {m : MethodId} {args : Array Value} {below : List Frame} {meth : Method} {c : Code} {Qf : State → Prop} {b : Nat} {D : va_G} {cs : ClassId × ClassId × ClassId} {M : sm_M} {d mc ms : Nat} {Q : sm_Q}
theorem sm_vmap {st : List Value} (h : sm_cat st) : ((st.map (sm_v b)).map fun v => v.category).sum ≤ 8 := by
  rw [List.map_map]
  have e : ((fun v : Value => v.category) ∘ sm_v b) = fun v : Value => v.category := funext fun v => sm_v_cat b v
  rw [e]
  exact h
theorem sm_r30 (X : sm_X b D cs p R s m args meth c M d mc ms) : sm_rule (sm_c d) mc ms M Q (sm_P0 p l e R s m args below meth c Qf b D cs M) 30 := by
  obtain ⟨hx, hb, -, ho, ht, ⟨hK, -⟩, -⟩ := X
  intro pc q n0 r i L st h k n hd hq hkd hin hr hk H locs ls hW hS hl
  have hlt : i.toNatClampNeg < n0 := Nat.not_le.mp fun q => hin (Or.inr q)
  exact W.aald (v := .ref (b + r)) (ty := .array .int) hx hb (hW.1 q _ (sm_at_g hq hkd)) ((hK.2 1 _ rfl).1 n0 (fun j => va_rf ((h.2.2.2 q j).map (fun r => b + r)))) rfl (fun q => by cases q) (by show ¬ (i < 0 ∨ (arrV _ _ _).slots.size ≤ _); rw [arrV_size]; exact hin) (by show (arrV _ _ _).slots[_]? = _; rw [arrV_read _ _ hlt]; show some (va_rf (Option.map (fun r => b + r) (h.2.2.2 q i.toNatClampNeg))) = _; rw [hr]; rfl) rfl rfl hd (hk H locs ls hW hS hl)
theorem sm_r31 (X : sm_X b D cs p R s m args meth c M d mc ms) : sm_rule (sm_c d) mc ms M Q (sm_P0 p l e R s m args below meth c Qf b D cs M) 31 := by
  obtain ⟨hx, hb, -, ho, ht, ⟨hK, -⟩, -⟩ := X
  intro pc q n0 r i L st h k n hd hq hkd hin hr hk H locs ls hW hS hl
  have hlt : i.toNatClampNeg < n0 := Nat.not_le.mp fun q => hin (Or.inr q)
  exact W.aald (v := .ref (b + r)) (ty := .object "SnowInns$Sheet") hx hb (hW.1 q _ (sm_at_s hq hkd)) ((hK.2 2 _ rfl).1 n0 (fun j => va_rf ((h.2.2.2 q j).map (fun r => b + r)))) rfl (fun q => by cases q) (by show ¬ (i < 0 ∨ (arrV _ _ _).slots.size ≤ _); rw [arrV_size]; exact hin) (by show (arrV _ _ _).slots[_]? = _; rw [arrV_read _ _ hlt]; show some (va_rf (Option.map (fun r => b + r) (h.2.2.2 q i.toNatClampNeg))) = _; rw [hr]; rfl) rfl rfl hd (hk H locs ls hW hS hl)
theorem sm_r32 (X : sm_X b D cs p R s m args meth c M d mc ms) : sm_rule (sm_c d) mc ms M Q (sm_P0 p l e R s m args below meth c Qf b D cs M) 32 := by
  obtain ⟨hx, hb, -, ho, ht, ⟨hK, -⟩, -⟩ := X
  intro pc q n0 r i L st h k n hd hq hkd hin hrl hrk hk H locs ls hW hS hl
  have hlt : i.toNatClampNeg < n0 := Nat.not_le.mp fun q => hin (Or.inr q)
  have h0 : ¬ i < 0 := fun q => hin (Or.inl q)
  have hc3 : vwCl[3]? = some (sm_cl 3) := rfl
  obtain ⟨r', hr', cellV, g1, g2, g3, -⟩ := hW.1 r _ (sm_at_o (k := 3) hrl hrk)
  have hcls := (hK.1 3 _ hc3).2
  obtain ⟨kA, comp, k1, k2, k3, -⟩ := (hK.2 2 _ rfl).2
  have hcomp : comp = D.1 3 := Option.some.inj (k3.symm.trans hcls.1)
  subst hcomp
  obtain ⟨kC, hkC, -⟩ := hcls.2
  refine W.aast hx hb (hW.1 q _ (sm_at_s hq hkd)) (fun q h => by cases h) (fun h => by cases h) k1 k2 rfl hkC ⟨h0, by show _ < (arrV _ _ _).slots.size; rw [arrV_size]; exact hlt⟩ g1 (fun q h => by rw [g3] at h; cases h) (by rw [g2]; exact hkC) (by rw [g2]; exact va_assign hcls) rfl rfl hd fun H1 e1 z oq => ?_
  refine hk H1 _ ls (hW.put hq (sm_e_s hkd) rfl (sm_e_s (n := n0) (show (sm_sr h q i.toNatClampNeg (some r)).2.1 q = (2, n0) from hkd)) (fun r hr => sm_e_sr hr) ?_ z oq) (hS.put z oq (Nat.le_add_right b q)) hl
  show H1[b + q]? = some (vp_cell _ _)
  rw [e1]
  rw [vp_cell_q, vp_cell_q, arrV_store]
  congr 2
  funext a
  by_cases ha : a = i.toNatClampNeg
  · subst ha
    simp [updV, sm_sr, sm_up, va_rf]
  · simp [updV, sm_sr, sm_up, ha]
/-- new places -/
theorem sm_W.nw {h : sm_H} {k : Nat} {kd : Nat → Nat × Nat} {rf : Nat → Nat → Option Nat} {H H1 : Heap} (hW : sm_W b D cs h H) (hz : H1.size = b + (h.1 + k)) (ho : ∀ q, q < H.size → H1[q]? = H[q]?) (hn : ∀ i, i < k → va_at D vwCl (b + (h.1 + i), sm_e b cs (sm_nw h k kd rf) (h.1 + i)) H1) : sm_W b D cs (sm_nw h k kd rf) H1 := by
  refine ⟨fun i x hx => ?_, hz⟩
  obtain ⟨h1, rfl⟩ := sm_ws_lt hx
  by_cases hi : i < h.1
  · rw [sm_e_cg (h := h) (show (sm_nw h k kd rf).2.1 i = h.2.1 i from if_pos hi) (funext fun j => if_pos hi) (funext fun j => if_pos hi)]
    have h2 := hW.1 i _ (sm_ws_at b cs h hi)
    exact h2.kept (ho _ h2.lt)
  · have h1 : i < h.1 + k := h1
    have e : i = h.1 + (i - h.1) := by omega
    rw [e]
    exact hn _ (by omega)
theorem sm_S.nw {H H1 : Heap} {locs : List Loc} (hS : va_S (sm_A b) s.heap H locs) (hz : H.size ≤ H1.size) (ho : ∀ q, q < H.size → H1[q]? = H[q]?) : va_S (sm_A b) s.heap H1 locs := ⟨Nat.le_trans hS.1 hz, fun x h1 h2 => (ho x (Nat.lt_of_lt_of_le h1 hS.1)).trans (hS.2.1 x h1 h2), hS.2.2⟩
theorem sm_nwk {h : sm_H} {k i : Nat} {kd : Nat → Nat × Nat} {rf : Nat → Nat → Option Nat} : (sm_nw h k kd rf).2.1 (h.1 + i) = kd i := by
  show (if h.1 + i < h.1 then _ else kd (h.1 + i - h.1)) = _
  rw [if_neg (by omega), Nat.add_sub_cancel_left]
theorem sm_nwi {h : sm_H} {k i : Nat} {kd : Nat → Nat × Nat} {rf : Nat → Nat → Option Nat} : (sm_nw h k kd rf).2.2.1 (h.1 + i) = fun _ => 0 := by
  funext j
  show (if h.1 + i < h.1 then _ else (0 : Int32)) = _
  rw [if_neg (by omega)]
theorem sm_nwr {h : sm_H} {k i : Nat} {kd : Nat → Nat × Nat} {rf : Nat → Nat → Option Nat} : (sm_nw h k kd rf).2.2.2 (h.1 + i) = rf i := by
  funext j
  show (if h.1 + i < h.1 then _ else rf (h.1 + i - h.1) j) = _
  rw [if_neg (by omega), Nat.add_sub_cancel_left]
theorem sm_r33 (X : sm_X b D cs p R s m args meth c M d mc ms) : sm_rule (sm_c d) mc ms M Q (sm_P0 p l e R s m args below meth c Qf b D cs M) 33 := by
  obtain ⟨hx, hb, -, ho, ht, ⟨hK, -⟩, -, ⟨-, -, hrc, hrs⟩, -⟩ := X
  intro pc idx c0 L st h k n hd hL hc1 hs1 hk H locs ls hW hS hl
  obtain ⟨f1, f2, f3, f4⟩ := hL
  have hKn := hK.1 c0 _ f1
  refine W.newcK hx hb ho (ht _ f2 rfl) (ht _ f3 rfl) (ht _ f4 rfl) rfl hd (by rw [hrc]; exact hc1) (by rw [hrs]; exact hs1) hKn.2.1 hW.2 fun H1 kC hkC e1 z1 o1 => ?_
  refine hk H1 locs ls (hW.nw (by rw [z1]; omega) (fun q hq => o1 q (by rw [← hW.2]; exact hq)) (fun i hi => ?_)) (sm_S.nw hS (by rw [z1, hW.2]; omega) (fun q hq => o1 q (by rw [← hW.2]; exact hq))) hl
  have hi0 : i = 0 := by omega
  subst hi0
  rw [sm_e_o (k := c0) (show ((sm_nw h 1 (fun _ => (c0 + 3, 0)) (fun _ _ => none)).2.1 (h.1 + 0)).1 = c0 + 3 by rw [sm_nwk])]
  obtain ⟨-, ⟨ty0, h2⟩, -⟩ := sm_cls c0 f1
  refine ⟨_, f1, (u_born ty0 (sm_hts ht) (sm_uin f1) hKn hkC (by rw [Nat.add_zero]; exact e1) h2).to (fun j hj => ?_)⟩
  by_cases hI : ((sm_cl c0).2.1 j).2.2.1 = "I"
  · have e2 : ty0 j = .int := Option.some.inj ((h2 j hj).symm.trans (sm_parseI hI))
    rw [e2]
    unfold vp_V
    rw [List.getD_eq_getElem?_getD, sm_fs_i hj hI, sm_nwi]
    rfl
  · rcases sm_cld c0 f1 j hj with h3 | h3
    · exact absurd h3 hI
    · rw [h2 j hj] at h3
      have h4 : defaultValue (ty0 j) = .null := Option.some.inj h3
      rw [h4]
      unfold vp_V
      rw [List.getD_eq_getElem?_getD, sm_fs_r hj hI, sm_nwr]
      rfl
theorem sm_r34 (X : sm_X b D cs p R s m args meth c M d mc ms) : sm_rule (sm_c d) mc ms M Q (sm_P0 p l e R s m args below meth c Qf b D cs M) 34 := by
  obtain ⟨hx, hb, -, ho, ht, ⟨hK, -⟩, -, ⟨-, -, hrc, hrs⟩, -⟩ := X
  intro pc N x L st h k n hd hn0 hN hN1 hc1 hs1 hk H locs ls hW hS hl
  refine va_newaK (atype := .int) hx hb (ht _ sm_mAC rfl) rfl hd rfl hn0 hN (by show N * 4 ≤ _; omega) (by rw [hrc]; exact hc1) (by rw [hrs]; exact hs1) hW.2 fun H1 cA e1 z1 o1 hAr hNm => ?_
  have hcA : cA = cs.1 := Option.some.inj (hNm.symm.trans (hK.2 0 _ rfl).2)
  subst hcA
  refine hk H1 locs ls (hW.nw (by rw [z1]; omega) (fun q hq => o1 q (by rw [← hW.2]; exact hq)) (fun i hi => ?_)) (sm_S.nw hS (by rw [z1, hW.2]; omega) (fun q hq => o1 q (by rw [← hW.2]; exact hq))) hl
  have hi0 : i = 0 := by omega
  subst hi0
  rw [sm_e_i (n := N) (sm_nwk (h := h) (k := 1) (i := 0) (kd := fun _ => (0, N)) (rf := fun _ _ => none)), sm_nwi]
  exact e1
theorem sm_r35 (X : sm_X b D cs p R s m args meth c M d mc ms) : sm_rule (sm_c d) mc ms M Q (sm_P0 p l e R s m args below meth c Qf b D cs M) 35 := by
  obtain ⟨hx, hb, -, ho, ht, ⟨hK, hN⟩, -, ⟨-, -, hrc, hrs⟩, -⟩ := X
  intro pc idx N x L st h k n hd hcl hn0 hN0 hN1 hc1 hs1 hk H locs ls hW hS hl
  subst hN0
  refine W.anew hx hb ho (ht _ hcl rfl) (va_AO.use hN.2.1) rfl hd rfl hn0 (by omega) (by rw [hrc]; exact hc1) (by rw [hrs]; exact hs1) fun cA kA comp f1 f2 f3 f4 => ?_
  obtain ⟨_, _, -, -, -, k4⟩ := (hK.2 2 _ rfl).2
  have hcA : cA = cs.2.2 := Option.some.inj (f1.symm.trans k4)
  subst hcA
  generalize hH1 : H.push ({ cls := cs.2.2, slots := Array.replicate x.toNatClampNeg .null, vm := .none } : Cell) = H1
  have z1 : H1.size = H.size + 1 := by rw [← hH1, Array.size_push]
  have e1 : H1[H.size]? = some (arrV cs.2.2 x.toNatClampNeg (fun _ => .null)) := by rw [← hH1, Array.getElem?_push_size, ← arrV_new]
  have o1 : ∀ q : Nat, q < H.size → H1[q]? = H[q]? := fun q hq => by rw [← hH1, Array.getElem?_push, if_neg (Nat.ne_of_lt hq)]
  rw [hW.2]
  refine hk H1 locs ls (hW.nw (by rw [z1, hW.2]; omega) o1 (fun i hi => ?_)) (sm_S.nw hS (by omega) o1) hl
  have hi0 : i = 0 := by omega
  subst hi0
  rw [sm_e_s (n := x.toNatClampNeg) (sm_nwk (h := h) (k := 1) (i := 0) (kd := fun _ => (2, x.toNatClampNeg)) (rf := fun _ _ => none)), sm_nwr]
  show H1[b + (h.1 + 0)]? = some (vp_cell _ _)
  rw [vp_cell_q, Nat.add_zero, ← hW.2, e1]
  rfl
theorem sm_r36 (X : sm_X b D cs p R s m args meth c M d mc ms) : sm_rule (sm_c d) mc ms M Q (sm_P0 p l e R s m args below meth c Qf b D cs M) 36 := by
  obtain ⟨hx, hb, -, ho, ht, ⟨hK, hN⟩, -, ⟨-, -, hrc, hrs⟩, -⟩ := X
  intro pc idx N K x y L st h k n hd hcl hn0 hN0 hN1 hk0 hK0 hK1 hc1 hs1 hk H locs ls hW hS hl
  subst hN0
  subst hK0
  refine mg_row hx hb ho (ht _ hcl rfl) hN.2.2 (ht _ sm_mAC rfl) hd hn0 hk0 (by omega) (by omega) (by rw [hrc]; exact hc1) (by rw [hrs]; exact hs1) fun cA comp F fA fC f1 f2 hold hrow => ?_
  have hcA : cA = cs.2.1 := Option.some.inj (fA.symm.trans (hK.2 1 _ rfl).2)
  have hco : comp = cs.1 := Option.some.inj (fC.symm.trans (hK.2 0 _ rfl).2)
  subst hcA
  subst hco
  rw [hW.2]
  refine hk F locs ls (hW.nw (by rw [f1, hW.2]; omega) hold (fun i hi => ?_)) (sm_S.nw hS (by rw [f1]; omega) hold) hl
  by_cases hi0 : i = 0
  · subst hi0
    rw [sm_e_g (n := x.toNatClampNeg) (by rw [sm_nwk]; rfl), sm_nwr]
    show F[b + (h.1 + 0)]? = some (vp_cell _ _)
    rw [vp_cell_q, Nat.add_zero, ← hW.2, f2]
    refine congrArg some (congrArg (arrV cs.2.1 x.toNatClampNeg) (funext fun j => ?_))
    by_cases hj : j < x.toNatClampNeg
    · simp [mg_o, hj, hW.2, Nat.add_assoc]
    · simp [mg_o, hj]
  · rw [sm_e_i (n := y.toNatClampNeg) (by rw [sm_nwk, if_neg hi0]), sm_nwi]
    have h5 := hrow (i - 1) (by omega)
    rw [hW.2] at h5
    have e5 : b + h.1 + 1 + (i - 1) = b + (h.1 + i) := by omega
    rw [e5] at h5
    exact h5
end SMN
