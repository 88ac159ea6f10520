/-! The rules that return and call; then the whole. -/
section SMC
variable {p : Program} {l : Launch} {e : Env} {R : Room} {s : State} {m : MethodId} {args : Array Value} {below : List Frame} {meth : Method} {c : Code} {Qf : State → Prop} {b : Nat} {D : va_G} {cs : ClassId × ClassId × ClassId} {M : sm_M} {d mc ms : Nat} {Q : sm_Q}
/-- behind a call -/
theorem sm_after {Qx : sm_Q} {H : Heap} {locs : List Loc} {k n mc' ms' pc : Nat} {ls : Array Slot} {st0 rest : List Value} {a : Array Value} (hr : va_Run p l e R s m args below meth c H locs k n mc' ms' (F0 m pc ls st0) rest (sm_Post b D cs Qx a) (sm_A b)) (hS : va_S (sm_A b) s.heap H locs)
    (kk : ∀ (r : Option Value) (h' : sm_H) (H1 : Heap) (locs1 : List Loc), Qx r h' → sm_W b D cs h' H1 → va_S (sm_A b) s.heap H1 locs1 → W p l e R s m args below meth c H1 locs1 (k + mc') (n + ms') Qf (F0 m (pc + 3) ls ((r.map (sm_v b)).toList ++ rest))) : W p l e R s m args below meth c H locs k n Qf (F0 m pc ls st0) := by
  intro T hT X
  obtain ⟨v, st₀, t, T', L, h0, X', hL, e1, e2, ⟨⟨r, h', hv, hq, hW⟩, hz, hk⟩, st⟩ := hr T hT X
  cases hv
  rw [h0] at hz hk
  obtain ⟨t2, a1, b1⟩ := kk r h' T'.heap (locs ++ L) hq (by rw [e1]; exact hW)
    ⟨Nat.le_trans hS.1 (by rw [e1]; exact hz), fun q h1 h2 => by rw [e1, hk q (Nat.lt_of_lt_of_le h1 hS.1) h2]; exact hS.2.1 q h1 h2, fun q hq => by
      rcases List.mem_append.mp hq with h | h
      · exact hS.2.2 q h
      · exact hL q h⟩ T' rfl X'
  exact ⟨t2, st t2 a1, b1⟩
theorem sm_rm_ok (X : sm_X b D cs p R s m args meth c M d mc ms) {M' : sm_M} {n : Nat} (h : sm_LB M' n) (mc' ms' : Nat) : (sm_rm d mc' ms').frames + 1 ≤ R.frames ∧ 8 + (M'.2.2.1 + 11) + (sm_rm d mc' ms').locals ≤ R.locals := by
  obtain ⟨-, -, -, -, -, -, -, ⟨h1, h2, -⟩, -⟩ := X
  obtain ⟨-, -, -, -, h3⟩ := h
  refine ⟨h1, ?_⟩
  show 8 + (M'.2.2.1 + 11) + 40 * d ≤ R.locals
  omega
theorem sm_preU (X : sm_X b D cs p R s m args meth c M d mc ms) {As : List Value} {h : sm_H} {H : Heap} (hW : sm_W b D cs h H) : ∀ U : State, U.heap = H → s.WarmedH U.vm → sm_Pre b D cs As h (As.map (sm_v b)).toArray U := by
  obtain ⟨-, -, -, -, -, ⟨hK, hN⟩, -⟩ := X
  intro U hU hw
  exact ⟨rfl, by rw [hU]; exact hW, va_K.moved hw.alike hK, hN.warm hw⟩
theorem sm_stk (As : List Value) (q : Nat) (st : List Value) : (As.reverse ++ .ref q :: st).map (sm_v b) = (As.map (sm_v b)).reverse ++ .ref (b + q) :: st.map (sm_v b) := by
  rw [List.map_append, List.map_reverse]
  rfl
theorem sm_post_st {r : Option Value} {st : List Value} : (r.map (sm_v b)).toList ++ st.map (sm_v b) = (r.toList ++ st).map (sm_v b) := by
  cases r <;> rfl
theorem sm_r37 (X : sm_X b D cs p R s m args meth c M d mc ms) (ih : sm_So l b D cs d) : sm_rule (sm_c d) mc ms M Q (sm_P0 p l e R s m args below meth c Qf b D cs M) 37 := by
  intro pc idx c0 q mc' ms' M' As L st h k n hd hL hq hc0 hcl hcn hcat hf1 hf2 hcall H locs ls hW hS hl
  have X0 := X
  obtain ⟨hx, hb, hml, ho, ht, ⟨hK, hN⟩, -, ⟨-, -, hrc, hrs⟩, -⟩ := X
  obtain ⟨hB, hlk, hin, hse⟩ := hL
  have hRm := sm_rm_ok X0 hB mc' ms'
  obtain ⟨hpl, hcode, hini, hdd, hmx⟩ := hB
  have hM := ih mc' ms' M' (.ref q :: As) h _ hpl hcall
  have cw : CallW R s args M.1.cls M'.1.cls idx M'.1 M'.2.1 M'.2.2.1 M'.2.2.2 (Cond.code M'.1 M'.2.1 M'.2.2.1 M'.2.2.2 :: sm_tb) (sm_rm d mc' ms') mc' ms' As.length := ⟨callB_of As.length (sm_hts ht) (sm_goodIn hcode rfl (fun _ h => h)) rfl rfl rfl (ht _ hini rfl) (ht _ hlk rfl) hdd hRm, ht _ hin rfl, ht _ hse rfl⟩
  have hrecv := va_recv hK hW.1 hcl (sm_at_o hq hc0)
  rw [hcn] at hrecv
  show W p l e R s m args below meth c H locs k n Qf (F0 m pc ls ((As.reverse ++ .ref q :: st).map (sm_v b)))
  rw [sm_stk]
  refine sm_after (va_runV (As := As.map (sm_v b)) (rest := st.map (sm_v b)) ⟨hx, hb, hml, ho, sm_hts ht⟩ hM cw ⟨sm_blind b D cs _ h, hrecv, sm_preU X0 (As := .ref q :: As) hW⟩ rfl (by rw [List.length_map]) hl.1 rfl (lv_room (sm_vmap hcat)) hd ⟨by rw [hrc]; exact hf1, by rw [hrs]; exact hf2⟩) hS (fun r h' H1 locs1 hQ hW1 hS1 => ?_)
  rw [sm_post_st]
  exact hQ H1 locs1 ls hW1 hS1 hl
theorem sm_r38 (X : sm_X b D cs p R s m args meth c M d mc ms) (ih : sm_So l b D cs d) : sm_rule (sm_c d) mc ms M Q (sm_P0 p l e R s m args below meth c Qf b D cs M) 38 := by
  intro pc idx mc' ms' M' As L st h k n hd hL hcat hf1 hf2 hcall H locs ls hW hS hl
  have X0 := X
  obtain ⟨hx, hb, hml, ho, ht, ⟨hK, hN⟩, -, ⟨-, -, hrc, hrs⟩, -⟩ := X
  obtain ⟨hB, hlk, hst⟩ := hL
  have hRm := sm_rm_ok X0 hB mc' ms'
  obtain ⟨hpl, hcode, hini, hdd, hmx⟩ := hB
  have hM := ih mc' ms' M' As h _ hpl hcall
  have cw : CallB R s args M.1.cls idx M'.1 M'.2.1 M'.2.2.1 M'.2.2.2 (Cond.code M'.1 M'.2.1 M'.2.2.1 M'.2.2.2 :: sm_tb) (sm_rm d mc' ms') mc' ms' As.length ∧ (Cond.static M'.1).before args s = true := ⟨callB_of As.length (sm_hts ht) (sm_goodIn hcode rfl (fun _ h => h)) rfl rfl rfl (ht _ hini rfl) (ht _ hlk rfl) hdd hRm, ht _ hst rfl⟩
  show W p l e R s m args below meth c H locs k n Qf (F0 m pc ls ((As.reverse ++ st).map (sm_v b)))
  rw [List.map_append, List.map_reverse]
  refine sm_after (va_runS (As := As.map (sm_v b)) (rest := st.map (sm_v b)) ⟨hx, hb, hml, ho, sm_hts ht⟩ hM cw ⟨sm_blind b D cs _ h, sm_preU X0 (As := As) hW⟩ rfl (by rw [List.length_map]) hl.1 rfl (lv_room (sm_vmap hcat)) hd ⟨by rw [hrc]; exact hf1, by rw [hrs]; exact hf2⟩) hS (fun r h' H1 locs1 hQ hW1 hS1 => ?_)
  rw [sm_post_st]
  exact hQ H1 locs1 ls hW1 hS1 hl
theorem sm_r39 (X : sm_X b D cs p R s m args meth c M d mc ms) (ih : sm_So l b D cs d) : sm_rule (sm_c d) mc ms M Q (sm_P0 p l e R s m args below meth c Qf b D cs M) 39 := by
  intro pc idx q mc' ms' M' As L st h k n hd hL hcat hf1 hf2 hcall H locs ls hW hS hl
  have X0 := X
  obtain ⟨hx, hb, hml, ho, ht, ⟨hK, hN⟩, -, ⟨-, -, hrc, hrs⟩, -⟩ := X
  obtain ⟨hB, hlk, hin, hnm, hret⟩ := hL
  have hRm := sm_rm_ok X0 hB mc' ms'
  obtain ⟨hpl, hcode, hini, hdd, hmx⟩ := hB
  have hM := ih mc' ms' M' (.ref q :: As) h _ hpl hcall
  rw [hret] at hM hcode
  have cw : CallB R s args M.1.cls idx M'.1 M'.2.1 M'.2.2.1 none (Cond.code M'.1 M'.2.1 M'.2.2.1 none :: sm_tb) (sm_rm d mc' ms') mc' ms' As.length ∧ M'.1.name = "<init>" ∧ (Cond.instanceMethod M'.1).before args s = true := ⟨callB_of As.length (sm_hts ht) (sm_goodIn hcode rfl (fun _ h => h)) rfl rfl rfl (ht _ hini rfl) (ht _ hlk rfl) hdd hRm, hnm, ht _ hin rfl⟩
  show W p l e R s m args below meth c H locs k n Qf (F0 m pc ls ((As.reverse ++ .ref q :: st).map (sm_v b)))
  rw [sm_stk]
  refine sm_after (va_runI (As := As.map (sm_v b)) (rest := st.map (sm_v b)) ⟨hx, hb, hml, ho, sm_hts ht⟩ hM cw ⟨sm_blind b D cs _ h, sm_preU X0 (As := .ref q :: As) hW⟩ rfl (by rw [List.length_map]) hl.1 rfl (lv_room (sm_vmap hcat)) hd ⟨by rw [hrc]; exact hf1, by rw [hrs]; exact hf2⟩) hS (fun r h' H1 locs1 hQ hW1 hS1 => ?_)
  rw [sm_post_st]
  exact hQ H1 locs1 ls hW1 hS1 hl
theorem sm_nst_all : ∀ w ∈ lw_tbl, (∃ a i y, w = .methodLinkNest a i y "SnowInns") → w ∈ sm_nst := by
  have h : ∀ w ∈ lw_tbl, w ∈ sm_nst ∨ (match w with | .methodLinkNest _ _ _ _ => false | _ => true) = true := by decide +kernel
  intro w hw ⟨a, i, y, e⟩
  rcases h w hw with h1 | h1
  · exact h1
  · subst e; cases h1
theorem sm_r40 (X : sm_X b D cs p R s m args meth c M d mc ms) (ih : sm_So l b D cs d) : sm_rule (sm_c d) mc ms M Q (sm_P0 p l e R s m args below meth c Qf b D cs M) 40 := by
  intro pc idx q mc' ms' M' As L st h k n hd hL hcat hf1 hf2 hcall H locs ls hW hS hl
  have X0 := X
  obtain ⟨hx, hb, hml, ho, ht, ⟨hK, hN⟩, -, ⟨-, -, hrc, hrs⟩, -⟩ := X
  obtain ⟨hB, hlk, hin, hnm, hret⟩ := hL
  have hRm := sm_rm_ok X0 hB mc' ms'
  obtain ⟨hpl, hcode, hini, hdd, hmx⟩ := hB
  have hM := ih mc' ms' M' (.ref q :: As) h _ hpl hcall
  rw [hret] at hM hcode
  have hlk2 := hN.1 _ (sm_nst_all _ hlk ⟨_, _, _, rfl⟩)
  have cw : va_CN R s args M.1.cls idx M'.1 "SnowInns" M'.2.1 M'.2.2.1 none (Cond.code M'.1 M'.2.1 M'.2.2.1 none :: sm_tb) (sm_rm d mc' ms') mc' ms' As.length ∧ M'.1.name = "<init>" ∧ (Cond.instanceMethod M'.1).before args s = true := ⟨va_cnB As.length (sm_hts ht) (sm_goodIn hcode rfl (fun _ h => h)) rfl rfl rfl hlk2 (ht _ hini rfl) hdd hRm, hnm, ht _ hin rfl⟩
  show W p l e R s m args below meth c H locs k n Qf (F0 m pc ls ((As.reverse ++ .ref q :: st).map (sm_v b)))
  rw [sm_stk]
  refine sm_after (va_runIN (As := As.map (sm_v b)) (rest := st.map (sm_v b)) ⟨hx, hb, hml, ho, sm_hts ht⟩ hM cw ⟨sm_blind b D cs _ h, sm_preU X0 (As := .ref q :: As) hW⟩ rfl (by rw [List.length_map]) hl.1 rfl (lv_room (sm_vmap hcat)) hd ⟨by rw [hrc]; exact hf1, by rw [hrs]; exact hf2⟩) hS (fun r h' H1 locs1 hQ hW1 hS1 => ?_)
  rw [sm_post_st]
  exact hQ H1 locs1 ls hW1 hS1 hl
theorem sm_r41 (X : sm_X b D cs p R s m args meth c M d mc ms) : sm_rule (sm_c d) mc ms M Q (sm_P0 p l e R s m args below meth c Qf b D cs M) 41 := by
  obtain ⟨hx, hb, hml, ho, ht, ⟨hK, hN⟩, -, ⟨h1, h2, hrc, hrs⟩, -⟩ := X
  intro pc idx q L st h k n hd hlk hcat hk H locs ls hW hS hl
  have h5 := sm_vmap (b := b) hcat
  exact W.objInit hx hb ho (ht _ hlk rfl) (ht _ sm_mOI rfl) (ht _ sm_mOC rfl) rfl (by rw [hml]; exact hl.1) rfl hd (by omega) (by show 2 * 0 + _ + 12 ≤ _; omega) (hk H locs ls hW hS hl)
theorem sm_r42 (X : sm_X b D cs p R s m args meth c M d mc ms) : sm_rule (sm_c d) mc ms M Q (sm_P0 p l e R s m args below meth c Qf b D cs M) 42 := by
  obtain ⟨hx, hb, hml, ho, ht, ⟨hK, hN⟩, -, ⟨h1, h2, hrc, hrs⟩, -⟩ := X
  intro pc idx x y L st h k n hd hlk hcat hc1 hs1 hk H locs ls hW hS hl
  have h5 := sm_vmap (b := b) hcat
  exact va_mmin hx hb (by rw [hml]; exact hl.1.symm) ho (ht _ hlk rfl) (ht _ sm_mMis rfl) (ht _ sm_mMI rfl) (ht _ sm_mMi rfl) (by omega) (by omega) (by omega) (by omega) hd (hk H locs ls hW hS hl)
theorem sm_r43 (X : sm_X b D cs p R s m args meth c M d mc ms) : sm_rule (sm_c d) mc ms M Q (sm_P0 p l e R s m args below meth c Qf b D cs M) 43 := by
  obtain ⟨hx, hb, hml, ho, ht, ⟨hK, hN⟩, -, ⟨h1, h2, hrc, hrs⟩, -⟩ := X
  intro pc idx x y L st h k n hd hlk hcat hc1 hs1 hk H locs ls hW hS hl
  have h5 := sm_vmap (b := b) hcat
  exact va_mmax hx hb (by rw [hml]; exact hl.1.symm) ho (ht _ hlk rfl) (ht _ sm_mMas rfl) (ht _ sm_mMI rfl) (ht _ sm_mMa rfl) (by omega) (by omega) (by omega) (by omega) hd (hk H locs ls hW hS hl)
theorem sm_nfw : nativeFrameWords "java/lang/System" "arraycopy" 5 ≤ 21 := by decide +kernel
theorem sm_r44 (X : sm_X b D cs p R s m args meth c M d mc ms) : sm_rule (sm_c d) mc ms M Q (sm_P0 p l e R s m args below meth c Qf b D cs M) 44 := by
  obtain ⟨hx, hb, hml, ho, ht, ⟨hK, hN⟩, -, ⟨hr1, hr2, hrc, hrs⟩, -⟩ := X
  intro pc idx q0 q1 n0 n1 sp dp x L st h k n hd hlk hq0 hq1 hk0 hk1 h1 h2 h3 h4 h5 hcat hk H locs ls hW hS hl
  have h6 := sm_vmap (b := b) hcat
  have h7 := sm_nfw
  have nn : ∀ z : Int32, ¬ z < 0 → z.toInt = (z.toNatClampNeg : Int) := by
    intro z hz
    have hz0 : (0 : Int) ≤ z.toInt := by
      have := Int32.not_lt.mp hz
      simpa using Int32.le_iff_toInt_le.mp this
    show z.toInt = ((z.toInt.toNat : Nat) : Int)
    omega
  intro T hT Xs
  have hc0 : H[b + q0]? = some (vp_cell cs.1 (n0, .inl (h.2.2.1 q0))) := hW.1 q0 _ (sm_at_i hq0 hk0)
  have hc1 : H[b + q1]? = some (vp_cell cs.1 (n1, .inl (h.2.2.1 q1))) := hW.1 q1 _ (sm_at_i hq1 hk1)
  obtain ⟨-, k0, hkk0, cm0, hkd0⟩ := (hK.2 0 _ rfl).1 n0 (fun j => .int (h.2.2.1 q0 j))
  obtain ⟨vm', X', step⟩ := Xs.arraycopy hx ho (ht _ hlk rfl) (ht _ sm_mSN rfl) (ht _ sm_mSS rfl) (ht _ sm_mSI rfl) (src := b + q0) (dst := b + q1) (cs := vp_cell cs.1 (n0, .inl (h.2.2.1 q0))) (cd := vp_cell cs.1 (n1, .inl (h.2.2.1 q1))) (srcPos := sp) (destPos := dp) (n := x) (by rw [hT]; exact hc0) (by rw [hT]; exact hc1)
    (fun _ h => by cases h) (fun _ h => by cases h) (fun h => by cases h) (fun h => by cases h) hkk0 hkk0 hkd0 hkd0 (by simp [refKind]) h1 h2 h3
    (by rw [nn sp h1, nn x h3]; show ¬ _ > ((arrV cs.1 n0 (fun j => .int (h.2.2.1 q0 j))).slots.size : Int); rw [arrV_size]; omega)
    (by rw [nn dp h2, nn x h3]; show ¬ _ > ((arrV cs.1 n1 (fun j => .int (h.2.2.1 q1 j))).slots.size : Int); rw [arrV_size]; omega)
    (fun vm₁ _ i hi => by
      have e : (vp_cell cs.1 (n0, .inl (h.2.2.1 q0))).slots.getD (sp.toNatClampNeg + i) .null = .int (h.2.2.1 q0 (sp.toNatClampNeg + i)) := by
        show (arrV cs.1 n0 (fun j => .int (h.2.2.1 q0 j))).slots.getD _ _ = _
        rw [Array.getD_eq_getD_getElem?, arrV_read _ _ (by omega)]
        rfl
      refine ⟨?_, ?_⟩
      · rw [e]; rfl
      · rw [e]; exact trivial)
    (g := F0 m pc ls (.int x :: .int dp :: .ref (b + q1) :: .int sp :: .ref (b + q0) :: st.map (sm_v b))) rfl (by rw [hml]; exact hl.1) (rest := st.map (sm_v b)) rfl (by rw [hb]; exact hd) (by omega) (by show 2 * 0 + _ + _ ≤ _; omega)
  have e1 : copied (vp_cell cs.1 (n0, .inl (h.2.2.1 q0))) (vp_cell cs.1 (n1, .inl (h.2.2.1 q1))) sp dp x = vp_cell cs.1 (n1, .inl (va_cpy (h.2.2.1 q0) (h.2.2.1 q1) sp.toNatClampNeg dp.toNatClampNeg x.toNatClampNeg)) := va_copied (fun z => .int z) cs.1 cs.1 (h.2.2.1 q0) (h.2.2.1 q1) h4
  rw [e1] at X' step
  have hll : b + q1 < H.size := (Array.getElem?_eq_some_iff.mp hc1).1
  generalize hF : va_cpy (h.2.2.1 q0) (h.2.2.1 q1) sp.toNatClampNeg dp.toNatClampNeg x.toNatClampNeg = f at X' step hk
  have hheap : ((T.setVm vm').setCell (b + q1) (vp_cell cs.1 (n1, .inl f))).heap = H.setIfInBounds (b + q1) (vp_cell cs.1 (n1, .inl f)) := by rw [← hT]; rfl
  have oq : ∀ q : Nat, q ≠ b + q1 → (H.setIfInBounds (b + q1) (vp_cell cs.1 (n1, .inl f)))[q]? = H[q]? := fun q hq => by simp [Array.getElem?_setIfInBounds, Ne.symm hq]
  obtain ⟨t, a1, b1⟩ := hk _ _ ls (hW.put hq1 (sm_e_i hk1) rfl (h' := sm_sw h q1 f) (x := .inl (cs.1, n1, .inl f)) (by rw [sm_e_i (n := n1) (show (sm_sw h q1 f).2.1 q1 = (0, n1) from hk1)]; show (Sum.inl (cs.1, n1, Sum.inl (if q1 = q1 then f else h.2.2.1 q1)) : va_E) = _; rw [if_pos rfl]) (fun r hr => sm_e_sw hr) (show (H.setIfInBounds (b + q1) _)[b + q1]? = some _ by simp [Array.getElem?_setIfInBounds, hll]) (by simp) oq) ⟨by simp; exact hS.1, fun q g1 g2 => by
      rw [oq q (fun e => g2 (by rw [e]; exact Nat.le_add_right b q1))]
      exact hS.2.1 q g1 g2, fun q hq => by
      rcases List.mem_append.mp hq with h | h
      · exact hS.2.2 q h
      · obtain ⟨z, -, hz⟩ := List.mem_map.mp h
        rw [← hz]
        exact Nat.le_add_right b q1⟩ hl _ hheap X'
  exact ⟨t, step t a1, b1⟩
/-- the rules but the returns -/
theorem sm_rall (X : sm_X b D cs p R s m args meth c M d mc ms) (ih : sm_So l b D cs d) (hret : ∀ k, k = 20 ∨ k = 21 ∨ k = 22 → sm_rule (sm_c d) mc ms M Q (sm_P0 p l e R s m args below meth c Qf b D cs M) k) : ∀ k, sm_rule (sm_c d) mc ms M Q (sm_P0 p l e R s m args below meth c Qf b D cs M) k
  | 0 => sm_r0 X
  | 1 => sm_r1 X
  | 2 => sm_r2 X
  | 3 => sm_r3 X
  | 4 => sm_r4 X
  | 5 => sm_r5 X
  | 6 => sm_r6 X
  | 7 => sm_r7 X
  | 8 => sm_r8 X
  | 9 => sm_r9 X
  | 10 => sm_r10 X
  | 11 => sm_r11 X
  | 12 => sm_r12 X
  | 13 => sm_r13 X
  | 14 => sm_r14 X
  | 15 => sm_r15 X
  | 16 => sm_r16 X
  | 17 => sm_r17 X
  | 18 => sm_r18 X
  | 19 => sm_r19 X
  | 20 => hret 20 (by omega)
  | 21 => hret 21 (by omega)
  | 22 => hret 22 (by omega)
  | 23 => sm_r23 X
  | 24 => sm_r24 X
  | 25 => sm_r25 X
  | 26 => sm_r26 X
  | 27 => sm_r27 X
  | 28 => sm_r28 X
  | 29 => sm_r29 X
  | 30 => sm_r30 X
  | 31 => sm_r31 X
  | 32 => sm_r32 X
  | 33 => sm_r33 X
  | 34 => sm_r34 X
  | 35 => sm_r35 X
  | 36 => sm_r36 X
  | 37 => sm_r37 X ih
  | 38 => sm_r38 X ih
  | 39 => sm_r39 X ih
  | 40 => sm_r40 X ih
  | 41 => sm_r41 X
  | 42 => sm_r42 X
  | 43 => sm_r43 X
  | 44 => sm_r44 X
  | 45 => sm_r45 X
  | 46 => sm_r46 X
  | 47 => sm_r47 X
  | 48 => sm_r48 X
  | _ + 49 => trivial
theorem sm_en_at {n : Nat} : ∀ (vs : List Value) (i : Nat) (v : Value), (sm_fl vs)[i]? = some v → v ≠ .null → (lg_sl (vs.map (sm_v b)))[i]? = some (.val (sm_v b v))
  | [], i, v, h, _ => by simp [sm_fl] at h
  | w :: vs, i, v, h, hv => by
    have ih := sm_en_at (n := n) vs
    unfold sm_fl lg_sl at *
    rw [List.map_cons, List.flatMap_cons, sm_v_cat]
    rw [List.flatMap_cons] at h
    by_cases hc : w.category = 2
    · rw [if_pos hc] at h ⊢
      match i, h with
      | 0, h => cases h; rfl
      | 1, h => cases h; exact absurd rfl hv
      | i + 2, h => exact ih i v h hv
    · rw [if_neg hc] at h ⊢
      match i, h with
      | 0, h => cases h; rfl
      | i + 1, h => exact ih i v h hv
theorem sm_fl_len (vs : List Value) : (lg_sl (vs.map (sm_v b))).length = (sm_fl vs).length := by
  induction vs with
  | nil => rfl
  | cons w vs ih =>
    unfold sm_fl lg_sl at *
    rw [List.map_cons, List.flatMap_cons, List.flatMap_cons, List.length_append, List.length_append, ih, sm_v_cat]
    by_cases hc : w.category = 2
    · rw [if_pos hc, if_pos hc]; rfl
    · rw [if_neg hc, if_neg hc]; rfl
theorem sm_entry (vs : List Value) {n : Nat} (h : (sm_fl vs).length ≤ n) : sm_L b ((lg_sl (vs.map (sm_v b)) ++ List.replicate (n - (lg_sl (vs.map (sm_v b))).length) Slot.unset).toArray) n (sm_en vs n) := by
  have hl := lv_entry (vs.map (sm_v b)) (n := n) (by rw [sm_fl_len]; exact h)
  refine ⟨hl.1, hl.2.1, by unfold sm_en; rw [List.length_append, List.length_replicate]; omega, fun i v hi hv => ?_⟩
  unfold sm_en at hi
  by_cases hc : i < (sm_fl vs).length
  · rw [List.getElem?_append_left hc] at hi
    have h1 := sm_en_at (b := b) (n := n) vs i v hi hv
    rw [List.getElem?_toArray, List.getElem?_append_left (by rw [sm_fl_len]; exact hc)]
    exact h1
  · rw [List.getElem?_append_right (by omega)] at hi
    have := List.eq_of_mem_replicate (List.mem_of_getElem? hi)
    exact absurd this hv
/-- SOUND: what the small machine says of a method, the machine does -/
theorem sm_sound (l : Launch) (b : Nat) (D : va_G) (cs : ClassId × ClassId × ClassId) : ∀ d, sm_So l b D cs d
  | 0 => fun _ _ _ _ _ _ _ h => False.elim h
  | d + 1 => by
    intro mc ms M args h Q hpl hc
    obtain ⟨hlen, hwp⟩ := hc
    refine Met.ofW (cc := M.2.1) (maxL := M.2.2.1) (ret := M.2.2.2) hpl rfl ?_
    intro p e s m args' below meth c s₁ B hml hv
    obtain ⟨rfl, hW, hK, hN⟩ := hv
    have hts := atoms_spec (ws := Cond.code M.1 M.2.1 M.2.2.1 M.2.2.2 :: sm_tb) B.pre
    have X : sm_X b D cs p (headSpec (Cond.code M.1 M.2.1 M.2.2.1 M.2.2.2 :: sm_tb) (sm_rm (d + 1) mc ms)).room s m (args.map (sm_v b)).toArray meth c M d mc ms := ⟨B.exec, B.bytes, hml, findClass_of_methodNamed B.named, fun w hw hg => hts w (List.mem_cons_of_mem _ (sm_tbm hw hg)), ⟨hK, hN⟩, (name_of_methodNamed B.named B.method).1, ⟨Nat.le_refl _, Nat.le_refl _, rfl, rfl⟩, by rw [hW.2]; exact Nat.le_add_right _ _⟩
    have hlocks := B.notSynchronized
    have hr := B.returns
    have hx := B.exec
    have hb := B.bytes
    have key := hwp _ (sm_rall (Qf := MQ below (sm_Post b D cs Q) (args.map (sm_v b)).toArray s mc ms (sm_A b)) (below := below) (e := e) X (sm_sound l b D cs d) (fun k hk => by
      rcases hk with rfl | rfl | rfl
      · intro pc ty v L h' k n hd hty hnv hk hn hq H locs ls hW' hS hl
        refine W.widen hk hn ?_
        exact W.zret hx hb (hr.trans hty) hnv (fun t ht hw => ⟨⟨some (.int v), h', rfl, hq, by rw [ht]; exact hW'⟩, hS.F ht⟩) hS.2.2 hd
      · intro pc v L h' k n hd hty hk hn hq H locs ls hW' hS hl
        refine W.widen hk hn ?_
        exact W.lret hx hb (hr.trans hty) (fun t ht hw => ⟨⟨some (.long v), h', rfl, hq, by rw [ht]; exact hW'⟩, hS.F ht⟩) hS.2.2 hd
      · intro pc L h' k n hd hty hk hn hq H locs ls hW' hS hl
        refine W.widen hk hn ?_
        exact W.vret hx hb (hr.trans hty) (fun t ht hw => ⟨⟨none, h', rfl, hq, by rw [ht]; exact hW'⟩, hS.F ht⟩) hS.2.2 hd))
    rw [lg_entry_eq]
    exact key s.heap [] _ hW va_S.rf (sm_entry args hlen)
end SMC
