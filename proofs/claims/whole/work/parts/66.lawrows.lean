/-! The law: its calls, its script. -/
section LWC
variable {p : Program} {l : Launch} {e : Env} {R : Room} {s : State} {m : MethodId} {args : Array Value} {below : List Frame} {meth : Method} {c : Code} {Qf : State → Prop} {b : Nat} {D : va_G} {cs : ClassId × ClassId × ClassId} {M : sm_M} {d mc ms : Nat}
theorem lw_V (X : sm_X b D cs p R s m args meth c M d mc ms) {pc idx c0 q mc' ms' k n : Nat} {M' : sm_M} {As st : List Value} {h : sm_H} {Qx : sm_Q} {H : Heap} {locs : List Loc} {ls : Array Slot} (hd : decode M.2.1 pc = .ok (.invokevirtual idx, 3)) (hL : sm_LV M.1.cls idx M' As.length) (hq : q < h.1) (hc0 : (h.2.1 q).1 = c0 + 3) (hcl : vwCl[c0]? = some (sm_cl c0)) (hcn : (sm_cl c0).1 = M'.1.cls) (hcat : sm_cat st) (hf1 : k + mc' ≤ mc) (hf2 : n + ms' ≤ ms) (hcall : sm_c d mc' ms' M' (.ref q :: As) h Qx) (hW : sm_W b D cs h H) (hS : va_S (sm_A b) s.heap H locs) (hls : ls.size = M.2.2.1) (kk : ∀ (r : Option Value) (h' : sm_H) (H1 : Heap) (locs1 : List Loc), Qx r h' → sm_W b D cs h' H1 → va_S (sm_A b) s.heap H1 locs1 → W p l e R s m args below meth c H1 locs1 (k + mc') (n + ms') Qf (F0 m (pc + 3) ls ((r.map (sm_v b)).toList ++ st.map (sm_v b)))) : W p l e R s m args below meth c H locs k n Qf (F0 m pc ls ((As.map (sm_v b)).reverse ++ .ref (b + q) :: st.map (sm_v b))) := by
  have X0 := X
  obtain ⟨hx, hb, hml, ho, ht, ⟨hK, hN⟩, -, ⟨-, -, hrc, hrs⟩, -⟩ := X
  obtain ⟨hB, hlk, hin, hse⟩ := hL
  have hRm := sm_rm_ok X0 hB mc' ms'
  obtain ⟨hpl, hcode, hini, hdd, hmx⟩ := hB
  have hM := sm_sound l b D cs d mc' ms' M' (.ref q :: As) h _ hpl hcall
  have cw : CallW R s args M.1.cls M'.1.cls idx M'.1 M'.2.1 M'.2.2.1 M'.2.2.2 (Cond.code M'.1 M'.2.1 M'.2.2.1 M'.2.2.2 :: sm_tb) (sm_rm d mc' ms') mc' ms' As.length := ⟨callB_of As.length (sm_hts ht) (sm_goodIn hcode rfl (fun _ h => h)) rfl rfl rfl (ht _ hini rfl) (ht _ hlk rfl) hdd hRm, ht _ hin rfl, ht _ hse rfl⟩
  have hrecv := va_recv hK hW.1 hcl (sm_at_o hq hc0)
  rw [hcn] at hrecv
  exact sm_after (va_runV (As := As.map (sm_v b)) (rest := st.map (sm_v b)) ⟨hx, hb, hml, ho, sm_hts ht⟩ hM cw ⟨sm_blind b D cs _ h, hrecv, sm_preU X0 (As := .ref q :: As) hW⟩ rfl (by rw [List.length_map]) hls rfl (lv_room (sm_vmap hcat)) hd ⟨by rw [hrc]; exact hf1, by rw [hrs]; exact hf2⟩) hS kk
theorem lw_I (X : sm_X b D cs p R s m args meth c M d mc ms) {pc idx q mc' ms' k n : Nat} {M' : sm_M} {As st : List Value} {h : sm_H} {Qx : sm_Q} {H : Heap} {locs : List Loc} {ls : Array Slot} (hd : decode M.2.1 pc = .ok (.invokespecial idx, 3)) (hL : sm_LI M.1.cls idx M' As.length) (hcat : sm_cat st) (hf1 : k + mc' ≤ mc) (hf2 : n + ms' ≤ ms) (hcall : sm_c d mc' ms' M' (.ref q :: As) h Qx) (hW : sm_W b D cs h H) (hS : va_S (sm_A b) s.heap H locs) (hls : ls.size = M.2.2.1) (kk : ∀ (r : Option Value) (h' : sm_H) (H1 : Heap) (locs1 : List Loc), Qx r h' → sm_W b D cs h' H1 → va_S (sm_A b) s.heap H1 locs1 → W p l e R s m args below meth c H1 locs1 (k + mc') (n + ms') Qf (F0 m (pc + 3) ls ((r.map (sm_v b)).toList ++ st.map (sm_v b)))) : W p l e R s m args below meth c H locs k n Qf (F0 m pc ls ((As.map (sm_v b)).reverse ++ .ref (b + q) :: st.map (sm_v b))) := by
  have X0 := X
  obtain ⟨hx, hb, hml, ho, ht, ⟨hK, hN⟩, -, ⟨-, -, hrc, hrs⟩, -⟩ := X
  obtain ⟨hB, hlk, hin, hnm, hret⟩ := hL
  have hRm := sm_rm_ok X0 hB mc' ms'
  obtain ⟨hpl, hcode, hini, hdd, hmx⟩ := hB
  have hM := sm_sound l b D cs d mc' ms' M' (.ref q :: As) h _ hpl hcall
  rw [hret] at hM hcode
  have cw : CallB R s args M.1.cls idx M'.1 M'.2.1 M'.2.2.1 none (Cond.code M'.1 M'.2.1 M'.2.2.1 none :: sm_tb) (sm_rm d mc' ms') mc' ms' As.length ∧ M'.1.name = "<init>" ∧ (Cond.instanceMethod M'.1).before args s = true := ⟨callB_of As.length (sm_hts ht) (sm_goodIn hcode rfl (fun _ h => h)) rfl rfl rfl (ht _ hini rfl) (ht _ hlk rfl) hdd hRm, hnm, ht _ hin rfl⟩
  exact sm_after (va_runI (As := As.map (sm_v b)) (rest := st.map (sm_v b)) ⟨hx, hb, hml, ho, sm_hts ht⟩ hM cw ⟨sm_blind b D cs _ h, sm_preU X0 (As := .ref q :: As) hW⟩ rfl (by rw [List.length_map]) hls rfl (lv_room (sm_vmap hcat)) hd ⟨by rw [hrc]; exact hf1, by rw [hrs]; exact hf2⟩) hS kk
theorem lw_new (X : sm_X b D cs p R s m args meth c M d mc ms) {pc idx c0 k n : Nat} {st : List Value} {h : sm_H} {H : Heap} {locs : List Loc} {ls : Array Slot} (hd : decode M.2.1 pc = .ok (.new idx, 3)) (hL : sm_LC M.1.cls idx c0) (hc1 : k + 1 ≤ mc) (hs1 : n + (sm_cl c0).2.2 ≤ ms) (hW : sm_W b D cs h H) (hS : va_S (sm_A b) s.heap H locs) (kk : ∀ (H1 : Heap), sm_W b D cs (sm_nw h 1 (fun _ => (c0 + 3, 0)) (fun _ _ => none)) H1 → va_S (sm_A b) s.heap H1 locs → W p l e R s m args below meth c H1 locs (k + 1) (n + (sm_cl c0).2.2) Qf (F0 m (pc + 3) ls (.ref (b + h.1) :: st))) : W p l e R s m args below meth c H locs k n Qf (F0 m pc ls st) := by
  obtain ⟨hx, hb, -, ho, ht, ⟨hK, -⟩, -, ⟨-, -, hrc, hrs⟩, -⟩ := X
  obtain ⟨f1, f2, f3, f4⟩ := hL
  have hKn := hK.1 c0 _ f1
  refine W.newcK hx hb ho (ht _ f2 rfl) (ht _ f3 rfl) (ht _ f4 rfl) rfl hd (by rw [hrc]; exact hc1) (by rw [hrs]; exact hs1) hKn.2.1 hW.2 fun H1 kC hkC e1 z1 o1 => ?_
  refine kk H1 (hW.nw (by rw [z1]; omega) (fun q hq => o1 q (by rw [← hW.2]; exact hq)) (fun i hi => ?_)) (sm_S.nw hS (by rw [z1, hW.2]; omega) (fun q hq => o1 q (by rw [← hW.2]; exact hq)))
  have hi0 : i = 0 := by omega
  subst hi0
  rw [sm_e_o (k := c0) (show ((sm_nw h 1 (fun _ => (c0 + 3, 0)) (fun _ _ => none)).2.1 (h.1 + 0)).1 = c0 + 3 by rw [sm_nwk])]
  obtain ⟨-, ⟨ty0, h2⟩, -⟩ := sm_cls c0 f1
  refine ⟨_, f1, (u_born ty0 (sm_hts ht) (sm_uin f1) hKn hkC (by rw [Nat.add_zero]; exact e1) h2).to (fun j hj => ?_)⟩
  by_cases hI : ((sm_cl c0).2.1 j).2.2.1 = "I"
  · have e2 : ty0 j = .int := Option.some.inj ((h2 j hj).symm.trans (sm_parseI hI))
    rw [e2]
    unfold vp_V
    rw [List.getD_eq_getElem?_getD, sm_fs_i hj hI, sm_nwi]
    rfl
  · rcases sm_cld c0 f1 j hj with h3 | h3
    · exact absurd h3 hI
    · rw [h2 j hj] at h3
      have h4 : defaultValue (ty0 j) = .null := Option.some.inj h3
      rw [h4]
      unfold vp_V
      rw [List.getD_eq_getElem?_getD, sm_fs_r hj hI, sm_nwr]
      rfl
end LWC
theorem lw_hp {b : Nat} {D : va_G} {cs : ClassId × ClassId × ClassId} {h : sm_H} {H : Heap} (g : hA 102 rfF inF h) (hW : sm_W b D cs h H) : sm_W b D cs (hp (0, fun _ _ => none) inF) H := by
  have e : sm_ws b cs h = sm_ws b cs (hp (0, fun _ _ => none) inF) := by
    apply List.ext_getElem?
    intro k
    by_cases hk : k < 102
    · rw [sm_ws_at b cs h (by rw [g.1]; exact hk), sm_ws_at b cs (hp (0, fun _ _ => none) inF) (show k < 102 + 0 from hk)]
      refine congrArg some (congrArg (Prod.mk (b + k)) (sm_e_cg (h := hp (0, fun _ _ => none) inF) (h' := h) (g.2.1 k hk) (g.2.2.2.2.1 k hk) (funext (fun j => ?_))))
      show h.2.2.2 k j = hR (0, fun _ _ => none) k j
      have e2 : hR (0, fun _ _ => none) k j = R0 k j := by unfold hR; rw [if_pos hk]
      rw [e2]
      by_cases hj : j < 35
      · rw [g.2.2.1 k hk j hj]; exact rfF_ok k hk j hj
      · rw [g.2.2.2.1 k hk j (by omega), R0_far hk (by omega)]
    · rw [List.getElem?_eq_none (by unfold sm_ws; rw [List.length_map, List.length_range, g.1]; omega), List.getElem?_eq_none (by unfold sm_ws; rw [List.length_map, List.length_range]; show 102 + 0 ≤ k; omega)]
  exact ⟨by rw [← e]; exact hW.1, by rw [hW.2, g.1]; rfl⟩
set_option maxRecDepth 100000 in
theorem CI_0 : CI inF (zr0, (0, fun _ => (0, 0, 0)), (fun _ => none), 0, 0) :=
  ⟨⟨by decide +kernel, by decide +kernel, by decide +kernel, by decide +kernel, fun k hk => absurd hk (Nat.not_lt_zero _), fun k hk => absurd hk (Nat.not_lt_zero _), fun k hk => absurd hk (Nat.not_lt_zero _), fun k hk => absurd hk (Nat.not_lt_zero _), fun k hk => absurd hk (Nat.not_lt_zero _), fun k hk => absurd hk (Nat.not_lt_zero _)⟩, by decide +kernel, ⟨by decide +kernel, fun r hr => absurd hr (Nat.not_lt_zero _)⟩, (by decide +kernel : ∀ k, k < 4 → inF (72 + 2 * k) 1 = -1 ∧ inF (72 + 2 * k) 2 = 0), by decide +kernel, by decide +kernel⟩
set_option maxRecDepth 100000 in
theorem MI_0 : MI inF (zr0, (0, fun _ => (0, 0, 0)), (fun _ => none), 0, 0) :=
  ⟨⟨by decide +kernel, by decide +kernel, by decide +kernel, by decide +kernel, fun k hk => absurd hk (Nat.not_lt_zero _), fun k hk => absurd hk (Nat.not_lt_zero _), fun k hk => absurd hk (Nat.not_lt_zero _), fun k hk => absurd hk (Nat.not_lt_zero _), fun k hk => absurd hk (Nat.not_lt_zero _), fun k hk => absurd hk (Nat.not_lt_zero _)⟩, by decide +kernel, ⟨by decide +kernel, fun r hr => absurd hr (Nat.not_lt_zero _)⟩, (by decide +kernel : ∀ k, k < 4 → inF 98 k = -1), by decide +kernel, by decide +kernel⟩
abbrev lM (nm : String) : sm_M := (⟨RL, nm, "([I)Z"⟩, cL_law, 4, some .boolean)
/-- where the law stands: the machine, its world, its script -/
def lwX (p : Program) (s : State) (m : MethodId) (meth : Method) (c : Code) (bs : Nat) (L : Nat) (xs : Nat → Int32) (D : va_G) (cs : ClassId × ClassId × ClassId) : Prop :=
  sm_X s.heap.size D cs p room_1 s m #[Value.ref bs] meth c (lM meth.name) 20 600000 7302250 ∧ meth.sig.returnType = ret ∧ meth.locks = false ∧ va_X bs L xs s s.heap ∧ bs < s.heap.size ∧ L ≤ 384
/-- the law's locals, with i ints read -/
abbrev lwL (bs b : Nat) (v : Int32) : List (Nat × Value) := [(0, .ref bs), (1, .ref (b + 0)), (2, .ref (b + 80)), (3, .int v)]
section LWA
variable {p : Program} {l : Launch} {e : Env} {s : State} {m : MethodId} {below : List Frame} {meth : Method} {c : Code} {Qf : State → Prop} {D : va_G} {cs : ClassId × ClassId × ClassId} {bs L : Nat} {xs : Nat → Int32} {H : Heap} {locs : List Loc} {k n : Nat} {ls : Array Slot} {st : List Value} {v : Int32}
/-- an int of the script, as an argument -/
theorem lw_arg (X : lwX p s m meth c bs L xs D cs) (hS : va_S (sm_A s.heap.size) s.heap H locs) (hl : lv_has ls 4 (lwL bs s.heap.size v)) {pc : Nat} {j : Int} {w : Int32} (hw : Int32.ofInt j = w) (hin : vp_in (v + w) L) (d1 : decode code pc = .ok (.aload_n 0, 1)) (d2 : decode code (pc + 1) = .ok (.iload_n 3, 1)) (d3 : decode code (pc + 1 + 1) = .ok (.iconst j, 1)) (d4 : decode code (pc + 1 + 1 + 1) = .ok (.iadd, 1)) (d5 : decode code (pc + 1 + 1 + 1 + 1) = .ok (.iaload, 1)) (kk : W p l e room_1 s m #[Value.ref bs] below meth c H locs k n Qf (F0 m (pc + 1 + 1 + 1 + 1 + 1) ls (.int (xs (v + w).toNatClampNeg) :: st))) : W p l e room_1 s m #[Value.ref bs] below meth c H locs k n Qf (F0 m pc ls st) := by
  obtain ⟨⟨hx, hb, -⟩, -, -, hX, hbl, -⟩ := X
  have hbA : ¬ sm_A s.heap.size bs := Nat.not_le.mpr hbl
  refine lv_aload_n hx hb d1 rfl (lv_at hl 0 rfl) ?_
  refine lv_iload_n hx hb d2 rfl (lv_at hl 3 rfl) ?_
  refine lv_iconst (v := w) hx hb d3 hw ?_
  refine lv_iadd hx hb d4 ?_
  exact va_sld hx hb hX hbl hbA hS hin d5 kk
end LWA
theorem MI.of80 {I I' : Nat → Nat → Int32} {σ : zS} (h : MI I σ) (hs : ∀ q, 80 ≤ q → I' q = I q) : MI I' σ := h.same (fun r hr => hs r (by unfold atM at hr; omega))
theorem CI.of80 {I I' : Nat → Nat → Int32} {σ : zS} (h : CI I σ) (hs : ∀ q, q < 80 → I' q = I q) : CI I' σ := h.same (fun r hr => hs r (by unfold atC at hr; omega))
theorem lg_same (y : Int64) : lg_cmp y y = 0 := by
  unfold lg_cmp
  rw [if_neg (by rw [GT.gt, Int64.lt_iff_toInt_lt]; omega), if_pos rfl]
