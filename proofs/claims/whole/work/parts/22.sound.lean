/-! What the small machine says, the machine does. -/
def sm_tb : List Cond := lw_tbl.filter goodWord
theorem sm_tbm {w : Cond} (h : w ∈ lw_tbl) (hg : goodWord w = true) : w ∈ sm_tb := List.mem_filter.mpr ⟨h, hg⟩
theorem sm_goodIn {y : Cond} {Ts : List Cond} (hy : y ∈ lw_tbl) (hg : goodWord y = true) (hT : ∀ w ∈ sm_tb, w ∈ Ts) : GoodIn Ts (y :: sm_tb) := fun w hw => by
  have h : w ∈ sm_tb := (List.mem_cons.mp hw).elim (fun e => by rw [e]; exact sm_tbm hy hg) id
  exact ⟨hT w h, good_of_word (List.mem_filter.mp h).2⟩
/-- the words that are no good words, and are wanted all the same -/
def sm_nst : List Cond := [.methodLinkNest "SnowInns" 19 ⟨"SnowInns$Ridge", "<init>", "()V"⟩ "SnowInns", .methodLinkNest "SnowInns" 38 ⟨"SnowInns$Readings", "<init>", "()V"⟩ "SnowInns", .methodLinkNest "SnowInns$Trials" 11 ⟨"SnowInns$Ridge", "<init>", "()V"⟩ "SnowInns", .methodLinkNest "SnowInns" 59 ⟨"SnowInns$Sheet", "<init>", "()V"⟩ "SnowInns"]
def sm_AOA (U : State) : Prop := (Cond.arrayOver (.array .int)).before #[] U = true
theorem sm_AOA.of {A : Array Value} {U : State} (h : (Cond.arrayOver (.array .int)).before A U = true) : sm_AOA U := h
theorem sm_AOA.use {A : Array Value} {U : State} (h : sm_AOA U) : (Cond.arrayOver (.array .int)).before A U = true := h
/-- the one place at which the array class over a component stands -/
abbrev sm_aix (vm : Vm) (q : ClassId) : Option Nat := vm.classes.findIdx? fun (x : Class) => match x.kind with | .array component _ => component == q | _ => false
theorem sm_AOA.spec {U : State} (h : sm_AOA U) : ∃ (q i : ClassId) (k : Class), U.vm.findClass (FieldType.array .int).toString = some q ∧ sm_aix U.vm q = some i ∧ U.vm.classes[i]? = some k ∧ k.kind = .array q (.array .int) ∧ U.vm.findClass ("[" ++ (FieldType.array .int).toString) = some i := by
  unfold sm_AOA Cond.before Cond.holds at h
  simp only [Cond.value] at h
  match hq : U.vm.findClass (FieldType.array .int).toString with
  | none => simp [hq] at h
  | some q =>
    rw [hq, Option.bind_some, beq_iff_eq] at h
    obtain ⟨i, hi, h⟩ := Option.bind_eq_some_iff.mp h
    obtain ⟨k, hk, h⟩ := Option.map_eq_some_iff.mp h
    obtain ⟨hlt, hp, -⟩ := Array.findIdx?_eq_some_iff_getElem.mp hi
    rw [(Array.getElem?_eq_some_iff.mp hk).2] at hp
    refine ⟨q, i, k, rfl, hi, hk, ?_⟩
    generalize k.kind = G at h hp ⊢
    cases G with
    | array component ty =>
      simp at h hp
      exact ⟨by rw [hp, h.1], h.2⟩
    | _ => simp at h
theorem sm_AOA.moved {u U : State} (hvm : u.vm.Alike U.vm) (h : sm_AOA u) : sm_AOA U := by
  obtain ⟨q, i, k, h1, h2, h3, h4, h5⟩ := h.spec
  obtain ⟨k', hk', he⟩ := hvm.2.2 _ _ h3
  have hi : sm_aix U.vm q = some i := (hvm.findIdx?_eqK _ (fun _ => rfl)).trans h2
  have hkind : k'.kind = .array q (.array .int) := by rw [he]; exact h4
  have f1 : U.vm.findClass (FieldType.array .int).toString = some q := by rw [hvm.findClass]; exact h1
  have f2 : U.vm.findClass ("[" ++ (FieldType.array .int).toString) = some i := by rw [hvm.findClass]; exact h5
  unfold sm_AOA Cond.before Cond.holds
  simp only [Cond.value]
  rw [f1, Option.bind_some, beq_iff_eq]
  refine Option.bind_eq_some_iff.mpr ⟨i, hi, ?_⟩
  simp [hk', hkind, f2]
def sm_N (U : State) : Prop := (∀ w ∈ sm_nst, va_Nw w U) ∧ va_AO "SnowInns$Sheet" U ∧ sm_AOA U
theorem sm_nst_form : ∀ w ∈ sm_nst, ∃ a i x h, w = .methodLinkNest a i x h := by
  intro w hw
  simp only [sm_nst, List.mem_cons, List.not_mem_nil, or_false] at hw
  rcases hw with rfl | rfl | rfl | rfl <;> exact ⟨_, _, _, _, rfl⟩
theorem sm_N.warm {u U : State} (hW : u.WarmedH U.vm) (h : sm_N u) : sm_N U := by
  refine ⟨fun w hw => ?_, h.2.1.moved hW.alike, ?_⟩
  · obtain ⟨a, i, x, g, rfl⟩ := sm_nst_form w hw
    exact va_Nw.warmM hW (h.1 _ hw)
  · exact h.2.2.moved hW.alike
theorem sm_N.same {u U : State} (hW : u.vm = U.vm) (h : sm_N u) : sm_N U := by
  refine ⟨fun w hw => ?_, h.2.1.moved (by rw [hW]; exact Vm.Alike.refl _), h.2.2.moved (by rw [hW]; exact Vm.Alike.refl _)⟩
  obtain ⟨a, i, x, g, rfl⟩ := sm_nst_form w hw
  exact (h.1 _ hw).same rfl hW
abbrev sm_ty (cs : ClassId × ClassId × ClassId) : List (ClassId × FieldType) := [(cs.1, .int), (cs.2.1, .array .int), (cs.2.2, .object "SnowInns$Sheet")]
def sm_Pre (b : Nat) (D : va_G) (cs : ClassId × ClassId × ClassId) (args : List Value) (h : sm_H) : Array Value → State → Prop := va_Pc (args.map (sm_v b)) (fun U => sm_W b D cs h U.heap ∧ va_K D vwCl (sm_ty cs) U ∧ sm_N U)
def sm_Post (b : Nat) (D : va_G) (cs : ClassId × ClassId × ClassId) (Q : sm_Q) : Array Value → State → Outcome → State → Prop := fun _ st oc t => (∃ (r : Option Value) (h' : sm_H), oc = .returned (r.map (sm_v b)) ∧ Q r h' ∧ sm_W b D cs h' t.heap) ∧ va_F (sm_A b) st t
theorem sm_blind (b : Nat) (D : va_G) (cs : ClassId × ClassId × ClassId) (args : List Value) (h : sm_H) : FrameBlind (sm_Pre b D cs args h) := fun a U g mk q => by
  obtain ⟨q0, q1, q2, q3⟩ := q
  exact ⟨q0, q1, va_K.moved (u := U) (U := U.calling g mk a) (Vm.Alike.refl U.vm) q2, sm_N.same (u := U) (U := U.calling g mk a) rfl q3⟩
abbrev sm_rm (d mc ms : Nat) : Room := { frames := d, cells := mc, slots := ms, locals := 40 * d }
def sm_So (l : Launch) (b : Nat) (D : va_G) (cs : ClassId × ClassId × ClassId) (d : Nat) : Prop := ∀ (mc ms : Nat) (M : sm_M) (args : List Value) (h : sm_H) (Q : sm_Q), plainName M.1.cls = true → sm_c d mc ms M args h Q → Met l M.1 (Cond.code M.1 M.2.1 M.2.2.1 M.2.2.2 :: sm_tb) (sm_rm d mc ms) (sm_Pre b D cs args h) (sm_Post b D cs Q) mc ms (sm_A b)
section SMS
variable {p : Program} {l : Launch} {e : Env} {R : Room} {s : State} {m : MethodId} {args : Array Value} {below : List Frame} {meth : Method} {c : Code} {Qf : State → Prop} {b : Nat} {D : va_G} {cs : ClassId × ClassId × ClassId} {M : sm_M} {d mc ms : Nat} {Q : sm_Q}
def sm_X (b : Nat) (D : va_G) (cs : ClassId × ClassId × ClassId) (p : Program) (R : Room) (s : State) (m : MethodId) (args : Array Value) (meth : Method) (c : Code) (M : sm_M) (d mc ms : Nat) : Prop :=
  p.tables.exec = Jvm.exec ∧ c.code = M.2.1 ∧ c.maxLocals = M.2.2.1 ∧ s.vm.findClass M.1.cls = some m.cls ∧ (∀ w ∈ lw_tbl, goodWord w = true → w.before args s = true) ∧ (va_K D vwCl (sm_ty cs) s ∧ sm_N s) ∧ meth.name = M.1.name ∧ (d + 1 ≤ R.frames ∧ 40 * (d + 1) ≤ R.locals ∧ R.cells = mc ∧ R.slots = ms) ∧ b ≤ s.heap.size
def sm_P0 (p : Program) (l : Launch) (e : Env) (R : Room) (s : State) (m : MethodId) (args : Array Value) (below : List Frame) (meth : Method) (c : Code) (Qf : State → Prop) (b : Nat) (D : va_G) (cs : ClassId × ClassId × ClassId) (M : sm_M) : sm_P := fun pc L st h k n =>
  ∀ (H : Heap) (locs : List Loc) (ls : Array Slot), sm_W b D cs h H → va_S (sm_A b) s.heap H locs → sm_L b ls M.2.2.1 L → W p l e R s m args below meth c H locs k n Qf (F0 m pc ls (st.map (sm_v b)))
theorem sm_Lat {ls : Array Slot} {n i : Nat} {L : List Value} {v : Value} (h : sm_L b ls n L) (hi : L[i]? = some v) (hv : v ≠ .null) : ls[i]? = some (.val (sm_v b v)) := h.2.2.2 i v hi hv
theorem sm_ldi_eq {L st L' st' : List Value} {i : Nat} (h : sm_ldi L st i = some (L', st')) : ∃ x, L[i]? = some (.int x) ∧ L' = L ∧ st' = .int x :: st := by
  unfold sm_ldi at h
  split at h
  · rename_i x hx
    cases h
    exact ⟨x, hx, rfl, rfl⟩
  · cases h
theorem sm_ldl_eq {L st L' st' : List Value} {i : Nat} (h : sm_ldl L st i = some (L', st')) : ∃ x, L[i]? = some (.long x) ∧ L' = L ∧ st' = .long x :: st := by
  unfold sm_ldl at h
  split at h
  · rename_i x hx
    cases h
    exact ⟨x, hx, rfl, rfl⟩
  · cases h
theorem sm_lda_eq {L st L' st' : List Value} {i : Nat} (h : sm_lda L st i = some (L', st')) : ∃ x, L[i]? = some (.ref x) ∧ L' = L ∧ st' = .ref x :: st := by
  unfold sm_lda at h
  split at h
  · rename_i x hx
    cases h
    exact ⟨x, hx, rfl, rfl⟩
  · cases h
theorem sm_sti_eq {L st L' st' : List Value} {i : Nat} {v : Value} (h : sm_sti L i v st = some (L', st')) : i < L.length ∧ L' = sm_s1 L i v ∧ st' = st := by
  unfold sm_sti at h
  split at h
  · cases h
    exact ⟨by assumption, rfl, rfl⟩
  · cases h
theorem sm_stl_eq {L st L' st' : List Value} {i : Nat} {v : Value} (h : sm_stl L i v st = some (L', st')) : i + 1 < L.length ∧ L' = sm_s2 L i v ∧ st' = st := by
  unfold sm_stl at h
  split at h
  · cases h
    exact ⟨by assumption, rfl, rfl⟩
  · cases h
theorem sm_inc_eq {L st L' st' : List Value} {i : Nat} {n : Int} (h : sm_inc L st i n = some (L', st')) : ∃ x, L[i]? = some (.int x) ∧ L' = sm_s1 L i (.int (x + Int32.ofInt n)) ∧ st' = st := by
  unfold sm_inc at h
  split at h
  · rename_i x hx
    cases h
    exact ⟨x, hx, rfl, rfl⟩
  · cases h
set_option maxHeartbeats 4000000 in
theorem sm_r0 (X : sm_X b D cs p R s m args meth c M d mc ms) : sm_rule (sm_c d) mc ms M Q (sm_P0 p l e R s m args below meth c Qf b D cs M) 0 := by
  obtain ⟨hx, hb, -⟩ := X
  intro pc I len L st h k n L' st' hd hs hk H locs ls hW hS hl
  unfold sm_st at hs
  split at hs
  · obtain ⟨x, h1, rfl, rfl⟩ := sm_ldi_eq hs
    exact lv_iload hx hb hd (sm_Lat hl h1 (by simp)) (hk H locs ls hW hS hl)
  · obtain ⟨x, h1, rfl, rfl⟩ := sm_ldi_eq hs
    exact lv_iload_n hx hb hd rfl (sm_Lat hl h1 (by simp)) (hk H locs ls hW hS hl)
  · obtain ⟨x, h1, rfl, rfl⟩ := sm_ldl_eq hs
    exact lv_lload hx hb hd (sm_Lat hl h1 (by simp)) (hk H locs ls hW hS hl)
  · obtain ⟨x, h1, rfl, rfl⟩ := sm_ldl_eq hs
    exact lv_lload_n hx hb hd rfl (sm_Lat hl h1 (by simp)) (hk H locs ls hW hS hl)
  · obtain ⟨x, h1, rfl, rfl⟩ := sm_lda_eq hs
    exact lv_aload hx hb hd (sm_Lat hl h1 (by simp)) (hk H locs ls hW hS hl)
  · obtain ⟨x, h1, rfl, rfl⟩ := sm_lda_eq hs
    exact lv_aload_n hx hb hd rfl (sm_Lat hl h1 (by simp)) (hk H locs ls hW hS hl)
  · obtain ⟨h1, rfl, rfl⟩ := sm_sti_eq hs
    exact lv_istore hx hb hd (sm_pr_has hl) (by rw [← hl.2.2.1]; exact h1) rfl (fun ls' hl' => hk H locs ls' hW hS (sm_st1 hl.2.2.1 hl' List.mem_cons_self sm_fl1))
  · obtain ⟨h1, rfl, rfl⟩ := sm_sti_eq hs
    exact lv_istore_n hx hb hd rfl (sm_pr_has hl) (by rw [← hl.2.2.1]; exact h1) rfl (fun ls' hl' => hk H locs ls' hW hS (sm_st1 hl.2.2.1 hl' List.mem_cons_self sm_fl1))
  · obtain ⟨h1, rfl, rfl⟩ := sm_stl_eq hs
    exact lv_lstore hx hb hd (sm_pr_has hl) (by rw [← hl.2.2.1]; exact h1) rfl (fun ls' hl' => hk H locs ls' hW hS (sm_st2 hl.2.2.1 hl' List.mem_cons_self sm_fl2))
  · obtain ⟨h1, rfl, rfl⟩ := sm_stl_eq hs
    exact lv_lstore_n hx hb hd rfl (sm_pr_has hl) (by rw [← hl.2.2.1]; exact h1) rfl (fun ls' hl' => hk H locs ls' hW hS (sm_st2 hl.2.2.1 hl' List.mem_cons_self sm_fl2))
  · obtain ⟨h1, rfl, rfl⟩ := sm_sti_eq hs
    exact lv_astore hx hb hd (sm_pr_has hl) (by rw [← hl.2.2.1]; exact h1) rfl (fun ls' hl' => hk H locs ls' hW hS (sm_st1 hl.2.2.1 hl' List.mem_cons_self sm_fl1))
  · obtain ⟨h1, rfl, rfl⟩ := sm_sti_eq hs
    exact lv_astore_n hx hb hd rfl (sm_pr_has hl) (by rw [← hl.2.2.1]; exact h1) rfl (fun ls' hl' => hk H locs ls' hW hS (sm_st1 hl.2.2.1 hl' List.mem_cons_self sm_fl1))
  · obtain ⟨x, h1, rfl, rfl⟩ := sm_inc_eq hs
    obtain ⟨k0, hk0⟩ := List.getElem?_of_mem (sm_pr_in (b := b) h1 (by simp))
    exact lv_iinc hx hb hd (sm_pr_has hl) hk0 rfl (by rw [← hl.2.2.1]; exact (List.getElem?_eq_some_iff.mp h1).1) rfl (fun ls' hl' => hk H locs ls' hW hS (sm_st1 hl.2.2.1 hl' List.mem_cons_self sm_fl1))
  · cases hs; exact lv_iadd hx hb hd (hk H locs ls hW hS hl)
  · cases hs; exact lv_isub hx hb hd (hk H locs ls hW hS hl)
  · cases hs; exact lv_imul hx hb hd (hk H locs ls hW hS hl)
  · cases hs; exact lv_iand hx hb hd (hk H locs ls hW hS hl)
  · cases hs; exact lv_ior hx hb hd (hk H locs ls hW hS hl)
  · cases hs; exact lv_ixor hx hb hd (hk H locs ls hW hS hl)
  · cases hs; exact lv_ishl hx hb hd (hk H locs ls hW hS hl)
  · cases hs; exact lv_ishr hx hb hd (hk H locs ls hW hS hl)
  · cases hs; exact lv_iushr hx hb hd rfl (hk H locs ls hW hS hl)
  · cases hs; exact lv_ladd hx hb hd (hk H locs ls hW hS hl)
  · cases hs; exact lv_lsub hx hb hd (hk H locs ls hW hS hl)
  · cases hs; exact lv_lshl hx hb hd rfl (hk H locs ls hW hS hl)
  · cases hs; exact W.lcmp hx hb hd (hk H locs ls hW hS hl)
  · cases hs; exact lv_i2l hx hb hd rfl (hk H locs ls hW hS hl)
  · cases hs; exact lv_i2b hx hb hd rfl (hk H locs ls hW hS hl)
  · cases hs; exact lv_i2s hx hb hd rfl (hk H locs ls hW hS hl)
  · cases hs; exact lv_dup hx hb hd rfl (hk H locs ls hW hS hl)
  · cases hs; exact lv_dup hx hb hd rfl (hk H locs ls hW hS hl)
  · cases hs; exact lv_dup2_11 hx hb hd rfl rfl (hk H locs ls hW hS hl)
  · cases hs; exact lv_pop hx hb hd rfl (hk H locs ls hW hS hl)
  · cases hs
set_option maxHeartbeats 4000000 in
theorem sm_r1 (X : sm_X b D cs p R s m args meth c M d mc ms) : sm_rule (sm_c d) mc ms M Q (sm_P0 p l e R s m args below meth c Qf b D cs M) 1 := by
  obtain ⟨hx, hb, -⟩ := X
  intro pc I len L st h k n v hd hs hk H locs ls hW hS hl
  unfold sm_cn at hs
  split at hs
  · cases hs; exact lv_iconst hx hb hd rfl (hk H locs ls hW hS hl)
  · cases hs; exact lv_bipush hx hb hd rfl (hk H locs ls hW hS hl)
  · cases hs; exact lv_sipush hx hb hd rfl (hk H locs ls hW hS hl)
  · cases hs; exact lv_lconst hx hb hd rfl (hk H locs ls hW hS hl)
  · cases hs
theorem sm_r2 (X : sm_X b D cs p R s m args meth c M d mc ms) : sm_rule (sm_c d) mc ms M Q (sm_P0 p l e R s m args below meth c Qf b D cs M) 2 := by
  obtain ⟨hx, hb, -, ho, ht, -⟩ := X
  intro pc idx v L st h k n hd hv hk H locs ls hW hS hl
  exact lv_ldcw hx hb ho (ht _ hv rfl) hd (hk H locs ls hW hS hl)
theorem sm_r3 (X : sm_X b D cs p R s m args meth c M d mc ms) : sm_rule (sm_c d) mc ms M Q (sm_P0 p l e R s m args below meth c Qf b D cs M) 3 := by
  obtain ⟨hx, hb, -, ho, ht, -⟩ := X
  intro pc idx v L st h k n hd hv hk H locs ls hW hS hl
  exact W.ldc2 hx hb ho (ht _ hv rfl) rfl hd (hk H locs ls hW hS hl)
theorem sm_r4 (X : sm_X b D cs p R s m args meth c M d mc ms) : sm_rule (sm_c d) mc ms M Q (sm_P0 p l e R s m args below meth c Qf b D cs M) 4 := by
  obtain ⟨hx, hb, -⟩ := X
  intro pc tgt off x L st h k n hd ht h1 h2 H locs ls hW hS hl
  exact lv_if_eq hx hb hd ht (fun q => h1 q H locs ls hW hS hl) (fun q => h2 q H locs ls hW hS hl)
theorem sm_r10 (X : sm_X b D cs p R s m args meth c M d mc ms) : sm_rule (sm_c d) mc ms M Q (sm_P0 p l e R s m args below meth c Qf b D cs M) 10 := by
  obtain ⟨hx, hb, -⟩ := X
  intro pc tgt off x y L st h k n hd ht h1 h2 H locs ls hW hS hl
  exact lv_icmp_eq hx hb hd ht (fun q => h1 q H locs ls hW hS hl) (fun q => h2 q H locs ls hW hS hl)
theorem sm_r5 (X : sm_X b D cs p R s m args meth c M d mc ms) : sm_rule (sm_c d) mc ms M Q (sm_P0 p l e R s m args below meth c Qf b D cs M) 5 := by
  obtain ⟨hx, hb, -⟩ := X
  intro pc tgt off x L st h k n hd ht h1 h2 H locs ls hW hS hl
  exact lv_if_ne hx hb hd ht (fun q => h1 q H locs ls hW hS hl) (fun q => h2 q H locs ls hW hS hl)
theorem sm_r11 (X : sm_X b D cs p R s m args meth c M d mc ms) : sm_rule (sm_c d) mc ms M Q (sm_P0 p l e R s m args below meth c Qf b D cs M) 11 := by
  obtain ⟨hx, hb, -⟩ := X
  intro pc tgt off x y L st h k n hd ht h1 h2 H locs ls hW hS hl
  exact lv_icmp_ne hx hb hd ht (fun q => h1 q H locs ls hW hS hl) (fun q => h2 q H locs ls hW hS hl)
theorem sm_r6 (X : sm_X b D cs p R s m args meth c M d mc ms) : sm_rule (sm_c d) mc ms M Q (sm_P0 p l e R s m args below meth c Qf b D cs M) 6 := by
  obtain ⟨hx, hb, -⟩ := X
  intro pc tgt off x L st h k n hd ht h1 h2 H locs ls hW hS hl
  exact lv_if_lt hx hb hd ht (fun q => h1 q H locs ls hW hS hl) (fun q => h2 q H locs ls hW hS hl)
theorem sm_r12 (X : sm_X b D cs p R s m args meth c M d mc ms) : sm_rule (sm_c d) mc ms M Q (sm_P0 p l e R s m args below meth c Qf b D cs M) 12 := by
  obtain ⟨hx, hb, -⟩ := X
  intro pc tgt off x y L st h k n hd ht h1 h2 H locs ls hW hS hl
  exact lv_icmp_lt hx hb hd ht (fun q => h1 q H locs ls hW hS hl) (fun q => h2 q H locs ls hW hS hl)
theorem sm_r7 (X : sm_X b D cs p R s m args meth c M d mc ms) : sm_rule (sm_c d) mc ms M Q (sm_P0 p l e R s m args below meth c Qf b D cs M) 7 := by
  obtain ⟨hx, hb, -⟩ := X
  intro pc tgt off x L st h k n hd ht h1 h2 H locs ls hW hS hl
  exact lv_if_ge hx hb hd ht (fun q => h1 q H locs ls hW hS hl) (fun q => h2 q H locs ls hW hS hl)
theorem sm_r13 (X : sm_X b D cs p R s m args meth c M d mc ms) : sm_rule (sm_c d) mc ms M Q (sm_P0 p l e R s m args below meth c Qf b D cs M) 13 := by
  obtain ⟨hx, hb, -⟩ := X
  intro pc tgt off x y L st h k n hd ht h1 h2 H locs ls hW hS hl
  exact lv_icmp_ge hx hb hd ht (fun q => h1 q H locs ls hW hS hl) (fun q => h2 q H locs ls hW hS hl)
theorem sm_r8 (X : sm_X b D cs p R s m args meth c M d mc ms) : sm_rule (sm_c d) mc ms M Q (sm_P0 p l e R s m args below meth c Qf b D cs M) 8 := by
  obtain ⟨hx, hb, -⟩ := X
  intro pc tgt off x L st h k n hd ht h1 h2 H locs ls hW hS hl
  exact lv_if_gt hx hb hd ht (fun q => h1 q H locs ls hW hS hl) (fun q => h2 q H locs ls hW hS hl)
theorem sm_r14 (X : sm_X b D cs p R s m args meth c M d mc ms) : sm_rule (sm_c d) mc ms M Q (sm_P0 p l e R s m args below meth c Qf b D cs M) 14 := by
  obtain ⟨hx, hb, -⟩ := X
  intro pc tgt off x y L st h k n hd ht h1 h2 H locs ls hW hS hl
  exact lv_icmp_gt hx hb hd ht (fun q => h1 q H locs ls hW hS hl) (fun q => h2 q H locs ls hW hS hl)
theorem sm_r9 (X : sm_X b D cs p R s m args meth c M d mc ms) : sm_rule (sm_c d) mc ms M Q (sm_P0 p l e R s m args below meth c Qf b D cs M) 9 := by
  obtain ⟨hx, hb, -⟩ := X
  intro pc tgt off x L st h k n hd ht h1 h2 H locs ls hW hS hl
  exact lv_if_le hx hb hd ht (fun q => h1 q H locs ls hW hS hl) (fun q => h2 q H locs ls hW hS hl)
theorem sm_r15 (X : sm_X b D cs p R s m args meth c M d mc ms) : sm_rule (sm_c d) mc ms M Q (sm_P0 p l e R s m args below meth c Qf b D cs M) 15 := by
  obtain ⟨hx, hb, -⟩ := X
  intro pc tgt off x y L st h k n hd ht h1 h2 H locs ls hW hS hl
  exact lv_icmp_le hx hb hd ht (fun q => h1 q H locs ls hW hS hl) (fun q => h2 q H locs ls hW hS hl)
theorem sm_r16 (X : sm_X b D cs p R s m args meth c M d mc ms) : sm_rule (sm_c d) mc ms M Q (sm_P0 p l e R s m args below meth c Qf b D cs M) 16 := by
  obtain ⟨hx, hb, -⟩ := X
  intro pc tgt off L st h k n hd ht hk H locs ls hW hS hl
  exact lv_goto hx hb hd ht (hk H locs ls hW hS hl)
theorem sm_r17 (X : sm_X b D cs p R s m args meth c M d mc ms) : sm_rule (sm_c d) mc ms M Q (sm_P0 p l e R s m args below meth c Qf b D cs M) 17 := by
  obtain ⟨hx, hb, -⟩ := X
  intro pc tgt len dflt lo hi offs x L st h k n hd h1 ht hk H locs ls hW hS hl
  exact lv_tableOut hx hb hd h1 ht (hk H locs ls hW hS hl)
theorem sm_r18 (X : sm_X b D cs p R s m args meth c M d mc ms) : sm_rule (sm_c d) mc ms M Q (sm_P0 p l e R s m args below meth c Qf b D cs M) 18 := by
  obtain ⟨hx, hb, -⟩ := X
  intro pc tgt len dflt lo hi off offs x L st h k n hd h1 h2 h3 ht hk H locs ls hW hS hl
  exact lv_tableIn hx hb hd h1 h2 h3 ht (hk H locs ls hW hS hl)
theorem sm_r19 (X : sm_X b D cs p R s m args meth c M d mc ms) : sm_rule (sm_c d) mc ms M Q (sm_P0 p l e R s m args below meth c Qf b D cs M) 19 := by
  obtain ⟨hx, hb, -⟩ := X
  intro pc tgt len dflt off ps x L st h k n hd h1 h2 ht hk H locs ls hW hS hl
  exact lv_lookup hx hb hd h1 h2 ht (hk H locs ls hW hS hl)
theorem sm_r45 (X : sm_X b D cs p R s m args meth c M d mc ms) : sm_rule (sm_c d) mc ms M Q (sm_P0 p l e R s m args below meth c Qf b D cs M) 45 := by
  obtain ⟨hx, hb, -⟩ := X
  intro pc x y L st h k n hd h1 hk H locs ls hW hS hl
  exact lv_idiv hx hb hd h1 (hk H locs ls hW hS hl)
theorem sm_r46 (X : sm_X b D cs p R s m args meth c M d mc ms) : sm_rule (sm_c d) mc ms M Q (sm_P0 p l e R s m args below meth c Qf b D cs M) 46 := by
  obtain ⟨hx, hb, -⟩ := X
  intro pc x y L st h k n hd h1 hk H locs ls hW hS hl
  exact lv_irem hx hb hd h1 (hk H locs ls hW hS hl)
theorem sm_r47 (X : sm_X b D cs p R s m args meth c M d mc ms) : sm_rule (sm_c d) mc ms M Q (sm_P0 p l e R s m args below meth c Qf b D cs M) 47 := by
  obtain ⟨hx, hb, -⟩ := X
  intro pc x y L st h k n hd h1 hk H locs ls hW hS hl
  exact lv_ldiv hx hb hd h1 (hk H locs ls hW hS hl)
theorem sm_r48 (X : sm_X b D cs p R s m args meth c M d mc ms) : sm_rule (sm_c d) mc ms M Q (sm_P0 p l e R s m args below meth c Qf b D cs M) 48 := by
  obtain ⟨hx, hb, -⟩ := X
  intro pc x y L st h k n hd h1 hk H locs ls hW hS hl
  exact lv_lrem hx hb hd h1 (hk H locs ls hW hS hl)
end SMS
