/-! new int[n][k], out of the machine's own word for it: the outer row first, then row by row, each noted in the outer one. -/
abbrev mg_o (b i : Nat) : Nat → Value := fun j => va_rf (if j < i then some (b + 1 + j) else none)
abbrev mg_i (q : ClassId) (M : Nat) : Cell := arrV q M (fun _ => .int 0)
def mg_st (T : State) (a q : ClassId) (N M : Nat) : Nat → State
  | 0 => T.pushCell (arrV a N (mg_o T.heap.size 0))
  | i + 1 => ((mg_st T a q N M i).pushCell (mg_i q M)).setCell T.heap.size (arrV a N (mg_o T.heap.size (i + 1)))
theorem mg_up (b i : Nat) : updV (mg_o b i) i (.ref (b + 1 + i)) = mg_o b (i + 1) := by
  funext j
  unfold updV mg_o
  by_cases e : j = i
  · subst e
    simp [va_rf]
  · rw [if_neg e]
    by_cases h : j < i
    · rw [if_pos h, if_pos (by omega)]
    · rw [if_neg h, if_neg (by omega)]
theorem mg_o0 (b : Nat) : mg_o b 0 = fun _ => .null := by
  funext j
  simp [mg_o, va_rf]
theorem mg_fs (T : State) (a q : ClassId) (N M : Nat) : ∀ i : Nat, (mg_st T a q N M i).heap.size = T.heap.size + 1 + i ∧ (mg_st T a q N M i).heap[T.heap.size]? = some (arrV a N (mg_o T.heap.size i)) ∧ (mg_st T a q N M i).vm = T.vm ∧ (mg_st T a q N M i).slotsUsed = T.slotsUsed + N + i * M ∧ (∀ x : Nat, x < T.heap.size → (mg_st T a q N M i).heap[x]? = T.heap[x]?) ∧ ∀ j : Nat, j < i → (mg_st T a q N M i).heap[T.heap.size + 1 + j]? = some (mg_i q M) := by
  intro i
  induction i with
  | zero => exact ⟨by simp [mg_st], State.heap_pushCell_size _ _, rfl, by simp [mg_st, arrV_size], fun x hx => State.heap_pushCell_of_lt _ _ hx, fun j hj => absurd hj (Nat.not_lt_zero _)⟩
  | succ i ih =>
    obtain ⟨h1, h2, h3, h4, h5, h6⟩ := ih
    show ((((mg_st T a q N M i).pushCell (mg_i q M)).setCell T.heap.size (arrV a N (mg_o T.heap.size (i + 1)))).heap.size = _ ∧ (((mg_st T a q N M i).pushCell (mg_i q M)).setCell T.heap.size (arrV a N (mg_o T.heap.size (i + 1)))).heap[T.heap.size]? = _ ∧ (((mg_st T a q N M i).pushCell (mg_i q M)).setCell T.heap.size (arrV a N (mg_o T.heap.size (i + 1)))).vm = _ ∧ (((mg_st T a q N M i).pushCell (mg_i q M)).setCell T.heap.size (arrV a N (mg_o T.heap.size (i + 1)))).slotsUsed = _ ∧ (∀ x : Nat, x < T.heap.size → (((mg_st T a q N M i).pushCell (mg_i q M)).setCell T.heap.size (arrV a N (mg_o T.heap.size (i + 1)))).heap[x]? = _) ∧ ∀ j : Nat, j < i + 1 → (((mg_st T a q N M i).pushCell (mg_i q M)).setCell T.heap.size (arrV a N (mg_o T.heap.size (i + 1)))).heap[T.heap.size + 1 + j]? = _)
    generalize mg_st T a q N M i = G at h1 h2 h3 h4 h5 h6 ⊢
    have p2 : (G.pushCell (mg_i q M)).heap[T.heap.size]? = some (arrV a N (mg_o T.heap.size i)) := by
      have hlt : T.heap.size < G.heap.size := by rw [h1]; omega
      rw [State.heap_pushCell_of_lt (h := hlt)]
      exact h2
    refine ⟨?_, State.heap_setCell_self p2, by simp [h3], ?_, fun x hx => ?_, fun j hj => ?_⟩
    · simp [State.setCell, h1]
      omega
    · simp [h4, arrV_size, Nat.succ_mul]
      omega
    · have hlt : x < G.heap.size := by rw [h1]; omega
      rw [State.heap_setCell_other (Nat.ne_of_gt hx), State.heap_pushCell_of_lt (h := hlt)]
      exact h5 x hx
    · rw [State.heap_setCell_other (show T.heap.size ≠ T.heap.size + 1 + j by omega)]
      by_cases hji : j = i
      · subst hji
        rw [← h1]
        exact State.heap_pushCell_size _ _
      · have hlt : T.heap.size + 1 + j < G.heap.size := by rw [h1]; omega
        rw [State.heap_pushCell_of_lt (h := hlt)]
        exact h6 j (by omega)
theorem mg_top (T : State) (f : JFrame) (a q : ClassId) (N M : Nat) : ∀ i : Nat, mg_st (T.setTop f) a q N M i = (mg_st T a q N M i).setTop f := by
  intro i
  induction i with
  | zero => rfl
  | succ i ih => simp only [mg_st, ih, State.heap_setTop, State.pushCell_setTop, State.setCell_setTop]
section SMM
variable {p : Program} {l : Launch} {e : Env} {R : Room} {s : State} {m : MethodId} {args : Array Value} {below : List Frame} {meth : Method} {c : Code} {T : State} {locs : List Loc} {cells slots : Nat}
theorem mg_X (X : Stand p l e R s m args below meth c T locs cells slots) (a q : ClassId) (N M : Nat) : ∀ i : Nat, Stand p l e R s m args below meth c (mg_st T a q N M i) locs (cells + 1 + i) (slots + N + i * M) := by
  intro i
  induction i with
  | zero =>
    have h := X.pushed (arrV a N (mg_o T.heap.size 0))
    rw [arrV_size] at h
    rw [Nat.zero_mul]
    exact h
  | succ i ih =>
    obtain ⟨h1, h2, -⟩ := mg_fs T a q N M i
    have p2 : ((mg_st T a q N M i).pushCell (mg_i q M)).heap[T.heap.size]? = some (arrV a N (mg_o T.heap.size i)) := by
      have hlt : T.heap.size < (mg_st T a q N M i).heap.size := by rw [h1]; omega
      rw [State.heap_pushCell_of_lt (h := hlt)]
      exact h2
    have h := (ih.pushed (mg_i q M)).stored p2 i (.ref (T.heap.size + 1 + i))
    rw [arrV_store, mg_up, arrV_size] at h
    rw [Nat.succ_mul, ← Nat.add_assoc (slots + N)]
    refine h.dropFresh fun x hx => ?_
    rw [List.mem_singleton] at hx
    rw [hx]
    exact X.heapGrown
end SMM
section SMQ
variable {E : CtlPost} {e : Env} {d : Bool} {acts : List Action} {S : State}
theorem mg_al {a r : ClassId} {k : Class} {ty : FieldType} {n : Nat} {v : Value} (hk : S.vm.classes[a]? = some k) (hkd : k.kind = .array r ty) (h1 : ¬ n > e.platform.arrayLengthLimit) (h2 : ¬ n * componentBytes ty > e.platform.maxHeapBytes) (hf : fits ty v = true) (hc : S.heap.size < e.platform.maxCells) (hs : S.slotsUsed + n ≤ e.platform.maxSlots) {Q : Addr → Pre} (hq : ∀ acts', Q S.heap.size d acts' (S.pushCell (arrV a n (fun _ => v)))) : wp (Jvm.newArray a n v) Q E e d acts S := by
  simp only [Jvm.newArray, Jvm.arrayFits, wp_bind', W.ask, W.ite, h1, if_false, wp_pure', W.theClass, hk, hkd, h2, W.alloc, Option.some.injEq, exists_eq_left', Array.size_replicate]
  rw [if_neg (by omega)]
  refine ⟨hc, hs, fun i x hx => ?_, ?_⟩
  · rw [Array.getElem?_replicate] at hx
    split at hx
    · cases hx
      simp [State.fitsSlot, State.slotType?, hk, hkd, hf]
    · cases hx
  · rw [arrV_new]
    exact hq _
theorem mg_mk {a q r : ClassId} {k k' : Class} {x y : Int32} (hk : S.vm.classes[a]? = some k) (hkd : k.kind = .array q (.array .int)) (hk' : S.vm.classes[q]? = some k') (hkd' : k'.kind = .array r .int) (hx : ¬ x < 0) (hy : ¬ y < 0)
    (h1 : ¬ x.toNatClampNeg > e.platform.arrayLengthLimit) (h2 : ¬ x.toNatClampNeg * componentBytes (.array .int) > e.platform.maxHeapBytes) (h3 : ¬ y.toNatClampNeg > e.platform.arrayLengthLimit) (h4 : ¬ y.toNatClampNeg * componentBytes .int > e.platform.maxHeapBytes)
    (hc : S.heap.size + (1 + x.toNatClampNeg) ≤ e.platform.maxCells) (hs : S.slotsUsed + (x.toNatClampNeg + x.toNatClampNeg * y.toNatClampNeg) ≤ e.platform.maxSlots) {Q : Addr → Pre}
    (hq : ∀ d' acts', Q S.heap.size d' acts' (mg_st S a q x.toNatClampNeg y.toNatClampNeg x.toNatClampNeg)) : wp (multianewarray.make a [x, y]) Q E e d acts S := by
  have hnone : ([y].find? (· < 0)) = none := by simp [hy]
  rw [multianewarray.make]
  simp only [wp_bind', W.ite, hx, if_false, wp_pure', W.theClass, hk, hkd, Option.some.injEq, exists_eq_left']
  refine mg_al hk hkd h1 h2 rfl (by omega) (by omega) fun acts1 => ?_
  simp only [hnone]
  rw [ite_self, wp_bind', Std.Legacy.Range.forIn_eq_forIn_range']
  generalize hN : x.toNatClampNeg = N at hc hs hq ⊢
  generalize hM : y.toNatClampNeg = M at h3 h4 hs hq ⊢
  have hsz : ([:N] : Std.Legacy.Range).size = N := by simp [Std.Legacy.Range.size]
  rw [hsz]
  refine wp_forIn_inv (fun l U => ∃ i : Nat, l = List.range' i (N - i) ∧ i ≤ N ∧ U = mg_st S a q N M i) _ _ ⟨0, rfl, Nat.zero_le _, by unfold mg_st; rw [mg_o0]⟩ ?_ ?_
  · rintro z l U d1 acts2 Q1 ⟨i, hl, hi, rfl⟩ hgo
    have hlt : i < N := by
      refine Nat.lt_of_not_le fun h => ?_
      rw [Nat.sub_eq_zero_of_le h] at hl
      cases hl
    rw [show N - i = N - (i + 1) + 1 by omega, List.range'_succ] at hl
    obtain ⟨rfl, rfl⟩ := List.cons.inj hl
    obtain ⟨f1, f2, f3, f4, -, -⟩ := mg_fs S a q N M z
    have hmul : z * M + M ≤ N * M := by
      rw [← Nat.succ_mul]
      exact Nat.mul_le_mul_right M hlt
    rw [wp_bind', multianewarray.make]
    simp only [wp_bind', W.ite, hy, if_false, wp_pure', W.theClass, f3, hk', hkd', Option.some.injEq, exists_eq_left']
    rw [hM]
    refine mg_al (by rw [f3]; exact hk') hkd' h3 h4 rfl (by rw [f1]; omega) (by rw [f4]; omega) fun acts3 => ?_
    simp only [wp_bind', W.writeLoc, wp_pure']
    refine ⟨arrV a N (mg_o S.heap.size z), ?_, (fun h => by cases h), by rw [arrV_size]; exact hlt, ?_, hgo _ _ _ ⟨z + 1, rfl, hlt, ?_⟩⟩
    · have hlt2 : S.heap.size < (mg_st S a q N M z).heap.size := by rw [f1]; omega
      rw [State.heap_pushCell_of_lt (h := hlt2)]
      exact f2
    · show State.fitsSlot _ a .none z _ = true
      simp [State.fitsSlot, State.slotType?, f3, hk, hkd]
      rfl
    · rw [arrV_store, f1, mg_up]
      rfl
  · rintro U d1 acts2 ⟨i, hl, hi, rfl⟩
    have e1 : i = N := by
      refine Nat.le_antisymm hi (Nat.le_of_not_lt fun h => ?_)
      rw [show N - i = N - (i + 1) + 1 by omega, List.range'_succ] at hl
      cases hl
    subst e1
    simp only [wp_pure']
    exact hq _ _
end SMQ
section SMR
variable {p : Program} {l : Launch} {e : Env} {R : Room} {s : State} {m : MethodId} {args : Array Value} {below : List Frame} {meth : Method} {c : Code} {H : Heap} {locs : List Loc} {cells slots : Nat} {Q : State → Prop}
theorem mg_row {cc : ByteArray} {pc idx : Nat} {ls : Array Slot} {rest : List Value} {own : String} {x y : Int32} (hx : p.tables.exec = Jvm.exec) (hb : c.code = cc) (ho : s.vm.findClass own = some m.cls) (hcl : (Cond.classLink own idx ("[" ++ (FieldType.array .int).toString)).before args s = true) (hov : sm_AOA s) (har : (Cond.arrayClass .int).before args s = true) (hd : decode cc pc = .ok (.multianewarray idx 2, 4)) (hx0 : ¬ x < 0) (hy0 : ¬ y < 0) (hx1 : x.toNatClampNeg * 4 ≤ 536870912) (hy1 : y.toNatClampNeg * 4 ≤ 536870912) (hc1 : cells + (1 + x.toNatClampNeg) ≤ R.cells) (hs1 : slots + (x.toNatClampNeg + x.toNatClampNeg * y.toNatClampNeg) ≤ R.slots)
    (kk : ∀ (a q : ClassId) (H1 : Heap), s.vm.findClass ("[" ++ (FieldType.array .int).toString) = some a → s.vm.findClass (FieldType.array .int).toString = some q → H1.size = H.size + 1 + x.toNatClampNeg → H1[H.size]? = some (arrV a x.toNatClampNeg (mg_o H.size x.toNatClampNeg)) → (∀ z : Nat, z < H.size → H1[z]? = H[z]?) → (∀ j : Nat, j < x.toNatClampNeg → H1[H.size + 1 + j]? = some (mg_i q y.toNatClampNeg)) → W p l e R s m args below meth c H1 locs (cells + 1 + x.toNatClampNeg) (slots + x.toNatClampNeg + x.toNatClampNeg * y.toNatClampNeg) Q (F0 m (pc + 4) ls (.ref H.size :: rest))) :
    W p l e R s m args below meth c H locs cells slots Q (F0 m pc ls (.int y :: .int x :: rest)) := by
  intro T hT X
  obtain ⟨q, a, kA, n1, -, n2, n3, n4⟩ := hov.spec
  obtain ⟨q', kC, r, n5, n6, n7⟩ := Cond.arrayClass_spec har
  have eq : q' = q := Option.some.inj (n5.symm.trans n1)
  subst eq
  obtain ⟨a', n8, n9⟩ := Cond.classLink_spec ho hcl e.platform (by rw [X.admits.platform])
  have ea : a' = a := Option.some.inj (n8.symm.trans n4)
  subst ea
  obtain ⟨g1, g2, -⟩ := State.classEntry (e := e) X.warmed n9
  generalize T.vm.noted m.cls idx (.cls a') = vm1 at g1 g2
  obtain ⟨kA', o1, o2⟩ := g2.alike.2.2 _ _ n2
  obtain ⟨kC', o3, o4⟩ := g2.alike.2.2 _ _ n6
  have r1 := X.roomAbove hc1 hs1
  have X1 := mg_X (X.noted g2) a' q' x.toNatClampNeg y.toNatClampNeg x.toNatClampNeg
  obtain ⟨f1, f2, -, -, f5, f6⟩ := mg_fs (T.setVm vm1) a' q' x.toNatClampNeg y.toNatClampNeg x.toNatClampNeg
  have eH : (T.setVm vm1).heap = H := hT
  rw [eH] at f1 f2 f5 f6
  obtain ⟨t, s1, s2⟩ := kk a' q' (mg_st (T.setVm vm1) a' q' x.toNatClampNeg y.toNatClampNeg x.toNatClampNeg).heap n4 n1 f1 f2 f5 f6 _ rfl X1
  refine ⟨t, ?_, s2⟩
  have p1 := Launch.admits_arrayLengthLimit X.admits
  have p2 := Launch.admits_maxHeapBytes X.admits
  jvm_step X.here [hx, hb, hd]
  simp only [multianewarray.sem, wp_bind', W.resolveClassAt_links (State.method?_setTop (F0 m pc ls (.int y :: .int x :: rest)) X.here.top) g1]
  rw [W.popN, if_neg (by decide)]
  refine ⟨F0 m pc ls (.int y :: .int x :: rest), State.topJava?_setTop' (s := T.setVm vm1) _ X.here.top, [.int x, .int y], rest, rfl, rfl, ?_⟩
  simp only [List.mapM_cons, List.mapM_nil, wp_bind', wp_pure']
  have eS : ((T.setTop (F0 m pc ls (.int y :: .int x :: rest))).setVm vm1).setTop { F0 m pc ls (.int y :: .int x :: rest) with stack := rest } = (T.setVm vm1).setTop { F0 m pc ls (.int y :: .int x :: rest) with stack := rest } := by
    show ((T.setVm vm1).setTop _).setTop _ = _
    rw [State.setTop_setTop]
  rw [eS]
  refine mg_mk (S := (T.setVm vm1).setTop { F0 m pc ls (.int y :: .int x :: rest) with stack := rest }) (k := kA') (k' := kC') (q := q') (r := r) o1 (by rw [o2]; exact n3) o3 (by rw [o4]; exact n7) hx0 hy0 (by rw [p1]; omega) (by rw [p2]; show ¬ _ * 4 > _; omega) (by rw [p1]; omega) (by rw [p2]; show ¬ _ * 4 > _; omega) r1.1 r1.2 (fun d' acts' => ?_)
  rw [mg_top]
  simp only [wp_bind', W.mark, W.pushRef, State.topJava?_setTop' _ X1.here.top, Option.some.injEq, exists_eq_left', State.setTop_setTop, State.heap_setTop]
  intro acts
  simp [jvm, X1.here.top]
  rw [hT]
  exact s1
end SMR
