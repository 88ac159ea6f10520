/-! The rules of the small machine. -/
def sm_ldi (L st : List Value) (i : Nat) : Option (List Value × List Value) := match L[i]? with
  | some (.int x) => some (L, .int x :: st)
  | _ => none
def sm_ldl (L st : List Value) (i : Nat) : Option (List Value × List Value) := match L[i]? with
  | some (.long x) => some (L, .long x :: st)
  | _ => none
def sm_lda (L st : List Value) (i : Nat) : Option (List Value × List Value) := match L[i]? with
  | some (.ref x) => some (L, .ref x :: st)
  | _ => none
def sm_sti (L : List Value) (i : Nat) (v : Value) (st : List Value) : Option (List Value × List Value) := if i < L.length then some (sm_s1 L i v, st) else none
def sm_stl (L : List Value) (i : Nat) (v : Value) (st : List Value) : Option (List Value × List Value) := if i + 1 < L.length then some (sm_s2 L i v, st) else none
def sm_inc (L st : List Value) (i : Nat) (n : Int) : Option (List Value × List Value) := match L[i]? with
  | some (.int x) => some (sm_s1 L i (.int (x + Int32.ofInt n)), st)
  | _ => none
/-- what touches neither heap nor flow -/
def sm_st (I : Instr) (len : Nat) (L st : List Value) : Option (List Value × List Value) := match I, len, st with
  | .iload i, 2, st => sm_ldi L st i
  | .iload_n i, 1, st => sm_ldi L st i
  | .lload i, 2, st => sm_ldl L st i
  | .lload_n i, 1, st => sm_ldl L st i
  | .aload i, 2, st => sm_lda L st i
  | .aload_n i, 1, st => sm_lda L st i
  | .istore i, 2, .int x :: st => sm_sti L i (.int x) st
  | .istore_n i, 1, .int x :: st => sm_sti L i (.int x) st
  | .lstore i, 2, .long x :: st => sm_stl L i (.long x) st
  | .lstore_n i, 1, .long x :: st => sm_stl L i (.long x) st
  | .astore i, 2, .ref x :: st => sm_sti L i (.ref x) st
  | .astore_n i, 1, .ref x :: st => sm_sti L i (.ref x) st
  | .iinc i n, 3, st => sm_inc L st i n
  | .iadd, 1, .int y :: .int x :: st => some (L, .int (x + y) :: st)
  | .isub, 1, .int y :: .int x :: st => some (L, .int (x - y) :: st)
  | .imul, 1, .int y :: .int x :: st => some (L, .int (x * y) :: st)
  | .iand, 1, .int y :: .int x :: st => some (L, .int (x &&& y) :: st)
  | .ior, 1, .int y :: .int x :: st => some (L, .int (x ||| y) :: st)
  | .ixor, 1, .int y :: .int x :: st => some (L, .int (x ^^^ y) :: st)
  | .ishl, 1, .int y :: .int x :: st => some (L, .int (x <<< (y &&& 31)) :: st)
  | .ishr, 1, .int y :: .int x :: st => some (L, .int (x >>> (y &&& 31)) :: st)
  | .iushr, 1, .int y :: .int x :: st => some (L, .int (x.toUInt32 >>> (y.toUInt32 &&& Int32.toUInt32 31)).toInt32 :: st)
  | .ladd, 1, .long y :: .long x :: st => some (L, .long (x + y) :: st)
  | .lsub, 1, .long y :: .long x :: st => some (L, .long (x - y) :: st)
  | .lshl, 1, .int y :: .long x :: st => some (L, .long (x <<< (y.toInt64 &&& 63)) :: st)
  | .lcmp, 1, .long y :: .long x :: st => some (L, .int (lg_cmp x y) :: st)
  | .i2l, 1, .int x :: st => some (L, .long x.toInt64 :: st)
  | .i2b, 1, .int x :: st => some (L, .int x.toInt8.toInt32 :: st)
  | .i2s, 1, .int x :: st => some (L, .int x.toInt16.toInt32 :: st)
  | .dup, 1, .int x :: st => some (L, .int x :: .int x :: st)
  | .dup, 1, .ref x :: st => some (L, .ref x :: .ref x :: st)
  | .dup2, 1, .int x :: .ref y :: st => some (L, .int x :: .ref y :: .int x :: .ref y :: st)
  | .pop, 1, .int _ :: st => some (L, st)
  | _, _, _ => none
def sm_cn (I : Instr) (len : Nat) : Option Value := match I, len with
  | .iconst n, 1 => some (.int (Int32.ofInt n))
  | .bipush n, 2 => some (.int (Int8.ofInt n).toInt32)
  | .sipush n, 3 => some (.int (Int16.ofInt n).toInt32)
  | .lconst n, 1 => some (.long (Int64.ofNat (n : Nat)))
  | _, _ => none
/-- a field of ints, a field of references, by its entry in the pool -/
def sm_FI (own : String) (idx c j : Nat) : Prop := vwCl[c]? = some (sm_cl c) ∧ j < (sm_cl c).2.2 ∧ ((sm_cl c).2.1 j).2.2.1 = "I" ∧ Cond.fieldLink own idx ((sm_cl c).2.1 j).1 ((sm_cl c).2.1 j).2.1 ((sm_cl c).2.1 j).2.2.1 ∈ lw_tbl
def sm_FR (own : String) (idx c j : Nat) : Prop := vwCl[c]? = some (sm_cl c) ∧ j < (sm_cl c).2.2 ∧ ((sm_cl c).2.1 j).2.2.1 ≠ "I" ∧ Cond.fieldLink own idx ((sm_cl c).2.1 j).1 ((sm_cl c).2.1 j).2.1 ((sm_cl c).2.1 j).2.2.1 ∈ lw_tbl
def sm_FF (c j : Nat) : Prop := ((sm_cl c).2.1 j).2.2.2 = true ∧ ∃ ty, parseFieldDescriptor ((sm_cl c).2.1 j).2.2.1 = some ty ∧ ∀ a, narrow ty (.ref a) = .ref a ∧ fits ty (.ref a) = true
/-- a call, by its entry in the pool -/
def sm_LB (M : sm_M) (n : Nat) : Prop := plainName M.1.cls = true ∧ Cond.code M.1 M.2.1 M.2.2.1 M.2.2.2 ∈ lw_tbl ∧ Cond.initialized M.1.cls ∈ lw_tbl ∧ (M.1.cls ≠ "java/lang/invoke/MethodHandle" ∧ M.1.cls ≠ "java/lang/invoke/VarHandle" ∧ (parseMethodDescriptor M.1.desc).map (fun d => d.parameters.length) = some n) ∧ M.2.2.1 ≤ 20
def sm_LV (own : String) (idx : Nat) (M : sm_M) (n : Nat) : Prop := sm_LB M n ∧ Cond.methodLink own idx M.1 ∈ lw_tbl ∧ Cond.instanceMethod M.1 ∈ lw_tbl ∧ Cond.selects M.1.cls M.1 M.1 ∈ lw_tbl
def sm_LS (own : String) (idx : Nat) (M : sm_M) (n : Nat) : Prop := sm_LB M n ∧ Cond.methodLink own idx M.1 ∈ lw_tbl ∧ Cond.static M.1 ∈ lw_tbl
def sm_LI (own : String) (idx : Nat) (M : sm_M) (n : Nat) : Prop := sm_LB M n ∧ Cond.methodLink own idx M.1 ∈ lw_tbl ∧ Cond.instanceMethod M.1 ∈ lw_tbl ∧ M.1.name = "<init>" ∧ M.2.2.2 = none
def sm_LN (own : String) (idx : Nat) (M : sm_M) (n : Nat) : Prop := sm_LB M n ∧ Cond.methodLinkNest own idx M.1 "SnowInns" ∈ lw_tbl ∧ Cond.instanceMethod M.1 ∈ lw_tbl ∧ M.1.name = "<init>" ∧ M.2.2.2 = none
def sm_LC (own : String) (idx c : Nat) : Prop := vwCl[c]? = some (sm_cl c) ∧ Cond.classLink own idx (sm_cl c).1 ∈ lw_tbl ∧ Cond.instantiable (sm_cl c).1 (sm_cl c).2.2 ∈ lw_tbl ∧ Cond.initialized (sm_cl c).1 ∈ lw_tbl
abbrev sm_P : Type := Nat → List Value → List Value → sm_H → Nat → Nat → Prop
abbrev sm_Q : Type := Option Value → sm_H → Prop
abbrev sm_K : Type := Nat → Nat → sm_M → List Value → sm_H → sm_Q → Prop
def sm_cat (st : List Value) : Prop := (st.map (fun v => v.category)).sum ≤ 8
def sm_rule (call : sm_K) (mc ms : Nat) (M : sm_M) (Q : sm_Q) (P : sm_P) (k : Nat) : Prop := match k with
  | 0 => ∀ (pc : Nat) (I : Instr) (len : Nat) (L st : List Value) (h : sm_H) (c s : Nat) (L' st' : List Value), decode M.2.1 pc = .ok (I, len) → sm_st I len L st = some (L', st') → P (pc + len) L' st' h c s → P pc L st h c s
  | 1 => ∀ (pc : Nat) (I : Instr) (len : Nat) (L st : List Value) (h : sm_H) (c s : Nat) (v : Value), decode M.2.1 pc = .ok (I, len) → sm_cn I len = some v → P (pc + len) L (v :: st) h c s → P pc L st h c s
  | 2 => ∀ (pc idx : Nat) (v : Int32) (L st : List Value) (h : sm_H) (c s : Nat), decode M.2.1 pc = .ok (.ldc_w idx, 3) → Cond.constant M.1.cls idx v ∈ lw_tbl → P (pc + 3) L (.int v :: st) h c s → P pc L st h c s
  | 3 => ∀ (pc idx : Nat) (v : Int64) (L st : List Value) (h : sm_H) (c s : Nat), decode M.2.1 pc = .ok (.ldc2_w idx, 3) → Cond.constantLong M.1.cls idx v ∈ lw_tbl → P (pc + 3) L (.long v :: st) h c s → P pc L st h c s
  | 4 => ∀ (pc tgt : Nat) (off : Int) (x : Int32) (L st : List Value) (h : sm_H) (c s : Nat), decode M.2.1 pc = .ok (.ifCond .eq off, 3) → (pc : Int) + off = (tgt : Int) → (x = 0 → P tgt L st h c s) → (¬ x = 0 → P (pc + 3) L st h c s) → P pc L (.int x :: st) h c s
  | 5 => ∀ (pc tgt : Nat) (off : Int) (x : Int32) (L st : List Value) (h : sm_H) (c s : Nat), decode M.2.1 pc = .ok (.ifCond .ne off, 3) → (pc : Int) + off = (tgt : Int) → (¬ x = 0 → P tgt L st h c s) → (x = 0 → P (pc + 3) L st h c s) → P pc L (.int x :: st) h c s
  | 6 => ∀ (pc tgt : Nat) (off : Int) (x : Int32) (L st : List Value) (h : sm_H) (c s : Nat), decode M.2.1 pc = .ok (.ifCond .lt off, 3) → (pc : Int) + off = (tgt : Int) → (x < 0 → P tgt L st h c s) → (¬ x < 0 → P (pc + 3) L st h c s) → P pc L (.int x :: st) h c s
  | 7 => ∀ (pc tgt : Nat) (off : Int) (x : Int32) (L st : List Value) (h : sm_H) (c s : Nat), decode M.2.1 pc = .ok (.ifCond .ge off, 3) → (pc : Int) + off = (tgt : Int) → (0 ≤ x → P tgt L st h c s) → (¬ 0 ≤ x → P (pc + 3) L st h c s) → P pc L (.int x :: st) h c s
  | 8 => ∀ (pc tgt : Nat) (off : Int) (x : Int32) (L st : List Value) (h : sm_H) (c s : Nat), decode M.2.1 pc = .ok (.ifCond .gt off, 3) → (pc : Int) + off = (tgt : Int) → (0 < x → P tgt L st h c s) → (¬ 0 < x → P (pc + 3) L st h c s) → P pc L (.int x :: st) h c s
  | 9 => ∀ (pc tgt : Nat) (off : Int) (x : Int32) (L st : List Value) (h : sm_H) (c s : Nat), decode M.2.1 pc = .ok (.ifCond .le off, 3) → (pc : Int) + off = (tgt : Int) → (x ≤ 0 → P tgt L st h c s) → (¬ x ≤ 0 → P (pc + 3) L st h c s) → P pc L (.int x :: st) h c s
  | 10 => ∀ (pc tgt : Nat) (off : Int) (x y : Int32) (L st : List Value) (h : sm_H) (c s : Nat), decode M.2.1 pc = .ok (.if_icmp .eq off, 3) → (pc : Int) + off = (tgt : Int) → (x = y → P tgt L st h c s) → (¬ x = y → P (pc + 3) L st h c s) → P pc L (.int y :: .int x :: st) h c s
  | 11 => ∀ (pc tgt : Nat) (off : Int) (x y : Int32) (L st : List Value) (h : sm_H) (c s : Nat), decode M.2.1 pc = .ok (.if_icmp .ne off, 3) → (pc : Int) + off = (tgt : Int) → (¬ x = y → P tgt L st h c s) → (x = y → P (pc + 3) L st h c s) → P pc L (.int y :: .int x :: st) h c s
  | 12 => ∀ (pc tgt : Nat) (off : Int) (x y : Int32) (L st : List Value) (h : sm_H) (c s : Nat), decode M.2.1 pc = .ok (.if_icmp .lt off, 3) → (pc : Int) + off = (tgt : Int) → (x < y → P tgt L st h c s) → (¬ x < y → P (pc + 3) L st h c s) → P pc L (.int y :: .int x :: st) h c s
  | 13 => ∀ (pc tgt : Nat) (off : Int) (x y : Int32) (L st : List Value) (h : sm_H) (c s : Nat), decode M.2.1 pc = .ok (.if_icmp .ge off, 3) → (pc : Int) + off = (tgt : Int) → (y ≤ x → P tgt L st h c s) → (¬ y ≤ x → P (pc + 3) L st h c s) → P pc L (.int y :: .int x :: st) h c s
  | 14 => ∀ (pc tgt : Nat) (off : Int) (x y : Int32) (L st : List Value) (h : sm_H) (c s : Nat), decode M.2.1 pc = .ok (.if_icmp .gt off, 3) → (pc : Int) + off = (tgt : Int) → (y < x → P tgt L st h c s) → (¬ y < x → P (pc + 3) L st h c s) → P pc L (.int y :: .int x :: st) h c s
  | 15 => ∀ (pc tgt : Nat) (off : Int) (x y : Int32) (L st : List Value) (h : sm_H) (c s : Nat), decode M.2.1 pc = .ok (.if_icmp .le off, 3) → (pc : Int) + off = (tgt : Int) → (x ≤ y → P tgt L st h c s) → (¬ x ≤ y → P (pc + 3) L st h c s) → P pc L (.int y :: .int x :: st) h c s
  | 16 => ∀ (pc tgt : Nat) (off : Int) (L st : List Value) (h : sm_H) (c s : Nat), decode M.2.1 pc = .ok (.goto off, 3) → (pc : Int) + off = (tgt : Int) → P tgt L st h c s → P pc L st h c s
  | 17 => ∀ (pc tgt len : Nat) (dflt lo hi : Int) (offs : Array Int) (x : Int32) (L st : List Value) (h : sm_H) (c s : Nat), decode M.2.1 pc = .ok (.tableswitch dflt lo hi offs, len) → (x.toInt < lo ∨ hi < x.toInt) → (pc : Int) + dflt = (tgt : Int) → P tgt L st h c s → P pc L (.int x :: st) h c s
  | 18 => ∀ (pc tgt len : Nat) (dflt lo hi off : Int) (offs : Array Int) (x : Int32) (L st : List Value) (h : sm_H) (c s : Nat), decode M.2.1 pc = .ok (.tableswitch dflt lo hi offs, len) → ¬ x.toInt < lo → ¬ hi < x.toInt → offs[(x.toInt - lo).toNat]? = some off → (pc : Int) + off = (tgt : Int) → P tgt L st h c s → P pc L (.int x :: st) h c s
  | 19 => ∀ (pc tgt len : Nat) (dflt off : Int) (ps : Array (Int × Int)) (x : Int32) (L st : List Value) (h : sm_H) (c s : Nat), decode M.2.1 pc = .ok (.lookupswitch dflt ps, len) → (ps.toList.zip (ps.toList.drop 1)).all (fun (a, next) => a.1 < next.1) = true → Op.lookupswitch.offset ps.toList dflt x.toInt = off → (pc : Int) + off = (tgt : Int) → P tgt L st h c s → P pc L (.int x :: st) h c s
  | 20 => ∀ (pc : Nat) (ty : FieldType) (v : Int32) (L : List Value) (h : sm_H) (c s : Nat), decode M.2.1 pc = .ok (.ireturn, 1) → M.2.2.2 = some ty → narrow ty (.int v) = .int v → c ≤ mc → s ≤ ms → Q (some (.int v)) h → P pc L [.int v] h c s
  | 21 => ∀ (pc : Nat) (v : Int64) (L : List Value) (h : sm_H) (c s : Nat), decode M.2.1 pc = .ok (.lreturn, 1) → M.2.2.2 = some .long → c ≤ mc → s ≤ ms → Q (some (.long v)) h → P pc L [.long v] h c s
  | 22 => ∀ (pc : Nat) (L : List Value) (h : sm_H) (c s : Nat), decode M.2.1 pc = .ok (.return_, 1) → M.2.2.2 = none → c ≤ mc → s ≤ ms → Q none h → P pc L [] h c s
  | 23 => ∀ (pc idx c0 j q : Nat) (L st : List Value) (h : sm_H) (c s : Nat), decode M.2.1 pc = .ok (.getfield idx, 3) → sm_FI M.1.cls idx c0 j → q < h.1 → (h.2.1 q).1 = c0 + 3 → P (pc + 3) L (.int (h.2.2.1 q j) :: st) h c s → P pc L (.ref q :: st) h c s
  | 24 => ∀ (pc idx c0 j q r : Nat) (L st : List Value) (h : sm_H) (c s : Nat), decode M.2.1 pc = .ok (.getfield idx, 3) → sm_FR M.1.cls idx c0 j → q < h.1 → (h.2.1 q).1 = c0 + 3 → h.2.2.2 q j = some r → P (pc + 3) L (.ref r :: st) h c s → P pc L (.ref q :: st) h c s
  | 25 => ∀ (pc idx c0 j q : Nat) (x : Int32) (L st : List Value) (h : sm_H) (c s : Nat), decode M.2.1 pc = .ok (.putfield idx, 3) → sm_FI M.1.cls idx c0 j → ((sm_cl c0).2.1 j).2.2.2 = false → q < h.1 → (h.2.1 q).1 = c0 + 3 → P (pc + 3) L st (sm_si h q j x) c s → P pc L (.int x :: .ref q :: st) h c s
  | 26 => ∀ (pc idx c0 j q : Nat) (x : Int32) (L st : List Value) (h : sm_H) (c s : Nat), decode M.2.1 pc = .ok (.putfield idx, 3) → sm_FI M.1.cls idx c0 j → ((sm_cl c0).2.1 j).2.2.2 = true → M.1.name = "<init>" → ((sm_cl c0).2.1 j).1 = M.1.cls → q < h.1 → (h.2.1 q).1 = c0 + 3 → P (pc + 3) L st (sm_si h q j x) c s → P pc L (.int x :: .ref q :: st) h c s
  | 27 => ∀ (pc idx c0 j q r : Nat) (L st : List Value) (h : sm_H) (c s : Nat), decode M.2.1 pc = .ok (.putfield idx, 3) → sm_FR M.1.cls idx c0 j → sm_FF c0 j → M.1.name = "<init>" → ((sm_cl c0).2.1 j).1 = M.1.cls → q < h.1 → (h.2.1 q).1 = c0 + 3 → P (pc + 3) L st (sm_sr h q j (some r)) c s → P pc L (.ref r :: .ref q :: st) h c s
  | 28 => ∀ (pc q n j : Nat) (i : Int32) (L st : List Value) (h : sm_H) (c s : Nat), decode M.2.1 pc = .ok (.iaload, 1) → q < h.1 → h.2.1 q = (0, n) → vp_in i n → i.toNatClampNeg = j → P (pc + 1) L (.int (h.2.2.1 q j) :: st) h c s → P pc L (.int i :: .ref q :: st) h c s
  | 29 => ∀ (pc q n j : Nat) (i x : Int32) (L st : List Value) (h : sm_H) (c s : Nat), decode M.2.1 pc = .ok (.iastore, 1) → q < h.1 → h.2.1 q = (0, n) → vp_in i n → i.toNatClampNeg = j → P (pc + 1) L st (sm_si h q j x) c s → P pc L (.int x :: .int i :: .ref q :: st) h c s
  | 30 => ∀ (pc q n r : Nat) (i : Int32) (L st : List Value) (h : sm_H) (c s : Nat), decode M.2.1 pc = .ok (.aaload, 1) → q < h.1 → h.2.1 q = (1, n) → vp_in i n → h.2.2.2 q i.toNatClampNeg = some r → P (pc + 1) L (.ref r :: st) h c s → P pc L (.int i :: .ref q :: st) h c s
  | 31 => ∀ (pc q n r : Nat) (i : Int32) (L st : List Value) (h : sm_H) (c s : Nat), decode M.2.1 pc = .ok (.aaload, 1) → q < h.1 → h.2.1 q = (2, n) → vp_in i n → h.2.2.2 q i.toNatClampNeg = some r → P (pc + 1) L (.ref r :: st) h c s → P pc L (.int i :: .ref q :: st) h c s
  | 32 => ∀ (pc q n r : Nat) (i : Int32) (L st : List Value) (h : sm_H) (c s : Nat), decode M.2.1 pc = .ok (.aastore, 1) → q < h.1 → h.2.1 q = (2, n) → vp_in i n → r < h.1 → (h.2.1 r).1 = 6 → P (pc + 1) L st (sm_sr h q i.toNatClampNeg (some r)) c s → P pc L (.ref r :: .int i :: .ref q :: st) h c s
  | 33 => ∀ (pc idx c0 : Nat) (L st : List Value) (h : sm_H) (c s : Nat), decode M.2.1 pc = .ok (.new idx, 3) → sm_LC M.1.cls idx c0 → c + 1 ≤ mc → s + (sm_cl c0).2.2 ≤ ms → P (pc + 3) L (.ref h.1 :: st) (sm_nw h 1 (fun _ => (c0 + 3, 0)) (fun _ _ => none)) (c + 1) (s + (sm_cl c0).2.2) → P pc L st h c s
  | 34 => ∀ (pc N : Nat) (n : Int32) (L st : List Value) (h : sm_H) (c s : Nat), decode M.2.1 pc = .ok (.newarray .int, 2) → ¬ n < 0 → n.toNatClampNeg = N → N ≤ 1000 → c + 1 ≤ mc → s + N ≤ ms → P (pc + 2) L (.ref h.1 :: st) (sm_nw h 1 (fun _ => (0, N)) (fun _ _ => none)) (c + 1) (s + N) → P pc L (.int n :: st) h c s
  | 35 => ∀ (pc idx N : Nat) (n : Int32) (L st : List Value) (h : sm_H) (c s : Nat), decode M.2.1 pc = .ok (.anewarray idx, 3) → Cond.classLink M.1.cls idx "SnowInns$Sheet" ∈ lw_tbl → ¬ n < 0 → n.toNatClampNeg = N → N ≤ 1000 → c + 1 ≤ mc → s + N ≤ ms → P (pc + 3) L (.ref h.1 :: st) (sm_nw h 1 (fun _ => (2, N)) (fun _ _ => none)) (c + 1) (s + N) → P pc L (.int n :: st) h c s
  | 36 => ∀ (pc idx N K : Nat) (n k : Int32) (L st : List Value) (h : sm_H) (c s : Nat), decode M.2.1 pc = .ok (.multianewarray idx 2, 4) → Cond.classLink M.1.cls idx "[[I" ∈ lw_tbl → ¬ n < 0 → n.toNatClampNeg = N → N ≤ 1000 → ¬ k < 0 → k.toNatClampNeg = K → K ≤ 1000 → c + (1 + N) ≤ mc → s + (N + N * K) ≤ ms → P (pc + 4) L (.ref h.1 :: st) (sm_nw h (1 + N) (fun i => if i = 0 then (1, N) else (0, K)) (fun i j => if i = 0 ∧ j < N then some (h.1 + 1 + j) else none)) (c + 1 + N) (s + N + N * K) → P pc L (.int k :: .int n :: st) h c s
  | 37 => ∀ (pc idx c0 q mc' ms' : Nat) (M' : sm_M) (As L st : List Value) (h : sm_H) (c s : Nat), decode M.2.1 pc = .ok (.invokevirtual idx, 3) → sm_LV M.1.cls idx M' As.length → q < h.1 → (h.2.1 q).1 = c0 + 3 → vwCl[c0]? = some (sm_cl c0) → (sm_cl c0).1 = M'.1.cls → sm_cat st → c + mc' ≤ mc → s + ms' ≤ ms → call mc' ms' M' (.ref q :: As) h (fun r h' => P (pc + 3) L (r.toList ++ st) h' (c + mc') (s + ms')) → P pc L (As.reverse ++ .ref q :: st) h c s
  | 38 => ∀ (pc idx mc' ms' : Nat) (M' : sm_M) (As L st : List Value) (h : sm_H) (c s : Nat), decode M.2.1 pc = .ok (.invokestatic idx, 3) → sm_LS M.1.cls idx M' As.length → sm_cat st → c + mc' ≤ mc → s + ms' ≤ ms → call mc' ms' M' As h (fun r h' => P (pc + 3) L (r.toList ++ st) h' (c + mc') (s + ms')) → P pc L (As.reverse ++ st) h c s
  | 39 => ∀ (pc idx q mc' ms' : Nat) (M' : sm_M) (As L st : List Value) (h : sm_H) (c s : Nat), decode M.2.1 pc = .ok (.invokespecial idx, 3) → sm_LI M.1.cls idx M' As.length → sm_cat st → c + mc' ≤ mc → s + ms' ≤ ms → call mc' ms' M' (.ref q :: As) h (fun r h' => P (pc + 3) L (r.toList ++ st) h' (c + mc') (s + ms')) → P pc L (As.reverse ++ .ref q :: st) h c s
  | 40 => ∀ (pc idx q mc' ms' : Nat) (M' : sm_M) (As L st : List Value) (h : sm_H) (c s : Nat), decode M.2.1 pc = .ok (.invokespecial idx, 3) → sm_LN M.1.cls idx M' As.length → sm_cat st → c + mc' ≤ mc → s + ms' ≤ ms → call mc' ms' M' (.ref q :: As) h (fun r h' => P (pc + 3) L (r.toList ++ st) h' (c + mc') (s + ms')) → P pc L (As.reverse ++ .ref q :: st) h c s
  | 41 => ∀ (pc idx q : Nat) (L st : List Value) (h : sm_H) (c s : Nat), decode M.2.1 pc = .ok (.invokespecial idx, 3) → Cond.methodLink M.1.cls idx objectInit ∈ lw_tbl → sm_cat st → P (pc + 3) L st h c s → P pc L (.ref q :: st) h c s
  | 42 => ∀ (pc idx : Nat) (x y : Int32) (L st : List Value) (h : sm_H) (c s : Nat), decode M.2.1 pc = .ok (.invokestatic idx, 3) → Cond.methodLink M.1.cls idx Lib.Math.min.name ∈ lw_tbl → sm_cat st → c ≤ mc → s ≤ ms → P (pc + 3) L (.int (if y < x then y else x) :: st) h c s → P pc L (.int y :: .int x :: st) h c s
  | 43 => ∀ (pc idx : Nat) (x y : Int32) (L st : List Value) (h : sm_H) (c s : Nat), decode M.2.1 pc = .ok (.invokestatic idx, 3) → Cond.methodLink M.1.cls idx Lib.Math.max.name ∈ lw_tbl → sm_cat st → c ≤ mc → s ≤ ms → P (pc + 3) L (.int (if x < y then y else x) :: st) h c s → P pc L (.int y :: .int x :: st) h c s
  | 44 => ∀ (pc idx q0 q1 n0 n1 : Nat) (sp dp n : Int32) (L st : List Value) (h : sm_H) (c s : Nat), decode M.2.1 pc = .ok (.invokestatic idx, 3) → Cond.methodLink M.1.cls idx arraycopyName ∈ lw_tbl → q0 < h.1 → q1 < h.1 → h.2.1 q0 = (0, n0) → h.2.1 q1 = (0, n1) → ¬ sp < 0 → ¬ dp < 0 → ¬ n < 0 → sp.toNatClampNeg + n.toNatClampNeg ≤ n0 → dp.toNatClampNeg + n.toNatClampNeg ≤ n1 → sm_cat st → P (pc + 3) L st (sm_sw h q1 (va_cpy (h.2.2.1 q0) (h.2.2.1 q1) sp.toNatClampNeg dp.toNatClampNeg n.toNatClampNeg)) c s → P pc L (.int n :: .int dp :: .ref q1 :: .int sp :: .ref q0 :: st) h c s
  | 45 => ∀ (pc : Nat) (x y : Int32) (L st : List Value) (h : sm_H) (c s : Nat), decode M.2.1 pc = .ok (.idiv, 1) → ¬ y = 0 → P (pc + 1) L (.int (x / y) :: st) h c s → P pc L (.int y :: .int x :: st) h c s
  | 46 => ∀ (pc : Nat) (x y : Int32) (L st : List Value) (h : sm_H) (c s : Nat), decode M.2.1 pc = .ok (.irem, 1) → ¬ y = 0 → P (pc + 1) L (.int (x - x / y * y) :: st) h c s → P pc L (.int y :: .int x :: st) h c s
  | 47 => ∀ (pc : Nat) (x y : Int64) (L st : List Value) (h : sm_H) (c s : Nat), decode M.2.1 pc = .ok (.ldiv, 1) → ¬ y = 0 → P (pc + 1) L (.long (x / y) :: st) h c s → P pc L (.long y :: .long x :: st) h c s
  | 48 => ∀ (pc : Nat) (x y : Int64) (L st : List Value) (h : sm_H) (c s : Nat), decode M.2.1 pc = .ok (.lrem, 1) → ¬ y = 0 → P (pc + 1) L (.long (x - x / y * y) :: st) h c s → P pc L (.long y :: .long x :: st) h c s
  | _ => True
def sm_wp (call : sm_K) (mc ms : Nat) (M : sm_M) (Q : sm_Q) (pc : Nat) (L st : List Value) (h : sm_H) (c s : Nat) : Prop := ∀ P : sm_P, (∀ k : Nat, sm_rule call mc ms M Q P k) → P pc L st h c s
def sm_fl (args : List Value) : List Value := args.flatMap (fun v => if v.category = 2 then [v, .null] else [v])
def sm_en (args : List Value) (n : Nat) : List Value := sm_fl args ++ List.replicate (n - (sm_fl args).length) .null
/-- the method M returns, at a depth of d calls, with at most mc new cells of ms slots, as Q says -/
def sm_c (d : Nat) : sm_K := match d with
  | 0 => fun _ _ _ _ _ _ => False
  | d + 1 => fun mc ms M args h Q => (sm_fl args).length ≤ M.2.2.1 ∧ sm_wp (sm_c d) mc ms M Q 0 (sm_en args M.2.2.1) [] h 0 0
