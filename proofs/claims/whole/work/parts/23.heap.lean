/-! The rules that read and write cells. -/
set_option maxRecDepth 100000 in
theorem sm_cls (k : Nat) (h : vwCl[k]? = some (sm_cl k)) : (∀ w ∈ u_ws (sm_cl k).1 (sm_cl k).2.1 (sm_cl k).2.2, w ∈ lw_tbl ∧ goodWord w = true) ∧ (∃ ty0 : Nat → FieldType, ∀ j, j < (sm_cl k).2.2 → parseFieldDescriptor ((sm_cl k).2.1 j).2.2.1 = some (ty0 j)) ∧ (∀ x, x < (sm_cl k).2.2 → ∀ y, y < (sm_cl k).2.2 → x ≠ y → ((sm_cl k).2.1 x).2.1 ≠ ((sm_cl k).2.1 y).2.1) := by
  have hk : k < 8 := (List.getElem?_eq_some_iff.mp h).1
  clear h
  match k, hk with
  | 0, _ => exact ⟨by decide +kernel, ⟨tyX0, tyX0_ok⟩, nmX0⟩
  | 1, _ => exact ⟨by decide +kernel, ⟨tyX1, tyX1_ok⟩, nmX1⟩
  | 2, _ => exact ⟨by decide +kernel, ⟨tyX2, tyX2_ok⟩, nmX2⟩
  | 3, _ => exact ⟨by decide +kernel, ⟨tyX3, tyX3_ok⟩, nmX3⟩
  | 4, _ => exact ⟨by decide +kernel, ⟨tyX4, tyX4_ok⟩, nmX4⟩
  | 5, _ => exact ⟨by decide +kernel, ⟨tyX5, tyX5_ok⟩, nmX5⟩
  | 6, _ => exact ⟨by decide +kernel, ⟨tyX6, tyX6_ok⟩, nmX6⟩
  | 7, _ => exact ⟨by decide +kernel, ⟨tyX7, tyX7_ok⟩, nmX7⟩
section SMH
variable {p : Program} {l : Launch} {e : Env} {R : Room} {s : State} {m : MethodId} {args : Array Value} {below : List Frame} {meth : Method} {c : Code} {Qf : State → Prop} {b : Nat} {D : va_G} {cs : ClassId × ClassId × ClassId} {M : sm_M} {d mc ms : Nat} {Q : sm_Q}
theorem sm_uin {k : Nat} (h : vwCl[k]? = some (sm_cl k)) : ∀ w ∈ u_ws (sm_cl k).1 (sm_cl k).2.1 (sm_cl k).2.2, w ∈ sm_tb := fun w hw => sm_tbm ((sm_cls k h).1 w hw).1 ((sm_cls k h).1 w hw).2
theorem sm_hts (ht : ∀ w ∈ lw_tbl, goodWord w = true → w.before args s = true) : ∀ w ∈ sm_tb, w.before args s = true := fun w hw => ht w (List.mem_filter.mp hw).1 (List.mem_filter.mp hw).2
theorem sm_e_cg {h h' : sm_H} {r : Nat} (h1 : h'.2.1 r = h.2.1 r) (h2 : h'.2.2.1 r = h.2.2.1 r) (h3 : h'.2.2.2 r = h.2.2.2 r) : sm_e b cs h' r = sm_e b cs h r := by
  unfold sm_e
  rw [h1, h2, h3]
theorem sm_e_i {h : sm_H} {q n : Nat} (hk : h.2.1 q = (0, n)) : sm_e b cs h q = .inl (cs.1, n, .inl (h.2.2.1 q)) := by
  unfold sm_e
  rw [hk]
theorem sm_e_g {h : sm_H} {q n : Nat} (hk : h.2.1 q = (1, n)) : sm_e b cs h q = .inl (cs.2.1, n, .inr (.inr (.inr (.inr (fun j => (h.2.2.2 q j).map (fun r => b + r)))))) := by
  unfold sm_e
  rw [hk]
theorem sm_e_s {h : sm_H} {q n : Nat} (hk : h.2.1 q = (2, n)) : sm_e b cs h q = .inl (cs.2.2, n, .inr (.inr (.inr (.inr (fun j => (h.2.2.2 q j).map (fun r => b + r)))))) := by
  unfold sm_e
  rw [hk]
def sm_fs (b : Nat) (h : sm_H) (q k : Nat) : List Value := (List.range (sm_cl k).2.2).map (fun j => if ((sm_cl k).2.1 j).2.2.1 = "I" then .int (h.2.2.1 q j) else va_rf ((h.2.2.2 q j).map (fun r => b + r)))
theorem sm_e_o {h : sm_H} {q k : Nat} (hk : (h.2.1 q).1 = k + 3) : sm_e b cs h q = .inr (k, sm_fs b h q k) := by
  unfold sm_e sm_fs
  generalize h.2.1 q = x at hk
  obtain ⟨x1, x2⟩ := x
  have hk : x1 = k + 3 := hk
  subst hk
  rfl
theorem sm_fs_i {h : sm_H} {q k j : Nat} (hj : j < (sm_cl k).2.2) (hi : ((sm_cl k).2.1 j).2.2.1 = "I") : (sm_fs b h q k)[j]? = some (.int (h.2.2.1 q j)) := by
  unfold sm_fs
  rw [List.getElem?_map, List.getElem?_range hj]
  simp [hi]
theorem sm_fs_r {h : sm_H} {q k j : Nat} (hj : j < (sm_cl k).2.2) (hi : ((sm_cl k).2.1 j).2.2.1 ≠ "I") : (sm_fs b h q k)[j]? = some (va_rf ((h.2.2.2 q j).map (fun r => b + r))) := by
  unfold sm_fs
  rw [List.getElem?_map, List.getElem?_range hj]
  simp [hi]
theorem sm_fs_len {h : sm_H} {q k : Nat} : (sm_fs b h q k).length = (sm_cl k).2.2 := by
  unfold sm_fs
  rw [List.length_map, List.length_range]
theorem sm_up_o {α : Type} {f : Nat → Nat → α} {q j r : Nat} {v : α} (h : r ≠ q) : sm_up f q j v r = f r := by
  funext x
  unfold sm_up
  rw [if_neg h]
theorem sm_up_s {α : Type} {f : Nat → Nat → α} {q j : Nat} {v : α} : sm_up f q j v q = fun x => if x = j then v else f q x := by
  funext x
  unfold sm_up
  rw [if_pos rfl]
theorem sm_e_si {h : sm_H} {q j r : Nat} {x : Int32} (hr : r ≠ q) : sm_e b cs (sm_si h q j x) r = sm_e b cs h r := sm_e_cg rfl (sm_up_o hr) rfl
theorem sm_e_sr {h : sm_H} {q j r : Nat} {x : Option Nat} (hr : r ≠ q) : sm_e b cs (sm_sr h q j x) r = sm_e b cs h r := sm_e_cg rfl rfl (sm_up_o hr)
theorem sm_e_sw {h : sm_H} {q r : Nat} {f : Nat → Int32} (hr : r ≠ q) : sm_e b cs (sm_sw h q f) r = sm_e b cs h r := sm_e_cg rfl (if_neg hr) rfl
theorem sm_fs_si {h : sm_H} {q k j : Nat} {x : Int32} (hj : j < (sm_cl k).2.2) (hi : ((sm_cl k).2.1 j).2.2.1 = "I") : sm_fs b (sm_si h q j x) q k = (sm_fs b h q k).set j (.int x) := by
  apply List.ext_getElem?
  intro i
  by_cases hn : i < (sm_cl k).2.2
  · by_cases e : i = j
    · subst e
      rw [sm_fs_i hj hi, List.getElem?_set_self (by rw [sm_fs_len]; exact hj)]
      simp [sm_si, sm_up]
    · rw [List.getElem?_set_ne (Ne.symm e)]
      by_cases hI : ((sm_cl k).2.1 i).2.2.1 = "I"
      · rw [sm_fs_i hn hI, sm_fs_i hn hI]
        simp [sm_si, sm_up, e]
      · rw [sm_fs_r hn hI, sm_fs_r hn hI]
        rfl
  · rw [List.getElem?_eq_none (by rw [sm_fs_len]; omega), List.getElem?_eq_none (by rw [List.length_set, sm_fs_len]; omega)]
theorem sm_fs_sr {h : sm_H} {q k j r : Nat} (hj : j < (sm_cl k).2.2) (hi : ((sm_cl k).2.1 j).2.2.1 ≠ "I") : sm_fs b (sm_sr h q j (some r)) q k = (sm_fs b h q k).set j (.ref (b + r)) := by
  apply List.ext_getElem?
  intro i
  by_cases hn : i < (sm_cl k).2.2
  · by_cases e : i = j
    · subst e
      rw [sm_fs_r hj hi, List.getElem?_set_self (by rw [sm_fs_len]; exact hj)]
      simp [sm_sr, sm_up, va_rf]
    · rw [List.getElem?_set_ne (Ne.symm e)]
      by_cases hI : ((sm_cl k).2.1 i).2.2.1 = "I"
      · rw [sm_fs_i hn hI, sm_fs_i hn hI]
        rfl
      · rw [sm_fs_r hn hI, sm_fs_r hn hI]
        simp [sm_sr, sm_up, e]
  · rw [List.getElem?_eq_none (by rw [sm_fs_len]; omega), List.getElem?_eq_none (by rw [List.length_set, sm_fs_len]; omega)]
theorem sm_at_o {h : sm_H} {q k : Nat} (hq : q < h.1) (hk : (h.2.1 q).1 = k + 3) : (sm_ws b cs h)[q]? = some (b + q, .inr (k, sm_fs b h q k)) := by rw [sm_ws_at b cs h hq, sm_e_o hk]
theorem sm_at_i {h : sm_H} {q n : Nat} (hq : q < h.1) (hk : h.2.1 q = (0, n)) : (sm_ws b cs h)[q]? = some (b + q, .inl (cs.1, n, .inl (h.2.2.1 q))) := by rw [sm_ws_at b cs h hq, sm_e_i hk]
theorem sm_at_g {h : sm_H} {q n : Nat} (hq : q < h.1) (hk : h.2.1 q = (1, n)) : (sm_ws b cs h)[q]? = some (b + q, .inl (cs.2.1, n, .inr (.inr (.inr (.inr (fun j => (h.2.2.2 q j).map (fun r => b + r))))))) := by rw [sm_ws_at b cs h hq, sm_e_g hk]
theorem sm_at_s {h : sm_H} {q n : Nat} (hq : q < h.1) (hk : h.2.1 q = (2, n)) : (sm_ws b cs h)[q]? = some (b + q, .inl (cs.2.2, n, .inr (.inr (.inr (.inr (fun j => (h.2.2.2 q j).map (fun r => b + r))))))) := by rw [sm_ws_at b cs h hq, sm_e_s hk]
/-- a cell is put anew: the picture moves -/
theorem sm_W.put {h h' : sm_H} {q : Nat} {x0 x : va_E} {H H1 : Heap} (hW : sm_W b D cs h H) (hq : q < h.1) (hx0 : sm_e b cs h q = x0) (hn : h'.1 = h.1) (hx : sm_e b cs h' q = x) (ho : ∀ r, r ≠ q → sm_e b cs h' r = sm_e b cs h r) (hc : va_at D vwCl (b + q, x) H1) (hz : H1.size = H.size) (oq : ∀ r, r ≠ b + q → H1[r]? = H[r]?) : sm_W b D cs h' H1 := by
  refine ⟨?_, by rw [hz, hW.2, hn]⟩
  rw [← sm_ws_set hn hx ho]
  exact hW.1.set (sm_ws_D b cs h) (sm_ws_at b cs h hq) hc oq
theorem sm_r23 (X : sm_X b D cs p R s m args meth c M d mc ms) : sm_rule (sm_c d) mc ms M Q (sm_P0 p l e R s m args below meth c Qf b D cs M) 23 := by
  obtain ⟨hx, hb, -, ho, ht, ⟨hK, -⟩, -⟩ := X
  intro pc idx c0 j q L st h k n hd hf hq hc hk H locs ls hW hS hl
  obtain ⟨f1, f2, f3, f4⟩ := hf
  exact va_get (ci := c0) (C := (sm_cl c0).1) (T := (sm_cl c0).2.1) (N := (sm_cl c0).2.2) (ref := ((sm_cl c0).2.1 j).1) hx hb (sm_hts ht) (sm_uin f1) ho hK hW.1 q (sm_at_o hq hc) f1 j f2 (ht _ f4 rfl) (fun _ h9 => h9) (sm_fs_i f2 f3) hd (hk H locs ls hW hS hl)
theorem sm_r24 (X : sm_X b D cs p R s m args meth c M d mc ms) : sm_rule (sm_c d) mc ms M Q (sm_P0 p l e R s m args below meth c Qf b D cs M) 24 := by
  obtain ⟨hx, hb, -, ho, ht, ⟨hK, -⟩, -⟩ := X
  intro pc idx c0 j q r L st h k n hd hf hq hc hr hk H locs ls hW hS hl
  obtain ⟨f1, f2, f3, f4⟩ := hf
  have hv := sm_fs_r (b := b) (h := h) (q := q) f2 f3
  rw [hr] at hv
  exact va_get (ci := c0) (C := (sm_cl c0).1) (T := (sm_cl c0).2.1) (N := (sm_cl c0).2.2) (ref := ((sm_cl c0).2.1 j).1) hx hb (sm_hts ht) (sm_uin f1) ho hK hW.1 q (sm_at_o hq hc) f1 j f2 (ht _ f4 rfl) (fun _ h9 => h9) hv hd (hk H locs ls hW hS hl)
theorem sm_apart (ht : ∀ w ∈ lw_tbl, goodWord w = true → w.before args s = true) (hK : va_K D vwCl (sm_ty cs) s) {k : Nat} (h : vwCl[k]? = some (sm_cl k)) : ∀ x y, x < (sm_cl k).2.2 → y < (sm_cl k).2.2 → x ≠ y → (D.2 k) x ≠ (D.2 k) y := by
  obtain ⟨-, ⟨ty0, h2⟩, h3⟩ := sm_cls k h
  exact va_apart (own := "") (C := (sm_cl k).1) (sm_hts ht) (sm_uin h) ty0 h2 h3 hK h
theorem sm_fieldput (X : sm_X b D cs p R s m args meth c M d mc ms) {pc idx c0 j q : Nat} {st : List Value} {h h' : sm_H} {k n : Nat} {v : Value} {ty : FieldType} {H : Heap} {locs : List Loc} {ls : Array Slot} (hd : decode M.2.1 pc = .ok (.putfield idx, 3)) (f1 : vwCl[c0]? = some (sm_cl c0)) (f2 : j < (sm_cl c0).2.2) (f4 : Cond.fieldLink M.1.cls idx ((sm_cl c0).2.1 j).1 ((sm_cl c0).2.1 j).2.1 ((sm_cl c0).2.1 j).2.2.1 ∈ lw_tbl) (hfin : ((sm_cl c0).2.1 j).2.2.2 = false ∨ (((sm_cl c0).2.1 j).2.2.2 = true ∧ M.1.name = "<init>" ∧ ((sm_cl c0).2.1 j).1 = M.1.cls))
    (hty : parseFieldDescriptor ((sm_cl c0).2.1 j).2.2.1 = some ty) (hnv : narrow ty v = v) (hfv : fits ty v = true) (hq : q < h.1) (hc : (h.2.1 q).1 = c0 + 3) (hW : sm_W b D cs h H) (hS : va_S (sm_A b) s.heap H locs) (hn : h'.1 = h.1) (hfs : sm_e b cs h' q = .inr (c0, (sm_fs b h q c0).set j v)) (ho' : ∀ r, r ≠ q → sm_e b cs h' r = sm_e b cs h r)
    (hk : ∀ (H1 : Heap) (locs1 : List Loc), sm_W b D cs h' H1 → va_S (sm_A b) s.heap H1 locs1 → W p l e R s m args below meth c H1 locs1 k n Qf (F0 m (pc + 3) ls st)) : W p l e R s m args below meth c H locs k n Qf (F0 m pc ls (v :: .ref (b + q) :: st)) := by
  obtain ⟨hx, hb, -, ho, ht, ⟨hK, -⟩, hnm, -⟩ := X
  have hts := sm_hts ht
  have hin := sm_uin f1
  have hap := sm_apart ht hK f1
  obtain ⟨r, h1, cell, q1, q2, q3, q4⟩ := hW.1 q _ (sm_at_o hq hc)
  have hr : r = sm_cl c0 := Option.some.inj (h1.symm.trans f1)
  subst hr
  obtain ⟨hSl, hfc, kC, hkC, hkind⟩ := hK.1 c0 _ f1
  obtain ⟨cf, kf, fi, f, hi, hsl⟩ := hSl j f2
  have hlay := hts _ (hin _ (u_in_lay f2))
  have hst := (u_facts hfc hkC (u_lays hts hin f2) hi).1
  have fin : ∀ H' : Heap, H'[b + q]? = some (cell.setSlot (D.2 c0 j) v) → H'.size = H.size → (∀ x, x ≠ b + q → H'[x]? = H[x]?) → W p l e R s m args below meth c H' (locs ++ [⟨b + q, D.2 c0 j⟩]) k n Qf (F0 m (pc + 3) ls st) := by
    intro H' e1 e2 e3
    refine hk H' _ (hW.put hq (sm_e_o hc) hn hfs ho' ⟨_, f1, t_OB.to (V := updV (vp_V (sm_fs b h q c0)) j v) ⟨_, e1, q2, q3, t_set q4 hap f2 v⟩ (fun i _ => vp_updV_set (by rw [sm_fs_len]; exact f2) v i)⟩ e2 e3) (hS.put e2 e3 (Nat.le_add_right b q))
  rcases hfin with h5 | ⟨h5, h6, h7⟩
  · unfold u_lay at hlay
    rw [if_neg (by rw [h5]; decide)] at hlay
    have h6 := u_store hfc hkC hkind hlay hi hty hnv hfv
    refine W.putK hx hb (f := f) ⟨ho, ht _ f4 rfl, ⟨_, _, _, hi⟩, hst⟩ (by rw [q2]; exact h6) q1 q3 (by rw [hsl]; exact k2_hasslot (q4 j f2)) rfl rfl hd fun H' e1 e2 e3 => ?_
    rw [hsl] at e1 ⊢
    exact fin H' e1 e2 e3
  · unfold u_lay at hlay
    rw [if_pos h5] at hlay
    have hcf : m.cls = cf := by
      obtain ⟨_, _, c', _, _, _, -, -, hf', -, -, -, hown2, -⟩ := Cond.laysFinal_spec hlay
      have e1 : c' = cf := by have := hi.symm.trans hf'; simp at this; exact this.1.symm
      rw [h7] at hown2
      rw [← e1]; exact Option.some.inj (ho.symm.trans hown2)
    have h8 := u_fits hfc hkC hkind (Or.inr hlay) hi hty hnv hfv
    refine W.putFinK hx hb ho (ht _ f4 rfl) hi hst hcf (hnm.trans h6) (by rw [q2]; exact h8) q1 q3 (by rw [hsl]; exact k2_hasslot (q4 j f2)) rfl rfl hd fun H' e1 e2 e3 => ?_
    rw [hsl] at e1 ⊢
    exact fin H' e1 e2 e3
theorem sm_parseI {t : String} (h : t = "I") : parseFieldDescriptor t = some .int := by
  subst h
  decide +kernel
theorem sm_r25 (X : sm_X b D cs p R s m args meth c M d mc ms) : sm_rule (sm_c d) mc ms M Q (sm_P0 p l e R s m args below meth c Qf b D cs M) 25 := by
  intro pc idx c0 j q x L st h k n hd hf hfin hq hc hk H locs ls hW hS hl
  obtain ⟨f1, f2, f3, f4⟩ := hf
  exact sm_fieldput (h' := sm_si h q j x) (v := .int x) X hd f1 f2 f4 (Or.inl hfin) (sm_parseI f3) rfl rfl hq hc hW hS rfl (by rw [sm_e_o (k := c0) (show ((sm_si h q j x).2.1 q).1 = c0 + 3 from hc), sm_fs_si f2 f3]) (fun r hr => sm_e_si hr) (fun H1 locs1 hW1 hS1 => hk H1 locs1 ls hW1 hS1 hl)
theorem sm_r26 (X : sm_X b D cs p R s m args meth c M d mc ms) : sm_rule (sm_c d) mc ms M Q (sm_P0 p l e R s m args below meth c Qf b D cs M) 26 := by
  intro pc idx c0 j q x L st h k n hd hf hfin hnm hcl hq hc hk H locs ls hW hS hl
  obtain ⟨f1, f2, f3, f4⟩ := hf
  exact sm_fieldput (h' := sm_si h q j x) (v := .int x) X hd f1 f2 f4 (Or.inr ⟨hfin, hnm, hcl⟩) (sm_parseI f3) rfl rfl hq hc hW hS rfl (by rw [sm_e_o (k := c0) (show ((sm_si h q j x).2.1 q).1 = c0 + 3 from hc), sm_fs_si f2 f3]) (fun r hr => sm_e_si hr) (fun H1 locs1 hW1 hS1 => hk H1 locs1 ls hW1 hS1 hl)
theorem sm_r27 (X : sm_X b D cs p R s m args meth c M d mc ms) : sm_rule (sm_c d) mc ms M Q (sm_P0 p l e R s m args below meth c Qf b D cs M) 27 := by
  intro pc idx c0 j q r L st h k n hd hf hff hnm hcl hq hc hk H locs ls hW hS hl
  obtain ⟨f1, f2, f3, f4⟩ := hf
  obtain ⟨g1, ty, g2, g3⟩ := hff
  exact sm_fieldput (h' := sm_sr h q j (some r)) (v := .ref (b + r)) X hd f1 f2 f4 (Or.inr ⟨g1, hnm, hcl⟩) g2 (g3 _).1 (g3 _).2 hq hc hW hS rfl (by rw [sm_e_o (k := c0) (show ((sm_sr h q j (some r)).2.1 q).1 = c0 + 3 from hc), sm_fs_sr f2 f3]) (fun r hr => sm_e_sr hr) (fun H1 locs1 hW1 hS1 => hk H1 locs1 ls hW1 hS1 hl)
theorem sm_r28 (X : sm_X b D cs p R s m args meth c M d mc ms) : sm_rule (sm_c d) mc ms M Q (sm_P0 p l e R s m args below meth c Qf b D cs M) 28 := by
  obtain ⟨hx, hb, -, ho, ht, ⟨hK, -⟩, -⟩ := X
  intro pc q n0 j i L st h k n hd hq hkd hin hj hk H locs ls hW hS hl
  subst hj
  exact va_iald hx hb hK hW.1 q 0 (sm_at_i hq hkd) rfl hin hd (hk H locs ls hW hS hl)
theorem sm_r29 (X : sm_X b D cs p R s m args meth c M d mc ms) : sm_rule (sm_c d) mc ms M Q (sm_P0 p l e R s m args below meth c Qf b D cs M) 29 := by
  obtain ⟨hx, hb, -, ho, ht, ⟨hK, -⟩, -⟩ := X
  intro pc q n0 j i x L st h k n hd hq hkd hin hj hk H locs ls hW hS hl
  subst hj
  refine W.iast hx hb (hW.1 q _ (sm_at_i hq hkd)) ((hK.2 0 _ rfl).1 n0 (fun j => .int (h.2.2.1 q j))) (fun q => by cases q) (by show ¬ (i < 0 ∨ (arrV _ _ _).slots.size ≤ _); rw [arrV_size]; exact hin) rfl rfl hd fun H1 e1 z oq => ?_
  refine hk H1 _ ls (hW.put hq (sm_e_i hkd) rfl (x := .inl (cs.1, n0, .inl (fun a => if a = i.toNatClampNeg then x else h.2.2.1 q a))) ?_ (fun r hr => sm_e_si hr) ?_ z oq) (hS.put z oq (Nat.le_add_right b q)) hl
  · rw [sm_e_i (n := n0) (show (sm_si h q i.toNatClampNeg x).2.1 q = (0, n0) from hkd)]
    show (Sum.inl (cs.1, n0, Sum.inl (sm_up h.2.2.1 q i.toNatClampNeg x q)) : va_E) = _
    rw [sm_up_s]
  · show H1[b + q]? = some (vp_cell _ _)
    rw [e1]
    rw [vp_cell_i, vp_cell_i, arrV_store]
    congr 2
    funext a
    by_cases ha : a = i.toNatClampNeg
    · subst ha
      simp [updV]
    · simp [updV, ha]
end SMH
