set_option maxHeartbeats 4000000 in
set_option maxRecDepth 100000 in
theorem law_loop {p : Program} {l : Launch} {e : Env} {s : State} {m : MethodId} {below : List Frame} {meth : Method} {c : Code} {D : va_G} {cs : ClassId × ClassId × ClassId} {bs L : Nat} {xs : Nat → Int32} (X : lwX p s m meth c bs L xs D cs) : ∀ (n t : Nat) (x : hX) (I : Nat → Nat → Int32) (σ : zS) (H : Heap) (locs : List Loc) (k nn : Nat) (ls : Array Slot), 384 ≤ 6 * (t + n) → t ≤ 64 → CI I σ → MI I σ → WF σ → sm_W s.heap.size D cs (hp x I) H → va_S (sm_A s.heap.size) s.heap H locs → lv_has ls 4 (lwL bs s.heap.size (nI (6 * t))) → k ≤ 102 + t → nn ≤ 1225 + 4 * t → W p l e room_1 s m #[Value.ref bs] below meth c H locs k nn (lw_Z below #[Value.ref bs] s) (F0 m 18 ls []) := by
  have hx := X.1.1
  have hb := X.1.2.1
  have hr := X.2.1
  have hlk := X.2.2.1
  have hXs := X.2.2.2.1
  have hbl := X.2.2.2.2.1
  have hL := X.2.2.2.2.2
  have hbA : ¬ sm_A s.heap.size bs := Nat.not_le.mpr hbl
  intro n
  induction n with
  | zero =>
    intro t x I σ H locs k nn ls hnt ht hC hM hWf hW hS hl hk hn
    refine lv_iload_n hx hb dL_law_18 rfl (lv_at hl 3 rfl) ?_
    refine lv_aload_n hx hb dL_law_19 rfl (lv_at hl 0 rfl) ?_
    refine va_slen hx hb hXs hbl hbA hS dL_law_20 ?_
    refine lv_bipush (v := 6) hx hb dL_law_21 (by decide) ?_
    refine lv_isub hx hb dL_law_23 ?_
    refine lv_icmp_gt (tgt := 1353) hx hb dL_law_24 (by decide) (fun c24 => ?_) (fun c24 => ?_)
    · refine lv_iconst (v := 1) hx hb dL_law_1353 (by decide) ?_
      refine va_forget (fun q hq => hS.2.2 q hq) ?_
      refine W.widen (show k ≤ 600000 by omega) (show nn ≤ 7302250 by omega) ?_
      exact lw_ret hx hb hr hlk dL_law_1354
    · have hlt : 6 * t + 6 ≤ L := by
        rcases Nat.lt_or_ge L (6 * t + 6) with q | q
        · exact absurd (by
            rw [fa_lt, show (Int32.ofNat L - 6 : Int32) = nI L - nI 6 from rfl, pk_sub_toInt (by omega) (by decide), nI_toInt (by omega)]
            omega) c24
        · exact q
      omega
  | succ n ih =>
    intro t x I σ H locs k nn ls hnt ht hC hM hWf hW hS hl hk hn
    refine lv_iload_n hx hb dL_law_18 rfl (lv_at hl 3 rfl) ?_
    refine lv_aload_n hx hb dL_law_19 rfl (lv_at hl 0 rfl) ?_
    refine va_slen hx hb hXs hbl hbA hS dL_law_20 ?_
    refine lv_bipush (v := 6) hx hb dL_law_21 (by decide) ?_
    refine lv_isub hx hb dL_law_23 ?_
    refine lv_icmp_gt (tgt := 1353) hx hb dL_law_24 (by decide) (fun c24 => ?_) (fun c24 => ?_)
    · refine lv_iconst (v := 1) hx hb dL_law_1353 (by decide) ?_
      refine va_forget (fun q hq => hS.2.2 q hq) ?_
      refine W.widen (show k ≤ 600000 by omega) (show nn ≤ 7302250 by omega) ?_
      exact lw_ret hx hb hr hlk dL_law_1354
    · have hlt : 6 * t + 6 ≤ L := by
        rcases Nat.lt_or_ge L (6 * t + 6) with q | q
        · exact absurd (by
            rw [fa_lt, show (Int32.ofNat L - 6 : Int32) = nI L - nI 6 from rfl, pk_sub_toInt (by omega) (by decide), nI_toInt (by omega)]
            omega) c24
        · exact q
      refine lv_aload_n hx hb dL_law_27 rfl (lv_at hl 0 rfl) ?_
      refine lv_iload_n hx hb dL_law_28 rfl (lv_at hl 3 rfl) ?_
      refine va_sld hx hb hXs hbl hbA hS (vp_in_nI (show 6 * t < L by omega) (by omega)) dL_law_29 ?_
      refine lv_bipush (v := 63) hx hb dL_law_30 (by decide) ?_
      refine lv_iand hx hb dL_law_32 ?_
      obtain ⟨j, hj, ej⟩ := pk_andE (xs (nI (6 * t)).toNatClampNeg) (m := 63) 6 (by decide)
      rw [ej]
      have hin : ∀ i, i < 6 → vp_in (nI (6 * t) + nI i) L := fun i hi => by rw [nI_add]; exact vp_in_nI (by omega) (by omega)
      have next : ∀ (x' : hX) (I' : Nat → Nat → Int32) (σ' : zS) (H' : Heap) (locs' : List Loc) (k' n' : Nat), CI I' σ' → MI I' σ' → WF σ' → sm_W s.heap.size D cs (hp x' I') H' → va_S (sm_A s.heap.size) s.heap H' locs' → k' ≤ k + 1 → n' ≤ nn + 4 → W p l e room_1 s m #[Value.ref bs] below meth c H' locs' k' n' (lw_Z below #[Value.ref bs] s) (F0 m 1347 ls []) := fun x' I' σ' H' locs' k' n' a1 a2 a3 a4 a5 a6 a7 => by
        refine lv_iinc (v := nI (6 * (t + 1))) (lv' := [(3, .int (nI (6 * (t + 1)))), (0, .ref bs), (1, .ref (s.heap.size + 0)), (2, .ref (s.heap.size + 80))]) hx hb dL_law_1347 hl (k := 3) rfl (by rw [show nI (6 * t) + Int32.ofInt 6 = nI (6 * t) + nI 6 from rfl, nI_add]; exact congrArg nI (by omega)) (by decide) rfl (fun ls hl => ?_)
        refine lv_goto (tgt := 18) hx hb dL_law_1350 (by decide) ?_
        exact ih (t + 1) x' I' σ' H' locs' k' n' ls (by omega) (by omega) a1 a2 a3 a4 a5 (lv_sub hl [1, 2, 3, 0] rfl) (by omega) (by omega)
      obtain ⟨ρ, δ, η, ft, tr⟩ := σ
      by_cases h35 : j < 35
      · match j, h35 with
        | 0, _ => exact lv_tableIn (off := 155) (tgt := 188) hx hb dL_law_33 (by decide) (by decide) (by decide) (by decide) (lw_case_0 X hC hM hWf hW hS hl (hin 1 (by decide)) (hin 2 (by decide)) (hin 3 (by decide)) (hin 4 (by decide)) (hin 5 (by decide)) (by omega) (by omega) next)
        | 1, _ => exact lv_tableIn (off := 208) (tgt := 241) hx hb dL_law_33 (by decide) (by decide) (by decide) (by decide) (lw_case_1 X hC hM hWf hW hS hl (hin 1 (by decide)) (hin 2 (by decide)) (hin 3 (by decide)) (hin 4 (by decide)) (hin 5 (by decide)) (by omega) (by omega) next)
        | 2, _ => exact lv_tableIn (off := 241) (tgt := 274) hx hb dL_law_33 (by decide) (by decide) (by decide) (by decide) (lw_case_2 X hC hM hWf hW hS hl (hin 1 (by decide)) (hin 2 (by decide)) (hin 3 (by decide)) (hin 4 (by decide)) (hin 5 (by decide)) (by omega) (by omega) next)
        | 3, _ => exact lv_tableIn (off := 274) (tgt := 307) hx hb dL_law_33 (by decide) (by decide) (by decide) (by decide) (lw_case_3 X hC hM hWf hW hS hl (hin 1 (by decide)) (hin 2 (by decide)) (hin 3 (by decide)) (hin 4 (by decide)) (hin 5 (by decide)) (by omega) (by omega) next)
        | 4, _ => exact lv_tableIn (off := 307) (tgt := 340) hx hb dL_law_33 (by decide) (by decide) (by decide) (by decide) (lw_case_4 X hC hM hWf hW hS hl (hin 1 (by decide)) (hin 2 (by decide)) (hin 3 (by decide)) (hin 4 (by decide)) (hin 5 (by decide)) (by omega) (by omega) next)
        | 5, _ => exact lv_tableIn (off := 330) (tgt := 363) hx hb dL_law_33 (by decide) (by decide) (by decide) (by decide) (lw_case_5 X hC hM hWf hW hS hl (hin 1 (by decide)) (hin 2 (by decide)) (hin 3 (by decide)) (hin 4 (by decide)) (hin 5 (by decide)) (by omega) (by omega) next)
        | 6, _ => exact lv_tableIn (off := 363) (tgt := 396) hx hb dL_law_33 (by decide) (by decide) (by decide) (by decide) (lw_case_6 X hC hM hWf hW hS hl (hin 1 (by decide)) (hin 2 (by decide)) (hin 3 (by decide)) (hin 4 (by decide)) (hin 5 (by decide)) (by omega) (by omega) next)
        | 7, _ => exact lv_tableIn (off := 412) (tgt := 445) hx hb dL_law_33 (by decide) (by decide) (by decide) (by decide) (lw_case_7 X hC hM hWf hW hS hl (hin 1 (by decide)) (hin 2 (by decide)) (hin 3 (by decide)) (hin 4 (by decide)) (hin 5 (by decide)) (by omega) (by omega) next)
        | 8, _ => exact lv_tableIn (off := 445) (tgt := 478) hx hb dL_law_33 (by decide) (by decide) (by decide) (by decide) (lw_case_8 X hC hM hWf hW hS hl (hin 1 (by decide)) (hin 2 (by decide)) (hin 3 (by decide)) (hin 4 (by decide)) (hin 5 (by decide)) (by omega) (by omega) next)
        | 9, _ => exact lv_tableIn (off := 504) (tgt := 537) hx hb dL_law_33 (by decide) (by decide) (by decide) (by decide) (lw_case_9 X hC hM hWf hW hS hl (hin 1 (by decide)) (hin 2 (by decide)) (hin 3 (by decide)) (hin 4 (by decide)) (hin 5 (by decide)) (by omega) (by omega) next)
        | 10, _ => exact lv_tableIn (off := 537) (tgt := 570) hx hb dL_law_33 (by decide) (by decide) (by decide) (by decide) (lw_case_10 X hC hM hWf hW hS hl (hin 1 (by decide)) (hin 2 (by decide)) (hin 3 (by decide)) (hin 4 (by decide)) (hin 5 (by decide)) (by omega) (by omega) next)
        | 11, _ => exact lv_tableIn (off := 570) (tgt := 603) hx hb dL_law_33 (by decide) (by decide) (by decide) (by decide) (lw_case_11 X hC hM hWf hW hS hl (hin 1 (by decide)) (hin 2 (by decide)) (hin 3 (by decide)) (hin 4 (by decide)) (hin 5 (by decide)) (by omega) (by omega) next)
        | 12, _ => exact lv_tableIn (off := 603) (tgt := 636) hx hb dL_law_33 (by decide) (by decide) (by decide) (by decide) (lw_case_12 X hC hM hWf hW hS hl (hin 1 (by decide)) (hin 2 (by decide)) (hin 3 (by decide)) (hin 4 (by decide)) (hin 5 (by decide)) (by omega) (by omega) next)
        | 13, _ => exact lv_tableIn (off := 666) (tgt := 699) hx hb dL_law_33 (by decide) (by decide) (by decide) (by decide) (lw_case_13 X hC hM hWf hW hS hl (hin 1 (by decide)) (hin 2 (by decide)) (hin 3 (by decide)) (hin 4 (by decide)) (hin 5 (by decide)) (by omega) (by omega) next)
        | 14, _ => exact lv_tableIn (off := 689) (tgt := 722) hx hb dL_law_33 (by decide) (by decide) (by decide) (by decide) (lw_case_14 X hC hM hWf hW hS hl (hin 1 (by decide)) (hin 2 (by decide)) (hin 3 (by decide)) (hin 4 (by decide)) (hin 5 (by decide)) (by omega) (by omega) next)
        | 15, _ => exact lv_tableIn (off := 722) (tgt := 755) hx hb dL_law_33 (by decide) (by decide) (by decide) (by decide) (lw_case_15 X hC hM hWf hW hS hl (hin 1 (by decide)) (hin 2 (by decide)) (hin 3 (by decide)) (hin 4 (by decide)) (hin 5 (by decide)) (by omega) (by omega) next)
        | 16, _ => exact lv_tableIn (off := 755) (tgt := 788) hx hb dL_law_33 (by decide) (by decide) (by decide) (by decide) (lw_case_16 X hC hM hWf hW hS hl (hin 1 (by decide)) (hin 2 (by decide)) (hin 3 (by decide)) (hin 4 (by decide)) (hin 5 (by decide)) (by omega) (by omega) next)
        | 17, _ => exact lv_tableIn (off := 778) (tgt := 811) hx hb dL_law_33 (by decide) (by decide) (by decide) (by decide) (lw_case_17 X hC hM hWf hW hS hl (hin 1 (by decide)) (hin 2 (by decide)) (hin 3 (by decide)) (hin 4 (by decide)) (hin 5 (by decide)) (by omega) (by omega) next)
        | 18, _ => exact lv_tableIn (off := 821) (tgt := 854) hx hb dL_law_33 (by decide) (by decide) (by decide) (by decide) (lw_case_18 X hC hM hWf hW hS hl (hin 1 (by decide)) (hin 2 (by decide)) (hin 3 (by decide)) (hin 4 (by decide)) (hin 5 (by decide)) (by omega) (by omega) next)
        | 19, _ => exact lv_tableIn (off := 844) (tgt := 877) hx hb dL_law_33 (by decide) (by decide) (by decide) (by decide) (lw_case_19 X hC hM hWf hW hS hl (hin 1 (by decide)) (hin 2 (by decide)) (hin 3 (by decide)) (hin 4 (by decide)) (hin 5 (by decide)) (by omega) (by omega) next)
        | 20, _ => exact lv_tableIn (off := 857) (tgt := 890) hx hb dL_law_33 (by decide) (by decide) (by decide) (by decide) (lw_case_20 X hC hM hWf hW hS hl (hin 1 (by decide)) (hin 2 (by decide)) (hin 3 (by decide)) (hin 4 (by decide)) (hin 5 (by decide)) (by omega) (by omega) next)
        | 21, _ => exact lv_tableIn (off := 880) (tgt := 913) hx hb dL_law_33 (by decide) (by decide) (by decide) (by decide) (lw_case_21 X hC hM hWf hW hS hl (hin 1 (by decide)) (hin 2 (by decide)) (hin 3 (by decide)) (hin 4 (by decide)) (hin 5 (by decide)) (by omega) (by omega) next)
        | 22, _ => exact lv_tableIn (off := 903) (tgt := 936) hx hb dL_law_33 (by decide) (by decide) (by decide) (by decide) (lw_case_22 X hC hM hWf hW hS hl (hin 1 (by decide)) (hin 2 (by decide)) (hin 3 (by decide)) (hin 4 (by decide)) (hin 5 (by decide)) (by omega) (by omega) next)
        | 23, _ => exact lv_tableIn (off := 926) (tgt := 959) hx hb dL_law_33 (by decide) (by decide) (by decide) (by decide) (lw_case_23 X hC hM hWf hW hS hl (hin 1 (by decide)) (hin 2 (by decide)) (hin 3 (by decide)) (hin 4 (by decide)) (hin 5 (by decide)) (by omega) (by omega) next)
        | 24, _ => exact lv_tableIn (off := 970) (tgt := 1003) hx hb dL_law_33 (by decide) (by decide) (by decide) (by decide) (lw_case_24 X hC hM hWf hW hS hl (hin 1 (by decide)) (hin 2 (by decide)) (hin 3 (by decide)) (hin 4 (by decide)) (hin 5 (by decide)) (by omega) (by omega) next)
        | 25, _ => exact lv_tableIn (off := 1013) (tgt := 1046) hx hb dL_law_33 (by decide) (by decide) (by decide) (by decide) (lw_case_25 X hC hM hWf hW hS hl (hin 1 (by decide)) (hin 2 (by decide)) (hin 3 (by decide)) (hin 4 (by decide)) (hin 5 (by decide)) (by omega) (by omega) next)
        | 26, _ => exact lv_tableIn (off := 1036) (tgt := 1069) hx hb dL_law_33 (by decide) (by decide) (by decide) (by decide) (lw_case_26 X hC hM hWf hW hS hl (hin 1 (by decide)) (hin 2 (by decide)) (hin 3 (by decide)) (hin 4 (by decide)) (hin 5 (by decide)) (by omega) (by omega) next)
        | 27, _ => exact lv_tableIn (off := 1079) (tgt := 1112) hx hb dL_law_33 (by decide) (by decide) (by decide) (by decide) (lw_case_27 X hC hM hWf hW hS hl (hin 1 (by decide)) (hin 2 (by decide)) (hin 3 (by decide)) (hin 4 (by decide)) (hin 5 (by decide)) (by omega) (by omega) next)
        | 28, _ => exact lv_tableIn (off := 1123) (tgt := 1156) hx hb dL_law_33 (by decide) (by decide) (by decide) (by decide) (lw_case_28 X hC hM hWf hW hS hl (hin 1 (by decide)) (hin 2 (by decide)) (hin 3 (by decide)) (hin 4 (by decide)) (hin 5 (by decide)) (by omega) (by omega) next)
        | 29, _ => exact lv_tableIn (off := 1186) (tgt := 1219) hx hb dL_law_33 (by decide) (by decide) (by decide) (by decide) (lw_case_29 X hC hM hWf hW hS hl (hin 1 (by decide)) (hin 2 (by decide)) (hin 3 (by decide)) (hin 4 (by decide)) (hin 5 (by decide)) (by omega) (by omega) next)
        | 30, _ => exact lv_tableIn (off := 1209) (tgt := 1242) hx hb dL_law_33 (by decide) (by decide) (by decide) (by decide) (lw_case_30 X hC hM hWf hW hS hl (hin 1 (by decide)) (hin 2 (by decide)) (hin 3 (by decide)) (hin 4 (by decide)) (hin 5 (by decide)) (by omega) (by omega) next)
        | 31, _ => exact lv_tableIn (off := 1232) (tgt := 1265) hx hb dL_law_33 (by decide) (by decide) (by decide) (by decide) (lw_case_31 X hC hM hWf hW hS hl (hin 1 (by decide)) (hin 2 (by decide)) (hin 3 (by decide)) (hin 4 (by decide)) (hin 5 (by decide)) (by omega) (by omega) next)
        | 32, _ => exact lv_tableIn (off := 1265) (tgt := 1298) hx hb dL_law_33 (by decide) (by decide) (by decide) (by decide) (lw_case_32 X hC hM hWf hW hS hl (hin 1 (by decide)) (hin 2 (by decide)) (hin 3 (by decide)) (hin 4 (by decide)) (hin 5 (by decide)) (by omega) (by omega) next)
        | 33, _ => exact lv_tableIn (off := 1278) (tgt := 1311) hx hb dL_law_33 (by decide) (by decide) (by decide) (by decide) (lw_case_33 X hC hM hWf hW hS hl (hin 1 (by decide)) (hin 2 (by decide)) (hin 3 (by decide)) (hin 4 (by decide)) (hin 5 (by decide)) (by omega) (by omega) next)
        | 34, _ => exact lv_tableIn (off := 1291) (tgt := 1324) hx hb dL_law_33 (by decide) (by decide) (by decide) (by decide) (lw_case_34 X hC hM hWf hW hS hl (hin 1 (by decide)) (hin 2 (by decide)) (hin 3 (by decide)) (hin 4 (by decide)) (hin 5 (by decide)) (by omega) (by omega) next)
        | j + 35, h => exact absurd h (by omega)
      · refine lv_tableOut (tgt := 1347) hx hb dL_law_33 (Or.inr (by rw [nI_toInt (by omega)]; omega)) (by decide) ?_
        exact next x I _ H locs k nn hC hM hWf hW hS (by omega) (by omega)

set_option maxHeartbeats 4000000 in
set_option maxRecDepth 100000 in
theorem whole_start {p : Program} {e : Env} {s : State} {m : MethodId} {below : List Frame} {meth : Method} {c : Code} (l : Launch) {b L : Nat} {xs : Nat → Int32} (hL : L ≤ 384) (C0 : lw_At p s m meth c b L xs) : W p l e room_1 s m #[Value.ref b] below meth c s.heap [] 0 0 (lw_Z below #[Value.ref b] s) (entryFrame m ([Value.ref b] : List Value).toArray 4) := by
  obtain ⟨hx, hb, hr, hml, hown, hts, hX, hbl, hlocks, hgv⟩ := C0
  obtain ⟨c0, i0', k0⟩ := u_known (C := (sm_cl 0).1) (T := (sm_cl 0).2.1) (N := (sm_cl 0).2.2) (n := (sm_cl 0).2.2) hts (fun w hw => (List.mem_filter.mp (sm_uin (k := 0) rfl w hw)).1) (hts _ nX6_27.2.2.1)
  obtain ⟨c1, i1', k1⟩ := u_known (C := (sm_cl 1).1) (T := (sm_cl 1).2.1) (N := (sm_cl 1).2.2) (n := (sm_cl 1).2.2) hts (fun w hw => (List.mem_filter.mp (sm_uin (k := 1) rfl w hw)).1) (hts _ nX6_36.2.2.1)
  obtain ⟨c2, i2', k2⟩ := u_known (C := (sm_cl 2).1) (T := (sm_cl 2).2.1) (N := (sm_cl 2).2.2) (n := (sm_cl 2).2.2) hts (fun w hw => (List.mem_filter.mp (sm_uin (k := 2) rfl w hw)).1) (hts _ nX6_17.2.2.1)
  obtain ⟨c3, i3', k3⟩ := u_known (C := (sm_cl 3).1) (T := (sm_cl 3).2.1) (N := (sm_cl 3).2.2) (n := (sm_cl 3).2.2) hts (fun w hw => (List.mem_filter.mp (sm_uin (k := 3) rfl w hw)).1) (hts _ nX6_11c.2.2.1)
  obtain ⟨c4, i4', k4⟩ := u_known (C := (sm_cl 4).1) (T := (sm_cl 4).2.1) (N := (sm_cl 4).2.2) (n := (sm_cl 4).2.2) hts (fun w hw => (List.mem_filter.mp (sm_uin (k := 4) rfl w hw)).1) (hts _ nX6_75.2.2.1)
  obtain ⟨c5, i5', k5⟩ := u_known (C := (sm_cl 5).1) (T := (sm_cl 5).2.1) (N := (sm_cl 5).2.2) (n := (sm_cl 5).2.2) hts (fun w hw => (List.mem_filter.mp (sm_uin (k := 5) rfl w hw)).1) (hts _ nX6_43.2.2.1)
  obtain ⟨c6, i6', k6⟩ := u_known (C := (sm_cl 6).1) (T := (sm_cl 6).2.1) (N := (sm_cl 6).2.2) (n := (sm_cl 6).2.2) hts (fun w hw => (List.mem_filter.mp (sm_uin (k := 6) rfl w hw)).1) (hts _ nL_7.2.2.1)
  obtain ⟨c7, i7', k7⟩ := u_known (C := (sm_cl 7).1) (T := (sm_cl 7).2.1) (N := (sm_cl 7).2.2) (n := (sm_cl 7).2.2) hts (fun w hw => (List.mem_filter.mp (sm_uin (k := 7) rfl w hw)).1) (hts _ nL_10.2.2.1)
  obtain ⟨dC, dI, hKc⟩ : ∃ (dC : Nat → ClassId) (dI : Nat → Nat → Nat), ∀ (k : Nat) (q : vw_C), vwCl[k]? = some q → u_Kn s q.1 q.2.1 q.2.2 (dC k) (dI k) := by
    refine ⟨fun k => if k = 0 then c0 else if k = 1 then c1 else if k = 2 then c2 else if k = 3 then c3 else if k = 4 then c4 else if k = 5 then c5 else if k = 6 then c6 else c7, fun k => if k = 0 then i0' else if k = 1 then i1' else if k = 2 then i2' else if k = 3 then i3' else if k = 4 then i4' else if k = 5 then i5' else if k = 6 then i6' else i7', ?_⟩
    intro k q hq
    match k, hq with
    | 0, hq => cases hq; exact k0
    | 1, hq => cases hq; exact k1
    | 2, hq => cases hq; exact k2
    | 3, hq => cases hq; exact k3
    | 4, hq => cases hq; exact k4
    | 5, hq => cases hq; exact k5
    | 6, hq => cases hq; exact k6
    | 7, hq => cases hq; exact k7
    | k + 8, hq => simp [vwCl] at hq
  obtain ⟨a1, ka1, kc1, f1, f2, f3⟩ := Cond.arrayClass_spec (hts _ sm_mAC)
  obtain ⟨cm2, a2, ka2, -, -, g2, g3, g4⟩ := (sm_AOA.of (hts (.arrayOver (.array .int)) (by decide +kernel))).spec
  obtain ⟨cm3, a3, ka3, e1, -, e3, e4, e5⟩ := Cond.arrayOver_spec (n := "SnowInns$Sheet") (hts (.arrayOver (.object "SnowInns$Sheet")) (by decide +kernel))
  have hK : va_K (dC, dI) vwCl (sm_ty (a1, a2, a3)) s := by
    refine ⟨hKc, fun k q hq => ?_⟩
    match k, hq with
    | 0, hq => cases hq; exact ⟨fun n z => ⟨fun k h => (by cases h), ka1, f2, kc1, f3⟩, f1⟩
    | 1, hq => cases hq; exact ⟨fun n z => ⟨fun k h => (by cases h), ka2, g2, cm2, g3⟩, g4⟩
    | 2, hq => cases hq; exact ⟨fun n z => ⟨fun k h => (by cases h), ka3, e3, cm3, e4⟩, ka3, cm3, e3, e4, e1, e5⟩
    | k + 3, hq => simp [sm_ty] at hq
  have hN : sm_N s := by
    refine ⟨fun w hw => ?_, va_AO.of (hts (.arrayOver (.object "SnowInns$Sheet")) (by decide +kernel)), sm_AOA.of (hts (.arrayOver (.array .int)) (by decide +kernel))⟩
    have hw2 : w ∈ lw_tbl := (by decide +kernel : ∀ w ∈ sm_nst, w ∈ lw_tbl) w hw
    obtain ⟨a, i, y, g, rfl⟩ := sm_nst_form w hw
    exact va_Nw.of rfl (hts _ hw2)
  have X : lwX p s m meth c b L xs (dC, dI) (a1, a2, a3) := ⟨⟨hx, hb, hml, hown, fun w hw _ => hts w hw, ⟨hK, hN⟩, rfl, ⟨by decide, by decide, rfl, rfl⟩, Nat.le_refl _⟩, hr, hlocks, hX, hbl, hL⟩
  have hS : va_S (sm_A s.heap.size) s.heap s.heap [] := va_S.rf
  have hW : sm_W s.heap.size (dC, dI) (a1, a2, a3) (0, K0, (fun _ _ => 0), (fun _ _ => none)) s.heap := ⟨fun k q h => by simp [sm_ws] at h, rfl⟩
  have g0 : hA 0 (fun _ _ => none) (fun _ _ => 0) (0, K0, (fun _ _ => 0), (fun _ _ => none)) := ⟨rfl, fun q hq => absurd hq (Nat.not_lt_zero _), fun q hq => absurd hq (Nat.not_lt_zero _), fun q hq => absurd hq (Nat.not_lt_zero _), fun q hq => absurd hq (Nat.not_lt_zero _), fun q _ => ⟨fun _ => rfl, rfl⟩⟩
  have hl := lv_entry ([.ref b]) (n := 4) (Nat.le_of_ble_eq_true rfl)
  rw [lg_entry_eq]
  generalize (lg_sl ([.ref b]) ++ List.replicate (4 - (lg_sl ([.ref b])).length) Slot.unset).toArray = ls at hl ⊢
  have hl : lv_has ls 4 [(0, .ref b)] := hl
  refine lw_new X.1 (c0 := 6) dL_law_0 nL_7 (by decide) (by decide) hW hS (fun H1 hW hS => ?_)
  have g1 := hA_nw g0 (kd := (6 + 3, 0)) rfl
  generalize sm_nw (0, K0, (fun _ _ => 0), (fun _ _ => none)) 1 (fun _ => (6 + 3, 0)) (fun _ _ => none) = h1 at g1 hW
  refine lv_dup hx hb dL_law_3 rfl ?_
  refine lw_I X.1 (q := 0) (As := []) (st := [.ref 0]) dL_law_4 lL_9 (Nat.le_of_ble_eq_true rfl) (by decide) (by decide) (ct_X6_init_0 (d := 17) g1) hW hS hl.1 (fun r2 h2 H2 locs2 hq hW hS => ?_)
  obtain ⟨rfl, g2⟩ := hq
  refine lv_astore_n (x := s.heap.size + 0) (lv' := [(1, .ref (s.heap.size + 0)), (0, .ref b)]) hx hb dL_law_7 rfl hl (by decide) rfl (fun ls hl => ?_)
  refine lw_new X.1 (c0 := 7) dL_law_8 nL_10 (by decide) (by decide) hW hS (fun H3 hW hS => ?_)
  rw [g2.1]
  have g3 := hA_nw g2 (kd := (7 + 3, 0)) rfl
  generalize sm_nw h2 1 (fun _ => (7 + 3, 0)) (fun _ _ => none) = h3 at g3 hW
  refine lv_dup hx hb dL_law_11 rfl ?_
  refine lw_I X.1 (q := 80) (As := []) (st := [.ref 80]) dL_law_12 lL_12 (Nat.le_of_ble_eq_true rfl) (by decide) (by decide) (ct_X7_init_80 (d := 19) g3) hW hS hl.1 (fun r4 h4 H4 locs4 hq hW hS => ?_)
  obtain ⟨rfl, g4'⟩ := hq
  refine lv_astore_n (x := s.heap.size + 80) (lv' := [(2, .ref (s.heap.size + 80)), (1, .ref (s.heap.size + 0)), (0, .ref b)]) hx hb dL_law_15 rfl hl (by decide) rfl (fun ls hl => ?_)
  refine lv_iconst (v := 0) hx hb dL_law_16 (by decide) ?_
  refine lv_istore_n (lv' := [(3, .int 0), (2, .ref (s.heap.size + 80)), (1, .ref (s.heap.size + 0)), (0, .ref b)]) hx hb dL_law_17 rfl hl (by decide) rfl (fun ls hl => ?_)
  exact law_loop X 64 0 (0, fun _ _ => none) inF _ _ _ _ _ ls (by decide) (by decide) CI_0 MI_0 WF_0 (lw_hp g4' hW) hS (lv_sub hl [3, 2, 1, 0] rfl) (by decide) (by decide)
