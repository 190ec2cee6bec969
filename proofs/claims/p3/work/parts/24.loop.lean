set_option maxHeartbeats 4000000 in
set_option maxRecDepth 100000 in
theorem law_loop {p : Program} {l : Launch} {e : Env} {s : State} {m : MethodId} {below : List Frame} {meth : Method} {c : Code} {b Ln : Nat} {xs : Nat → Int32} (C0 : lw_At p s m meth c b Ln xs) {dC : Nat → ClassId} {dI : Nat → Nat → Nat} {cI cS cP cA cZ : ClassId} {x0 m0 : Nat} (hcm : cmL (fun q : Nat => s.heap.size ≤ q) s) (hK : va_K (dC, dI) vwCl (tyL cI cS cP cA cZ) s) (hLn : Ln ≤ 3584) : ∀ (n t : Nat), Ln + 7 - 7 * t < n → 7 * t ≤ Ln → ∀ (H : Heap) (locs : List Loc) (ls : Array Slot), MS dC dI cI cS cP cA cZ s x0 m0 H locs → lv_has ls 4 [(3, .int (nI (7 * t))), (2, .ref m0), (1, .ref x0), (0, .ref b)] → W p l e room_1 s m #[Value.ref b] below meth c H locs 142 11649 (lw_Z below #[Value.ref b] s) (F0 m 18 ls []) := by
  obtain ⟨hx, hb, hr, hml, hown, hts, hX, hbl, hlocks, hgv⟩ := id C0
  have hbA : ¬ (fun q : Nat => s.heap.size ≤ q) b := Nat.not_le.mpr hbl
  intro n
  induction n with
  | zero => intro t hm; exact absurd hm (Nat.not_lt_zero _)
  | succ n ih0 =>
    intro t hm ht0 H locs ls hM hl
    have hS := hM.S
    refine lv_iload_n hx hb dL_law_18 rfl (lv_at hl 0 rfl) ?_
    refine lv_aload_n hx hb dL_law_19 rfl (lv_at hl 3 rfl) ?_
    refine va_slen hx hb hX hbl hbA hS dL_law_20 ?_
    refine lv_bipush (v := 7) hx hb dL_law_21 (by decide) ?_
    refine lv_isub hx hb dL_law_23 ?_
    refine lv_icmp_gt (tgt := 788) hx hb dL_law_24 (by decide) (fun h1 => ?_) (fun h1 => ?_)
    · refine lv_iconst (v := 1) hx hb dL_law_788 (by decide) ?_
      refine va_forget (fun q hq => hS.2.2 q hq) ?_
      refine W.widen (k := 600000) (n := 7302250) (Nat.le_of_ble_eq_true rfl) (Nat.le_of_ble_eq_true rfl) ?_
      exact lw_ret hx hb hr hlocks dL_law_789
    · have ht7 := lw_in hLn (by omega) h1
      have step : ∀ (H : Heap) (locs : List Loc) (ls : Array Slot), MS dC dI cI cS cP cA cZ s x0 m0 H locs → lv_has ls 4 [(3, .int (nI (7 * t))), (2, .ref m0), (1, .ref x0), (0, .ref b)] → W p l e room_1 s m #[Value.ref b] below meth c H locs 142 11649 (lw_Z below #[Value.ref b] s) (F0 m 782 ls []) := by
        intro H locs ls hM hl
        refine lv_iinc (v := nI (7 * (t + 1))) (lv' := [(3, .int (nI (7 * (t + 1)))), (2, .ref m0), (1, .ref x0), (0, .ref b)]) hx hb dL_law_782 hl (k := 0) rfl (nI_add (7 * t) 7) (by decide) rfl (fun ls hl => ?_)
        refine lv_goto (tgt := 18) hx hb dL_law_785 (by decide) ?_
        exact ih0 (t + 1) (by omega) (by omega) H locs ls hM hl
      refine lv_aload_n hx hb dL_law_27 rfl (lv_at hl 3 rfl) ?_
      refine lv_iload_n hx hb dL_law_28 rfl (lv_at hl 0 rfl) ?_
      refine va_sld (i := nI (7 * t)) hx hb hX hbl hbA hS (vp_in_nI (by omega) (by omega)) dL_law_29 ?_
      refine lv_bipush (v := 31) hx hb dL_law_30 (by decide) ?_
      refine lv_iand hx hb dL_law_32 ?_
      refine lv_topi (fun v ev => ?_)
      clear ev
      by_cases hs_0 : v = 0
      · refine lv_tableIn (tgt := 128) hx hb dL_law_33 (by rw [hs_0]; decide) (by rw [hs_0]; decide) (by rw [hs_0]; rfl) (by decide) ?_
        exact law_day C0 hcm hK ht7 hLn step hM hl
      by_cases hs_1 : v = 1
      · refine lv_tableIn (tgt := 181) hx hb dL_law_33 (by rw [hs_1]; decide) (by rw [hs_1]; decide) (by rw [hs_1]; rfl) (by decide) ?_
        exact law_date C0 hcm hK ht7 hLn step hM hl
      by_cases hs_2 : v = 2
      · refine lv_tableIn (tgt := 224) hx hb dL_law_33 (by rw [hs_2]; decide) (by rw [hs_2]; decide) (by rw [hs_2]; rfl) (by decide) ?_
        exact law_years C0 hcm hK ht7 hLn step hM hl
      by_cases hs_3 : v = 3
      · refine lv_tableIn (tgt := 267) hx hb dL_law_33 (by rw [hs_3]; decide) (by rw [hs_3]; decide) (by rw [hs_3]; rfl) (by decide) ?_
        exact law_king C0 hcm hK ht7 hLn step hM hl
      by_cases hs_4 : v = 4
      · refine lv_tableIn (tgt := 310) hx hb dL_law_33 (by rw [hs_4]; decide) (by rw [hs_4]; decide) (by rw [hs_4]; rfl) (by decide) ?_
        exact law_event C0 hcm hK ht7 hLn step hM hl
      by_cases hs_5 : v = 5
      · refine lv_tableIn (tgt := 323) hx hb dL_law_33 (by rw [hs_5]; decide) (by rw [hs_5]; decide) (by rw [hs_5]; rfl) (by decide) ?_
        exact law_say C0 hcm hK ht7 hLn step hM hl
      by_cases hs_6 : v = 6
      · refine lv_tableIn (tgt := 398) hx hb dL_law_33 (by rw [hs_6]; decide) (by rw [hs_6]; decide) (by rw [hs_6]; rfl) (by decide) ?_
        exact law_copy C0 hcm hK ht7 hLn step hM hl
      by_cases hs_7 : v = 7
      · refine lv_tableIn (tgt := 431) hx hb dL_law_33 (by rw [hs_7]; decide) (by rw [hs_7]; decide) (by rw [hs_7]; rfl) (by decide) ?_
        exact law_take C0 hcm hK ht7 hLn step hM hl
      by_cases hs_8 : v = 8
      · refine lv_tableIn (tgt := 480) hx hb dL_law_33 (by rw [hs_8]; decide) (by rw [hs_8]; decide) (by rw [hs_8]; rfl) (by decide) ?_
        exact law_look C0 hcm hK ht7 hLn step hM hl
      by_cases hs_9 : v = 9
      · refine lv_tableIn (tgt := 513) hx hb dL_law_33 (by rw [hs_9]; decide) (by rw [hs_9]; decide) (by rw [hs_9]; rfl) (by decide) ?_
        exact law_span C0 hcm hK ht7 hLn step hM hl
      by_cases hs_10 : v = 10
      · refine lv_tableIn (tgt := 572) hx hb dL_law_33 (by rw [hs_10]; decide) (by rw [hs_10]; decide) (by rw [hs_10]; rfl) (by decide) ?_
        exact law_first C0 hcm hK ht7 hLn step hM hl
      by_cases hs_11 : v = 11
      · refine lv_tableIn (tgt := 595) hx hb dL_law_33 (by rw [hs_11]; decide) (by rw [hs_11]; decide) (by rw [hs_11]; rfl) (by decide) ?_
        exact law_last C0 hcm hK ht7 hLn step hM hl
      by_cases hs_12 : v = 12
      · refine lv_tableIn (tgt := 618) hx hb dL_law_33 (by rw [hs_12]; decide) (by rw [hs_12]; decide) (by rw [hs_12]; rfl) (by decide) ?_
        exact law_can C0 hcm hK ht7 hLn step hM hl
      by_cases hs_13 : v = 13
      · refine lv_tableIn (tgt := 651) hx hb dL_law_33 (by rw [hs_13]; decide) (by rw [hs_13]; decide) (by rw [hs_13]; rfl) (by decide) ?_
        exact law_agrees C0 hcm hK ht7 hLn step hM hl
      by_cases hs_14 : v = 14
      · refine lv_tableIn (tgt := 664) hx hb dL_law_33 (by rw [hs_14]; decide) (by rw [hs_14]; decide) (by rw [hs_14]; rfl) (by decide) ?_
        exact law_quarrel C0 hcm hK ht7 hLn step hM hl
      by_cases hs_15 : v = 15
      · refine lv_tableIn (tgt := 677) hx hb dL_law_33 (by rw [hs_15]; decide) (by rw [hs_15]; decide) (by rw [hs_15]; rfl) (by decide) ?_
        exact law_slips C0 hcm hK ht7 hLn step hM hl
      by_cases hs_16 : v = 16
      · refine lv_tableIn (tgt := 690) hx hb dL_law_33 (by rw [hs_16]; decide) (by rw [hs_16]; decide) (by rw [hs_16]; rfl) (by decide) ?_
        exact law_slipped C0 hcm hK ht7 hLn step hM hl
      by_cases hs_17 : v = 17
      · refine lv_tableIn (tgt := 713) hx hb dL_law_33 (by rw [hs_17]; decide) (by rw [hs_17]; decide) (by rw [hs_17]; rfl) (by decide) ?_
        exact law_width C0 hcm hK ht7 hLn step hM hl
      by_cases hs_18 : v = 18
      · refine lv_tableIn (tgt := 746) hx hb dL_law_33 (by rw [hs_18]; decide) (by rw [hs_18]; decide) (by rw [hs_18]; rfl) (by decide) ?_
        exact law_settles C0 hcm hK ht7 hLn step hM hl
      by_cases hs_19 : v = 19
      · refine lv_tableIn (tgt := 759) hx hb dL_law_33 (by rw [hs_19]; decide) (by rw [hs_19]; decide) (by rw [hs_19]; rfl) (by decide) ?_
        exact law_count C0 hcm hK ht7 hLn step hM hl
      refine lv_tableOut (tgt := 782) hx hb dL_law_33 (sw_out20 hs_0 hs_1 hs_2 hs_3 hs_4 hs_5 hs_6 hs_7 hs_8 hs_9 hs_10 hs_11 hs_12 hs_13 hs_14 hs_15 hs_16 hs_17 hs_18 hs_19) (by decide) ?_
      exact step H locs ls hM hl
