/-- the calendars' table and nest word, at the law -/
def cmL (A : Nat → Prop) (s : State) : Prop := (∃ t : Nat, va_Z "DayBench$Calendars" "MONTH_DAYS" "[I" (.ref t) A s s.heap ∧ va_T .int t 12 (fun j => .int (md_tab j)) A s s.heap) ∧ va_Nw (.methodLinkNest RX0 45 yX5_isDay "DayBench") s
theorem cm_law {A : Nat → Prop} {s U : State} {H : Heap} {locs : List Loc} (h : cmL A s) (hS : va_S A s.heap H locs) (hU : U.heap = H) (hW : s.WarmedH U.vm) : cm_ok U := by
  obtain ⟨⟨t, h1, h2⟩, h3⟩ := h
  refine ⟨⟨t, ?_, ?_⟩, va_Nw.warmM hW h3⟩
  · rw [hU]; exact va_Z.moved hW.alike ((h1.kept hS.2.1).narrow (fun _ q => q.elim))
  · rw [hU]; exact va_T.moved hW.alike ((h2.kept hS.2.1).narrow (fun _ q => q.elim))
theorem nk_tables {s : State} {a : Array Value} (hts : ∀ w ∈ lw_tbl, w.before a s = true) : nk_ok s := ⟨va_Nw.of rfl (hts (.methodLinkNest RX5 25 yX1_init "DayBench") (by decide +kernel)), va_Nw.of rfl (hts (.methodLinkNest RX5 35 yX3_init "DayBench") (by decide +kernel)), va_Nw.of rfl (hts (.methodLinkNest RX1 11 yX4_init "DayBench") (by decide +kernel)), va_Nw.of rfl (hts (.methodLinkNest RX2 24 yX4_init "DayBench") (by decide +kernel)), va_AO.of (hts (.arrayOver (.object "DayBench$Saying")) (by decide +kernel)), va_AO.of (hts (.arrayOver (.object "DayBench$Spans")) (by decide +kernel)), (show (Cond.arrayOver (.array .int)).before a s = true from hts (.arrayOver (.array .int)) (by decide +kernel))⟩
theorem cm_tables {s : State} {b : Nat} (hts : ∀ w ∈ lw_tbl, w.before #[Value.ref b] s = true) (hgv : (Jvm.Cond.and given_1 narrow_1).before #[Value.ref b] s = true) : cmL (fun q : Nat => s.heap.size ≤ q) s := by
  have hg := flat_of_before _ hgv
  have hlen := va_eqt (hg (.eq (.length (.static "DayBench$Calendars" "MONTH_DAYS" "[I")) (.int 12)) (by decide +kernel))
  have hel : ∀ j : Nat, j < 12 → (Term.elem (.static "DayBench$Calendars" "MONTH_DAYS" "[I") (.int (Int32.ofNat j))).eval #[Value.ref b] s none [] s = some (Value.int (md_tab j)) := by
    intro j hj
    rcases (show j = 0 ∨ j = 1 ∨ j = 2 ∨ j = 3 ∨ j = 4 ∨ j = 5 ∨ j = 6 ∨ j = 7 ∨ j = 8 ∨ j = 9 ∨ j = 10 ∨ j = 11 by omega) with rfl | rfl | rfl | rfl | rfl | rfl | rfl | rfl | rfl | rfl | rfl | rfl
    · exact va_eqt (hg (.eq (.elem (.static "DayBench$Calendars" "MONTH_DAYS" "[I") (.int 0)) (.int 31)) (by decide +kernel))
    · exact va_eqt (hg (.eq (.elem (.static "DayBench$Calendars" "MONTH_DAYS" "[I") (.int 1)) (.int 28)) (by decide +kernel))
    · exact va_eqt (hg (.eq (.elem (.static "DayBench$Calendars" "MONTH_DAYS" "[I") (.int 2)) (.int 31)) (by decide +kernel))
    · exact va_eqt (hg (.eq (.elem (.static "DayBench$Calendars" "MONTH_DAYS" "[I") (.int 3)) (.int 30)) (by decide +kernel))
    · exact va_eqt (hg (.eq (.elem (.static "DayBench$Calendars" "MONTH_DAYS" "[I") (.int 4)) (.int 31)) (by decide +kernel))
    · exact va_eqt (hg (.eq (.elem (.static "DayBench$Calendars" "MONTH_DAYS" "[I") (.int 5)) (.int 30)) (by decide +kernel))
    · exact va_eqt (hg (.eq (.elem (.static "DayBench$Calendars" "MONTH_DAYS" "[I") (.int 6)) (.int 31)) (by decide +kernel))
    · exact va_eqt (hg (.eq (.elem (.static "DayBench$Calendars" "MONTH_DAYS" "[I") (.int 7)) (.int 31)) (by decide +kernel))
    · exact va_eqt (hg (.eq (.elem (.static "DayBench$Calendars" "MONTH_DAYS" "[I") (.int 8)) (.int 30)) (by decide +kernel))
    · exact va_eqt (hg (.eq (.elem (.static "DayBench$Calendars" "MONTH_DAYS" "[I") (.int 9)) (.int 31)) (by decide +kernel))
    · exact va_eqt (hg (.eq (.elem (.static "DayBench$Calendars" "MONTH_DAYS" "[I") (.int 10)) (.int 30)) (by decide +kernel))
    · exact va_eqt (hg (.eq (.elem (.static "DayBench$Calendars" "MONTH_DAYS" "[I") (.int 11)) (.int 31)) (by decide +kernel))
  obtain ⟨t, h1, h2⟩ := va_Tof (N := 12) (A := fun q : Nat => s.heap.size ≤ q) (show 12 < 2 ^ 31 by omega) (hg (.arrayOf (.static "DayBench$Calendars" "MONTH_DAYS" "[I") .int) (by decide +kernel)) hlen hel (fun a h => Nat.not_le.mpr h)
  exact ⟨⟨t, va_Zref (hts (.laysStatic "DayBench$Calendars" "MONTH_DAYS" "[I") (by decide +kernel)) (hts (.initialized "DayBench$Calendars") (by decide +kernel)) h1 (fun a h => Nat.not_le.mpr h), h2⟩, va_Nw.of rfl (hts (.methodLinkNest RX0 45 yX5_isDay "DayBench") (by decide +kernel))⟩
theorem lw_L7 {L : Nat} (hL : L ≤ 7) (h : ¬ (Int32.ofNat L - 7) < 0) : L = 7 := by
  rcases Nat.lt_or_ge L 7 with q | q
  · refine absurd ?_ h
    rcases (show L = 0 ∨ L = 1 ∨ L = 2 ∨ L = 3 ∨ L = 4 ∨ L = 5 ∨ L = 6 by omega) with rfl | rfl | rfl | rfl | rfl | rfl | rfl <;> decide
  · omega
theorem sw_out20 {x : Int32} (h0 : ¬ x = 0) (h1 : ¬ x = 1) (h2 : ¬ x = 2) (h3 : ¬ x = 3) (h4 : ¬ x = 4) (h5 : ¬ x = 5) (h6 : ¬ x = 6) (h7 : ¬ x = 7) (h8 : ¬ x = 8) (h9 : ¬ x = 9) (h10 : ¬ x = 10) (h11 : ¬ x = 11) (h12 : ¬ x = 12) (h13 : ¬ x = 13) (h14 : ¬ x = 14) (h15 : ¬ x = 15) (h16 : ¬ x = 16) (h17 : ¬ x = 17) (h18 : ¬ x = 18) (h19 : ¬ x = 19) : x.toInt < 0 ∨ 19 < x.toInt := by
  have a0 := lv_neT (a := 0) h0 rfl
  have a1 := lv_neT (a := 1) h1 rfl
  have a2 := lv_neT (a := 2) h2 rfl
  have a3 := lv_neT (a := 3) h3 rfl
  have a4 := lv_neT (a := 4) h4 rfl
  have a5 := lv_neT (a := 5) h5 rfl
  have a6 := lv_neT (a := 6) h6 rfl
  have a7 := lv_neT (a := 7) h7 rfl
  have a8 := lv_neT (a := 8) h8 rfl
  have a9 := lv_neT (a := 9) h9 rfl
  have a10 := lv_neT (a := 10) h10 rfl
  have a11 := lv_neT (a := 11) h11 rfl
  have a12 := lv_neT (a := 12) h12 rfl
  have a13 := lv_neT (a := 13) h13 rfl
  have a14 := lv_neT (a := 14) h14 rfl
  have a15 := lv_neT (a := 15) h15 rfl
  have a16 := lv_neT (a := 16) h16 rfl
  have a17 := lv_neT (a := 17) h17 rfl
  have a18 := lv_neT (a := 18) h18 rfl
  have a19 := lv_neT (a := 19) h19 rfl
  omega

set_option maxHeartbeats 4000000 in
set_option maxRecDepth 100000 in
theorem law_end {p : Program} {l : Launch} {e : Env} {s : State} {m : MethodId} {below : List Frame} {meth : Method} {c : Code} {b : Nat} {xs : Nat → Int32} (C0 : lw_At p s m meth c b 7 xs) {x0 m0 : Nat} {H : Heap} {locs : List Loc} (hS : va_S (fun q : Nat => s.heap.size ≤ q) s.heap H locs) {ls : Array Slot} (hl : lv_has ls 4 [(3, .int 0), (2, .ref m0), (1, .ref x0), (0, .ref b)]) : W p l e room_1 s m #[Value.ref b] below meth c H locs 142 11649 (lw_Z below #[Value.ref b] s) (F0 m 782 ls []) := by
  obtain ⟨hx, hb, hr, hml, hown, hts, hX, hbl, hlocks, hgv⟩ := C0
  have hbA : ¬ (fun q : Nat => s.heap.size ≤ q) b := Nat.not_le.mpr hbl
  refine lv_iinc (v := 7) (lv' := [(3, .int 7), (2, .ref m0), (1, .ref x0), (0, .ref b)]) hx hb dL_law_782 hl (k := 0) rfl (by decide) (by decide) rfl (fun ls hl => ?_)
  refine lv_goto (tgt := 18) hx hb dL_law_785 (by decide) ?_
  refine lv_iload_n hx hb dL_law_18 rfl (lv_at hl 0 rfl) ?_
  refine lv_aload_n hx hb dL_law_19 rfl (lv_at hl 3 rfl) ?_
  refine va_slen hx hb hX hbl hbA hS dL_law_20 ?_
  have e7 : Int32.ofNat 7 = 7 := rfl
  rw [e7]
  refine lv_bipush (v := 7) hx hb dL_law_21 (by decide) ?_
  refine lv_isub hx hb dL_law_23 ?_
  refine lv_topi (fun x_1 ex_1 => ?_)
  have ex_1 : x_1 = 0 := ex_1.trans (by decide)
  subst ex_1
  refine lv_icmp_gt (tgt := 788) hx hb dL_law_24 (by decide) (fun h_2 => ?_) (fun h_2 => ?_)
  · refine lv_iconst (v := 1) hx hb dL_law_788 (by decide) ?_
    refine va_forget (fun q hq => hS.2.2 q hq) ?_
    refine W.widen (k := 600000) (n := 7302250) (Nat.le_of_ble_eq_true rfl) (Nat.le_of_ble_eq_true rfl) ?_
    exact lw_ret hx hb hr hlocks dL_law_789
  · exact (by first | exact absurd h_2 (by decide) | exact absurd (by decide) h_2)
