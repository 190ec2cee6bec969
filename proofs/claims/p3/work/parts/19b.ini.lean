set_option maxHeartbeats 4000000 in
set_option maxRecDepth 100000 in
theorem k_X5_init (l : Launch) (dC : Nat → ClassId) (dI : Nat → Nat → Nat) (cI cS cP cA : ClassId) (sz : Nat) (h0 : Nat) : Met l yX5_init wsX5_init ({ frames := 3, cells := 111, slots := 2675, locals := 53 }) (va_Pc [.ref h0] (nPre dC dI sz [(h0, .inr (4, [.null, .null, .null, .int 0, .int 0, .null, .int 0, .null, .null, .null, .null]))] (tyC cI cS cP cA))) (va_Qv (fun (u : List Nat × (Nat → Nat) × (Nat → va_E)) => PI cI cS cP cA u.1 u.2.1 u.2.2 ∧ (∀ a : Nat, a ∈ u.1 → u.2.1 a < 13) ∧ (h0 ∈ u.1 ∧ u.2.1 h0 = 6) ∧ fld (u.2.2 h0) 3 = some (.int (nI 0)) ∧ fld (u.2.2 h0) 4 = some (.int (nI 0))) (fun u t => wPost dC dI (va_A [(h0, .inr (4, [.null, .null, .null, .int 0, .int 0, .null, .int 0, .null, .null, .null, .null]))] sz) (va_pl u.1 u.2.2) t) (va_A [(h0, .inr (4, [.null, .null, .null, .int 0, .int 0, .null, .int 0, .null, .null, .null, .null]))] sz)) 111 2675 (va_A [(h0, .inr (4, [.null, .null, .null, .int 0, .int 0, .null, .int 0, .null, .null, .null, .null]))] sz) := by
  refine Met.ofW (cc := cX5_init) (maxL := 2) (ret := none) (by decide) rfl ?_
  intro p e s m args below meth c s₁ B hml hv
  obtain ⟨rfl, ⟨hsz, hP, hK, hD0⟩, hnk⟩ := hv
  have hx := B.exec
  have hb := B.bytes
  have hr := B.returns
  have hts := atoms_spec (ws := wsX5_init) B.pre
  have hown : s.vm.findClass RX5 = some m.cls := findClass_of_methodNamed B.named
  have hlocks := B.notSynchronized
  have hin0 : meth.name = "<init>" := (name_of_methodNamed B.named B.method).1
  subst hsz
  have hD := hD0.self (sz := s.heap.size)
  generalize hAe : va_A [(h0, .inr (4, [.null, .null, .null, .int 0, .int 0, .null, .int 0, .null, .null, .null, .null]))] s.heap.size = A at hD ⊢
  have hA : ∀ q : Nat, s.heap.size ≤ q → A q := fun q h => by rw [← hAe]; exact Or.inr h
  have hS : va_S A s.heap s.heap [] := va_S.rf
  obtain ⟨L, tg, f, hP, hD, hI, hT⟩ := cw_0 (cI := cI) (cS := cS) (cP := cP) (cA := cA) (X := [(h0, .inr (4, [.null, .null, .null, .int 0, .int 0, .null, .int 0, .null, .null, .null, .null]))]) hP hD
  have hl := lv_entry ([.ref h0]) (n := 2) (Nat.le_of_ble_eq_true rfl)
  rw [lg_entry_eq]
  generalize (lg_sl ([.ref h0]) ++ List.replicate (2 - (lg_sl ([.ref h0])).length) Slot.unset).toArray = ls at hl ⊢
  have hl : lv_has ls 2 [(0, .ref h0)] := hl
  refine lv_aload_n hx hb dX5_init_0 rfl (lv_at hl 0 rfl) ?_
  refine W.objInit hx hb hown (hts (.methodLink RX5 1 objectInit) (by decide +kernel)) (hts (.instanceMethod objectInit) (by decide +kernel)) (hts (.code objectInit ⟨#[0xb1]⟩ 1 none) (by decide +kernel)) rfl (by rw [hml]; exact hl.1) rfl dX5_init_1 (Nat.le_of_ble_eq_true rfl) (Nat.le_of_ble_eq_true rfl) ?_
  refine W.eq (g2 := F0 m 4 ls []) rfl ?_
  refine lv_aload_n hx hb dX5_init_4 rfl (lv_at hl 0 rfl) ?_
  refine lv_bipush (v := 6) hx hb dX5_init_5 (by decide) ?_
  refine cn_newa (n := 6) hx hb (hts (.arrayClass .int) (by decide +kernel)) hK hP hD hS hA hI hT 6 3 (by decide) (fun _ _ _ => rfl) (by decide) (by decide) (by decide) (Nat.le_of_ble_eq_true rfl) (Nat.le_of_ble_eq_true rfl) dX5_init_7 (fun q_1 H L tg f hP hD hS hI hT hg k_q_1 => ?_)
  refine W.widen (k := 1) (n := 6) (Nat.le_of_ble_eq_true rfl) (Nat.le_of_ble_eq_true rfl) ?_
  clear hg
  have hP : va_P (dC, dI) vwCl ([(h0, .inr (4, [.null, .null, .null, .int 0, .int 0, .null, .int 0, .null, .null, .null, .null]))] ++ va_pl L f) H := hP
  have hD : va_D A ([(h0, .inr (4, [.null, .null, .null, .int 0, .int 0, .null, .int 0, .null, .null, .null, .null]))] ++ va_pl L f) := hD
  refine va_putF (D := (dC, dI)) (ci := 4) (v := .ref q_1) (ty := (.array .int)) (C := RX5) (T := TX5) (N := 11) hx hb hts (by decide +kernel) tyX5 tyX5_ok nmX5 hown hK hP hD hS 0 rfl rfl 0 (by decide) (hts (.fieldLink RX5 9 "DayBench" "kingCalendar" "[I") (by decide +kernel)) (fun _ h9 => h9) rfl hin0 rfl (by decide +kernel) rfl rfl (Nat.le_of_ble_eq_true rfl) dX5_init_9 (fun H locs hP hD hS => ?_)
  have hP : va_P (dC, dI) vwCl ([(h0, .inr (4, [.ref q_1, .null, .null, .int 0, .int 0, .null, .int 0, .null, .null, .null, .null]))] ++ va_pl L f) H := hP
  have hD : va_D A ([(h0, .inr (4, [.ref q_1, .null, .null, .int 0, .int 0, .null, .int 0, .null, .null, .null, .null]))] ++ va_pl L f) := hD
  refine lv_aload_n hx hb dX5_init_12 rfl (lv_at hl 0 rfl) ?_
  refine lv_bipush (v := 6) hx hb dX5_init_13 (by decide) ?_
  refine cn_newa (n := 6) hx hb (hts (.arrayClass .int) (by decide +kernel)) hK hP hD hS hA hI hT 6 3 (by decide) (fun _ _ _ => rfl) (by decide) (by decide) (by decide) (Nat.le_of_ble_eq_true rfl) (Nat.le_of_ble_eq_true rfl) dX5_init_15 (fun q_2 H L tg f hP hD hS hI hT hg k_q_2 => ?_)
  refine W.widen (k := 2) (n := 12) (Nat.le_of_ble_eq_true rfl) (Nat.le_of_ble_eq_true rfl) ?_
  have k_q_1 := hg.at k_q_1
  clear hg
  have hP : va_P (dC, dI) vwCl ([(h0, .inr (4, [.ref q_1, .null, .null, .int 0, .int 0, .null, .int 0, .null, .null, .null, .null]))] ++ va_pl L f) H := hP
  have hD : va_D A ([(h0, .inr (4, [.ref q_1, .null, .null, .int 0, .int 0, .null, .int 0, .null, .null, .null, .null]))] ++ va_pl L f) := hD
  refine va_putF (D := (dC, dI)) (ci := 4) (v := .ref q_2) (ty := (.array .int)) (C := RX5) (T := TX5) (N := 11) hx hb hts (by decide +kernel) tyX5 tyX5_ok nmX5 hown hK hP hD hS 0 rfl rfl 1 (by decide) (hts (.fieldLink RX5 13 "DayBench" "kingFrom" "[I") (by decide +kernel)) (fun _ h9 => h9) rfl hin0 rfl (by decide +kernel) rfl rfl (Nat.le_of_ble_eq_true rfl) dX5_init_17 (fun H locs hP hD hS => ?_)
  have hP : va_P (dC, dI) vwCl ([(h0, .inr (4, [.ref q_1, .ref q_2, .null, .int 0, .int 0, .null, .int 0, .null, .null, .null, .null]))] ++ va_pl L f) H := hP
  have hD : va_D A ([(h0, .inr (4, [.ref q_1, .ref q_2, .null, .int 0, .int 0, .null, .int 0, .null, .null, .null, .null]))] ++ va_pl L f) := hD
  refine lv_aload_n hx hb dX5_init_20 rfl (lv_at hl 0 rfl) ?_
  refine lv_bipush (v := 6) hx hb dX5_init_21 (by decide) ?_
  refine cn_newa (n := 6) hx hb (hts (.arrayClass .int) (by decide +kernel)) hK hP hD hS hA hI hT 6 3 (by decide) (fun _ _ _ => rfl) (by decide) (by decide) (by decide) (Nat.le_of_ble_eq_true rfl) (Nat.le_of_ble_eq_true rfl) dX5_init_23 (fun q_3 H L tg f hP hD hS hI hT hg k_q_3 => ?_)
  refine W.widen (k := 3) (n := 18) (Nat.le_of_ble_eq_true rfl) (Nat.le_of_ble_eq_true rfl) ?_
  have k_q_1 := hg.at k_q_1
  have k_q_2 := hg.at k_q_2
  clear hg
  have hP : va_P (dC, dI) vwCl ([(h0, .inr (4, [.ref q_1, .ref q_2, .null, .int 0, .int 0, .null, .int 0, .null, .null, .null, .null]))] ++ va_pl L f) H := hP
  have hD : va_D A ([(h0, .inr (4, [.ref q_1, .ref q_2, .null, .int 0, .int 0, .null, .int 0, .null, .null, .null, .null]))] ++ va_pl L f) := hD
  refine va_putF (D := (dC, dI)) (ci := 4) (v := .ref q_3) (ty := (.array .int)) (C := RX5) (T := TX5) (N := 11) hx hb hts (by decide +kernel) tyX5 tyX5_ok nmX5 hown hK hP hD hS 0 rfl rfl 2 (by decide) (hts (.fieldLink RX5 16 "DayBench" "kingTo" "[I") (by decide +kernel)) (fun _ h9 => h9) rfl hin0 rfl (by decide +kernel) rfl rfl (Nat.le_of_ble_eq_true rfl) dX5_init_25 (fun H locs hP hD hS => ?_)
  have hP : va_P (dC, dI) vwCl ([(h0, .inr (4, [.ref q_1, .ref q_2, .ref q_3, .int 0, .int 0, .null, .int 0, .null, .null, .null, .null]))] ++ va_pl L f) H := hP
  have hD : va_D A ([(h0, .inr (4, [.ref q_1, .ref q_2, .ref q_3, .int 0, .int 0, .null, .int 0, .null, .null, .null, .null]))] ++ va_pl L f) := hD
  refine lv_aload_n hx hb dX5_init_28 rfl (lv_at hl 0 rfl) ?_
  refine lv_bipush (v := 12) hx hb dX5_init_29 (by decide) ?_
  refine cn_newq (own := RX5) (C := "DayBench$Saying") (n := 12) hx hb hown (hts (.classLink RX5 19 "DayBench$Saying") (by decide +kernel)) hnk.2.2.2.2.1 hK hP hD hS hA 12 1 cS rfl (by decide) (by decide) (by decide) (Nat.le_of_ble_eq_true rfl) (Nat.le_of_ble_eq_true rfl) dX5_init_31 (fun q_4 H hP hD hS => ?_)
  refine W.widen (k := 4) (n := 30) (Nat.le_of_ble_eq_true rfl) (Nat.le_of_ble_eq_true rfl) ?_
  have hP : va_P (dC, dI) vwCl ([(h0, .inr (4, [.ref q_1, .ref q_2, .ref q_3, .int 0, .int 0, .null, .int 0, .null, .null, .null, .null])), (q_4, .inl (cS, 12, .inr (.inr (.inr (.inr (fun _ => none))))))] ++ va_pl L f) H := hP
  have hD : va_D A ([(h0, .inr (4, [.ref q_1, .ref q_2, .ref q_3, .int 0, .int 0, .null, .int 0, .null, .null, .null, .null])), (q_4, .inl (cS, 12, .inr (.inr (.inr (.inr (fun _ => none))))))] ++ va_pl L f) := hD
  have ra_q_4 : RAk 0 (fun _ => none) L tg 0 := fun i9 h9 => absurd h9 (Nat.not_lt_zero _)
  refine va_putF (D := (dC, dI)) (ci := 4) (v := .ref q_4) (ty := (.array (.object "DayBench$Saying"))) (C := RX5) (T := TX5) (N := 11) hx hb hts (by decide +kernel) tyX5 tyX5_ok nmX5 hown hK hP hD hS 0 rfl rfl 5 (by decide) (hts (.fieldLink RX5 21 "DayBench" "sayings" "[LDayBench$Saying;") (by decide +kernel)) (fun _ h9 => h9) rfl hin0 rfl (by decide +kernel) rfl rfl (Nat.le_of_ble_eq_true rfl) dX5_init_34 (fun H locs hP hD hS => ?_)
  have hP : va_P (dC, dI) vwCl ([(h0, .inr (4, [.ref q_1, .ref q_2, .ref q_3, .int 0, .int 0, .ref q_4, .int 0, .null, .null, .null, .null])), (q_4, .inl (cS, 12, .inr (.inr (.inr (.inr (fun _ => none))))))] ++ va_pl L f) H := hP
  have hD : va_D A ([(h0, .inr (4, [.ref q_1, .ref q_2, .ref q_3, .int 0, .int 0, .ref q_4, .int 0, .null, .null, .null, .null])), (q_4, .inl (cS, 12, .inr (.inr (.inr (.inr (fun _ => none))))))] ++ va_pl L f) := hD
  refine lv_iconst (v := 0) hx hb dX5_init_37 (by decide) ?_
  refine lv_istore_n (lv' := [(1, .int 0), (0, .ref h0)]) hx hb dX5_init_38 rfl hl (by decide) rfl (fun ls hl => ?_)
  refine lv_iload_n hx hb dX5_init_39 rfl (lv_at hl 0 rfl) ?_
  refine lv_bipush (v := 12) hx hb dX5_init_40 (by decide) ?_
  refine lv_icmp_ge (tgt := 64) hx hb dX5_init_42 (by decide) (fun h_5 => ?_) (fun h_5 => ?_)
  · exact (by first | exact absurd h_5 (by decide) | exact absurd (by decide) h_5)
  · refine lv_aload_n hx hb dX5_init_45 rfl (lv_at hl 1 rfl) ?_
    refine va_get (D := (dC, dI)) (ci := 4) (v := .ref q_4) (C := RX5) (T := TX5) (N := 11) hx hb hts (by decide +kernel) hown hK hP 0 rfl rfl 5 (by decide) (hts (.fieldLink RX5 21 "DayBench" "sayings" "[LDayBench$Saying;") (by decide +kernel)) (fun _ h9 => h9) rfl dX5_init_46 ?_
    refine lv_iload_n hx hb dX5_init_49 rfl (lv_at hl 0 rfl) ?_
    refine cn_new (ci := 0) (fs := [.null, .int 0, .int 0, .int 0, .int 0, .int 0, .int 0, .int 0, .int 0]) (C := RX1) (T := TX1) (N := 9) hx hb hts (by decide +kernel) tyX1 tyX1_ok hown (hts (.classLink RX5 19 RX1) (by decide +kernel)) (hts (.instantiable RX1 9) (by decide +kernel)) (hts (.initialized RX1) (by decide +kernel)) hK hP hD hS hA rfl (fun j hj => by rcases (show j = 0 ∨ j = 1 ∨ j = 2 ∨ j = 3 ∨ j = 4 ∨ j = 5 ∨ j = 6 ∨ j = 7 ∨ j = 8 by omega) with rfl | rfl | rfl | rfl | rfl | rfl | rfl | rfl | rfl <;> rfl) (Nat.le_of_ble_eq_true rfl) (Nat.le_of_ble_eq_true rfl) dX5_init_50 (fun q_6 H hP hD hS => ?_)
    refine W.widen (k := 5) (n := 39) (Nat.le_of_ble_eq_true rfl) (Nat.le_of_ble_eq_true rfl) ?_
    have hP : va_P (dC, dI) vwCl ([(h0, .inr (4, [.ref q_1, .ref q_2, .ref q_3, .int 0, .int 0, .ref q_4, .int 0, .null, .null, .null, .null])), (q_4, .inl (cS, 12, .inr (.inr (.inr (.inr (fun _ => none)))))), (q_6, .inr (0, [.null, .int 0, .int 0, .int 0, .int 0, .int 0, .int 0, .int 0, .int 0]))] ++ va_pl L f) H := hP
    have hD : va_D A ([(h0, .inr (4, [.ref q_1, .ref q_2, .ref q_3, .int 0, .int 0, .ref q_4, .int 0, .null, .null, .null, .null])), (q_4, .inl (cS, 12, .inr (.inr (.inr (.inr (fun _ => none)))))), (q_6, .inr (0, [.null, .int 0, .int 0, .int 0, .int 0, .int 0, .int 0, .int 0, .int 0]))] ++ va_pl L f) := hD
    refine lv_dup hx hb dX5_init_53 rfl ?_
    have hPc := hP.sub (ws' := [(q_6, .inr (0, [.null, .int 0, .int 0, .int 0, .int 0, .int 0, .int 0, .int 0, .int 0]))]) [2] rfl
    have hDc := hD.sub (ws' := [(q_6, .inr (0, [.null, .int 0, .int 0, .int 0, .int 0, .int 0, .int 0, .int 0, .int 0]))]) [2] (by decide) rfl
    have hFc := va_free (wc := [(q_6, .inr (0, [.null, .int 0, .int 0, .int 0, .int 0, .int 0, .int 0, .int 0, .int 0]))]) hD hS hA [2] rfl
    refine va_callv (va_runIN (As := []) (rest := [.ref q_6, .int 0, .ref q_4]) ⟨hx, hb, hml, hown, hts⟩ (k_X1_init l dC dI cI cS cP cA H.size q_6) ⟨va_cnB (host := "DayBench") 0 hts gX5_init_X1_init_n25 rfl rfl rfl hnk.1 (hts (.initialized RX1) (by decide +kernel)) (by decide +kernel) ⟨Nat.le_of_ble_eq_true rfl, Nat.le_of_ble_eq_true rfl⟩, rfl, hts (.instanceMethod yX1_init) (by decide +kernel)⟩ ⟨nPre_blind, fun U hU hW => ⟨rfl, ⟨wPre_at hPc hK hDc hU hW, nk_warm hnk hW⟩⟩⟩ rfl rfl hl.1 rfl (lv_room (Nat.le_of_ble_eq_true rfl)) dX5_init_54 ⟨Nat.le_of_ble_eq_true rfl, Nat.le_of_ble_eq_true rfl⟩) hS (fun q9 _ h => hFc q9 h) hFc (fun u t H1 locs ht hvm hw hB hz1 hk1 hS => ?_)
    obtain ⟨hP1, hD1⟩ := hB
    rw [ht] at hP1
    obtain ⟨hI1, hT1, k_q_6⟩ := hw
    obtain ⟨hP, hD⟩ := va_joinQ (X := [(h0, .inr (4, [.ref q_1, .ref q_2, .ref q_3, .int 0, .int 0, .ref q_4, .int 0, .null, .null, .null, .null])), (q_4, .inl (cS, 12, .inr (.inr (.inr (.inr (fun _ => none)))))), (q_6, .inr (0, [.null, .int 0, .int 0, .int 0, .int 0, .int 0, .int 0, .int 0, .int 0]))]) (cx := [(q_6, .inr (0, [.null, .int 0, .int 0, .int 0, .int 0, .int 0, .int 0, .int 0, .int 0]))]) (wr := [(h0, .inr (4, [.ref q_1, .ref q_2, .ref q_3, .int 0, .int 0, .ref q_4, .int 0, .null, .null, .null, .null])), (q_4, .inl (cS, 12, .inr (.inr (.inr (.inr (fun _ => none))))))]) (w1 := va_pl u.1 u.2.2) (pl := va_pl L f) hP hD [2] [0, 1] rfl rfl (by decide) (by decide) hk1 hFc hP1 hD1
    obtain ⟨L, tg, f, hP, hD, hI, hT, hg, hg1⟩ := cw_join hP hD hI hT hI1 hT1
    have k_q_1 := hg.at k_q_1
    have k_q_2 := hg.at k_q_2
    have k_q_3 := hg.at k_q_3
    have ra_q_4 := ra_q_4.up hg
    have k_q_6 := hg1.at k_q_6
    clear hP1 hD1 hz1 hk1 hFc hPc hDc ht hg hg1 hI1 hT1
    generalize H1 = H at hP hS ⊢
    refine W.widen (k := 8) (n := 62) (Nat.le_of_ble_eq_true rfl) (Nat.le_of_ble_eq_true rfl) ?_
    have hP : va_P (dC, dI) vwCl ([(h0, .inr (4, [.ref q_1, .ref q_2, .ref q_3, .int 0, .int 0, .ref q_4, .int 0, .null, .null, .null, .null])), (q_4, .inl (cS, 12, .inr (.inr (.inr (.inr (fun _ => none))))))] ++ va_pl L f) H := hP
    have hD : va_D A ([(h0, .inr (4, [.ref q_1, .ref q_2, .ref q_3, .int 0, .int 0, .ref q_4, .int 0, .null, .null, .null, .null])), (q_4, .inl (cS, 12, .inr (.inr (.inr (.inr (fun _ => none))))))] ++ va_pl L f) := hD
    refine cn_aast (r := (RX1, TX1, 9)) (ci := 0) (i := 0) hx hb hK hP hD hS hI 1 1 rfl rfl k_q_6 (fun _ _ _ => rfl) rfl (by unfold vp_in; decide) dX5_init_57 (fun H locs hP hD hS => ?_)
    have hP : va_P (dC, dI) vwCl ([(h0, .inr (4, [.ref q_1, .ref q_2, .ref q_3, .int 0, .int 0, .ref q_4, .int 0, .null, .null, .null, .null])), (q_4, .inl (cS, 12, .inr (.inr (.inr (.inr (va_up (fun _ => none) (0 : Int32).toNatClampNeg (some q_6)))))))] ++ va_pl L f) H := hP
    have hD : va_D A ([(h0, .inr (4, [.ref q_1, .ref q_2, .ref q_3, .int 0, .int 0, .ref q_4, .int 0, .null, .null, .null, .null])), (q_4, .inl (cS, 12, .inr (.inr (.inr (.inr (va_up (fun _ => none) (0 : Int32).toNatClampNeg (some q_6)))))))] ++ va_pl L f) := hD
    have ra_q_4 := ra_q_4.set (i := 0) (by decide) k_q_6
    generalize va_up (fun _ => none) (0 : Int32).toNatClampNeg (some q_6) = g_7 at hP hD ra_q_4
    refine lv_iinc (v := 1) (lv' := [(1, .int 1), (0, .ref h0)]) hx hb dX5_init_58 hl (k := 0) rfl (by decide) (by decide) rfl (fun ls hl => ?_)
    refine lv_goto (tgt := 39) hx hb dX5_init_61 (by decide) ?_
    refine lv_iload_n hx hb dX5_init_39 rfl (lv_at hl 0 rfl) ?_
    refine lv_bipush (v := 12) hx hb dX5_init_40 (by decide) ?_
    refine lv_icmp_ge (tgt := 64) hx hb dX5_init_42 (by decide) (fun h_8 => ?_) (fun h_8 => ?_)
    · exact (by first | exact absurd h_8 (by decide) | exact absurd (by decide) h_8)
    · refine lv_aload_n hx hb dX5_init_45 rfl (lv_at hl 1 rfl) ?_
      refine va_get (D := (dC, dI)) (ci := 4) (v := .ref q_4) (C := RX5) (T := TX5) (N := 11) hx hb hts (by decide +kernel) hown hK hP 0 rfl rfl 5 (by decide) (hts (.fieldLink RX5 21 "DayBench" "sayings" "[LDayBench$Saying;") (by decide +kernel)) (fun _ h9 => h9) rfl dX5_init_46 ?_
      refine lv_iload_n hx hb dX5_init_49 rfl (lv_at hl 0 rfl) ?_
      refine cn_new (ci := 0) (fs := [.null, .int 0, .int 0, .int 0, .int 0, .int 0, .int 0, .int 0, .int 0]) (C := RX1) (T := TX1) (N := 9) hx hb hts (by decide +kernel) tyX1 tyX1_ok hown (hts (.classLink RX5 19 RX1) (by decide +kernel)) (hts (.instantiable RX1 9) (by decide +kernel)) (hts (.initialized RX1) (by decide +kernel)) hK hP hD hS hA rfl (fun j hj => by rcases (show j = 0 ∨ j = 1 ∨ j = 2 ∨ j = 3 ∨ j = 4 ∨ j = 5 ∨ j = 6 ∨ j = 7 ∨ j = 8 by omega) with rfl | rfl | rfl | rfl | rfl | rfl | rfl | rfl | rfl <;> rfl) (Nat.le_of_ble_eq_true rfl) (Nat.le_of_ble_eq_true rfl) dX5_init_50 (fun q_9 H hP hD hS => ?_)
      refine W.widen (k := 9) (n := 71) (Nat.le_of_ble_eq_true rfl) (Nat.le_of_ble_eq_true rfl) ?_
      have hP : va_P (dC, dI) vwCl ([(h0, .inr (4, [.ref q_1, .ref q_2, .ref q_3, .int 0, .int 0, .ref q_4, .int 0, .null, .null, .null, .null])), (q_4, .inl (cS, 12, .inr (.inr (.inr (.inr g_7))))), (q_9, .inr (0, [.null, .int 0, .int 0, .int 0, .int 0, .int 0, .int 0, .int 0, .int 0]))] ++ va_pl L f) H := hP
      have hD : va_D A ([(h0, .inr (4, [.ref q_1, .ref q_2, .ref q_3, .int 0, .int 0, .ref q_4, .int 0, .null, .null, .null, .null])), (q_4, .inl (cS, 12, .inr (.inr (.inr (.inr g_7))))), (q_9, .inr (0, [.null, .int 0, .int 0, .int 0, .int 0, .int 0, .int 0, .int 0, .int 0]))] ++ va_pl L f) := hD
      refine lv_dup hx hb dX5_init_53 rfl ?_
      have hPc := hP.sub (ws' := [(q_9, .inr (0, [.null, .int 0, .int 0, .int 0, .int 0, .int 0, .int 0, .int 0, .int 0]))]) [2] rfl
      have hDc := hD.sub (ws' := [(q_9, .inr (0, [.null, .int 0, .int 0, .int 0, .int 0, .int 0, .int 0, .int 0, .int 0]))]) [2] (by decide) rfl
      have hFc := va_free (wc := [(q_9, .inr (0, [.null, .int 0, .int 0, .int 0, .int 0, .int 0, .int 0, .int 0, .int 0]))]) hD hS hA [2] rfl
      refine va_callv (va_runIN (As := []) (rest := [.ref q_9, .int 1, .ref q_4]) ⟨hx, hb, hml, hown, hts⟩ (k_X1_init l dC dI cI cS cP cA H.size q_9) ⟨va_cnB (host := "DayBench") 0 hts gX5_init_X1_init_n25 rfl rfl rfl hnk.1 (hts (.initialized RX1) (by decide +kernel)) (by decide +kernel) ⟨Nat.le_of_ble_eq_true rfl, Nat.le_of_ble_eq_true rfl⟩, rfl, hts (.instanceMethod yX1_init) (by decide +kernel)⟩ ⟨nPre_blind, fun U hU hW => ⟨rfl, ⟨wPre_at hPc hK hDc hU hW, nk_warm hnk hW⟩⟩⟩ rfl rfl hl.1 rfl (lv_room (Nat.le_of_ble_eq_true rfl)) dX5_init_54 ⟨Nat.le_of_ble_eq_true rfl, Nat.le_of_ble_eq_true rfl⟩) hS (fun q9 _ h => hFc q9 h) hFc (fun u t H1 locs ht hvm hw hB hz1 hk1 hS => ?_)
      obtain ⟨hP1, hD1⟩ := hB
      rw [ht] at hP1
      obtain ⟨hI1, hT1, k_q_9⟩ := hw
      obtain ⟨hP, hD⟩ := va_joinQ (X := [(h0, .inr (4, [.ref q_1, .ref q_2, .ref q_3, .int 0, .int 0, .ref q_4, .int 0, .null, .null, .null, .null])), (q_4, .inl (cS, 12, .inr (.inr (.inr (.inr g_7))))), (q_9, .inr (0, [.null, .int 0, .int 0, .int 0, .int 0, .int 0, .int 0, .int 0, .int 0]))]) (cx := [(q_9, .inr (0, [.null, .int 0, .int 0, .int 0, .int 0, .int 0, .int 0, .int 0, .int 0]))]) (wr := [(h0, .inr (4, [.ref q_1, .ref q_2, .ref q_3, .int 0, .int 0, .ref q_4, .int 0, .null, .null, .null, .null])), (q_4, .inl (cS, 12, .inr (.inr (.inr (.inr g_7)))))]) (w1 := va_pl u.1 u.2.2) (pl := va_pl L f) hP hD [2] [0, 1] rfl rfl (by decide) (by decide) hk1 hFc hP1 hD1
      obtain ⟨L, tg, f, hP, hD, hI, hT, hg, hg1⟩ := cw_join hP hD hI hT hI1 hT1
      have k_q_1 := hg.at k_q_1
      have k_q_2 := hg.at k_q_2
      have k_q_3 := hg.at k_q_3
      have ra_q_4 := ra_q_4.up hg
      have k_q_9 := hg1.at k_q_9
      clear hP1 hD1 hz1 hk1 hFc hPc hDc ht hg hg1 hI1 hT1
      generalize H1 = H at hP hS ⊢
      refine W.widen (k := 12) (n := 94) (Nat.le_of_ble_eq_true rfl) (Nat.le_of_ble_eq_true rfl) ?_
      have hP : va_P (dC, dI) vwCl ([(h0, .inr (4, [.ref q_1, .ref q_2, .ref q_3, .int 0, .int 0, .ref q_4, .int 0, .null, .null, .null, .null])), (q_4, .inl (cS, 12, .inr (.inr (.inr (.inr g_7)))))] ++ va_pl L f) H := hP
      have hD : va_D A ([(h0, .inr (4, [.ref q_1, .ref q_2, .ref q_3, .int 0, .int 0, .ref q_4, .int 0, .null, .null, .null, .null])), (q_4, .inl (cS, 12, .inr (.inr (.inr (.inr g_7)))))] ++ va_pl L f) := hD
      refine cn_aast (r := (RX1, TX1, 9)) (ci := 0) (i := 1) hx hb hK hP hD hS hI 1 1 rfl rfl k_q_9 (fun _ _ _ => rfl) rfl (by unfold vp_in; decide) dX5_init_57 (fun H locs hP hD hS => ?_)
      have hP : va_P (dC, dI) vwCl ([(h0, .inr (4, [.ref q_1, .ref q_2, .ref q_3, .int 0, .int 0, .ref q_4, .int 0, .null, .null, .null, .null])), (q_4, .inl (cS, 12, .inr (.inr (.inr (.inr (va_up g_7 (1 : Int32).toNatClampNeg (some q_9)))))))] ++ va_pl L f) H := hP
      have hD : va_D A ([(h0, .inr (4, [.ref q_1, .ref q_2, .ref q_3, .int 0, .int 0, .ref q_4, .int 0, .null, .null, .null, .null])), (q_4, .inl (cS, 12, .inr (.inr (.inr (.inr (va_up g_7 (1 : Int32).toNatClampNeg (some q_9)))))))] ++ va_pl L f) := hD
      have ra_q_4 := ra_q_4.set (i := 1) (by decide) k_q_9
      generalize va_up g_7 (1 : Int32).toNatClampNeg (some q_9) = g_10 at hP hD ra_q_4
      refine lv_iinc (v := 2) (lv' := [(1, .int 2), (0, .ref h0)]) hx hb dX5_init_58 hl (k := 0) rfl (by decide) (by decide) rfl (fun ls hl => ?_)
      refine lv_goto (tgt := 39) hx hb dX5_init_61 (by decide) ?_
      refine lv_iload_n hx hb dX5_init_39 rfl (lv_at hl 0 rfl) ?_
      refine lv_bipush (v := 12) hx hb dX5_init_40 (by decide) ?_
      refine lv_icmp_ge (tgt := 64) hx hb dX5_init_42 (by decide) (fun h_11 => ?_) (fun h_11 => ?_)
      · exact (by first | exact absurd h_11 (by decide) | exact absurd (by decide) h_11)
      · refine lv_aload_n hx hb dX5_init_45 rfl (lv_at hl 1 rfl) ?_
        refine va_get (D := (dC, dI)) (ci := 4) (v := .ref q_4) (C := RX5) (T := TX5) (N := 11) hx hb hts (by decide +kernel) hown hK hP 0 rfl rfl 5 (by decide) (hts (.fieldLink RX5 21 "DayBench" "sayings" "[LDayBench$Saying;") (by decide +kernel)) (fun _ h9 => h9) rfl dX5_init_46 ?_
        refine lv_iload_n hx hb dX5_init_49 rfl (lv_at hl 0 rfl) ?_
        refine cn_new (ci := 0) (fs := [.null, .int 0, .int 0, .int 0, .int 0, .int 0, .int 0, .int 0, .int 0]) (C := RX1) (T := TX1) (N := 9) hx hb hts (by decide +kernel) tyX1 tyX1_ok hown (hts (.classLink RX5 19 RX1) (by decide +kernel)) (hts (.instantiable RX1 9) (by decide +kernel)) (hts (.initialized RX1) (by decide +kernel)) hK hP hD hS hA rfl (fun j hj => by rcases (show j = 0 ∨ j = 1 ∨ j = 2 ∨ j = 3 ∨ j = 4 ∨ j = 5 ∨ j = 6 ∨ j = 7 ∨ j = 8 by omega) with rfl | rfl | rfl | rfl | rfl | rfl | rfl | rfl | rfl <;> rfl) (Nat.le_of_ble_eq_true rfl) (Nat.le_of_ble_eq_true rfl) dX5_init_50 (fun q_12 H hP hD hS => ?_)
        refine W.widen (k := 13) (n := 103) (Nat.le_of_ble_eq_true rfl) (Nat.le_of_ble_eq_true rfl) ?_
        have hP : va_P (dC, dI) vwCl ([(h0, .inr (4, [.ref q_1, .ref q_2, .ref q_3, .int 0, .int 0, .ref q_4, .int 0, .null, .null, .null, .null])), (q_4, .inl (cS, 12, .inr (.inr (.inr (.inr g_10))))), (q_12, .inr (0, [.null, .int 0, .int 0, .int 0, .int 0, .int 0, .int 0, .int 0, .int 0]))] ++ va_pl L f) H := hP
        have hD : va_D A ([(h0, .inr (4, [.ref q_1, .ref q_2, .ref q_3, .int 0, .int 0, .ref q_4, .int 0, .null, .null, .null, .null])), (q_4, .inl (cS, 12, .inr (.inr (.inr (.inr g_10))))), (q_12, .inr (0, [.null, .int 0, .int 0, .int 0, .int 0, .int 0, .int 0, .int 0, .int 0]))] ++ va_pl L f) := hD
        refine lv_dup hx hb dX5_init_53 rfl ?_
        have hPc := hP.sub (ws' := [(q_12, .inr (0, [.null, .int 0, .int 0, .int 0, .int 0, .int 0, .int 0, .int 0, .int 0]))]) [2] rfl
        have hDc := hD.sub (ws' := [(q_12, .inr (0, [.null, .int 0, .int 0, .int 0, .int 0, .int 0, .int 0, .int 0, .int 0]))]) [2] (by decide) rfl
        have hFc := va_free (wc := [(q_12, .inr (0, [.null, .int 0, .int 0, .int 0, .int 0, .int 0, .int 0, .int 0, .int 0]))]) hD hS hA [2] rfl
        refine va_callv (va_runIN (As := []) (rest := [.ref q_12, .int 2, .ref q_4]) ⟨hx, hb, hml, hown, hts⟩ (k_X1_init l dC dI cI cS cP cA H.size q_12) ⟨va_cnB (host := "DayBench") 0 hts gX5_init_X1_init_n25 rfl rfl rfl hnk.1 (hts (.initialized RX1) (by decide +kernel)) (by decide +kernel) ⟨Nat.le_of_ble_eq_true rfl, Nat.le_of_ble_eq_true rfl⟩, rfl, hts (.instanceMethod yX1_init) (by decide +kernel)⟩ ⟨nPre_blind, fun U hU hW => ⟨rfl, ⟨wPre_at hPc hK hDc hU hW, nk_warm hnk hW⟩⟩⟩ rfl rfl hl.1 rfl (lv_room (Nat.le_of_ble_eq_true rfl)) dX5_init_54 ⟨Nat.le_of_ble_eq_true rfl, Nat.le_of_ble_eq_true rfl⟩) hS (fun q9 _ h => hFc q9 h) hFc (fun u t H1 locs ht hvm hw hB hz1 hk1 hS => ?_)
        obtain ⟨hP1, hD1⟩ := hB
        rw [ht] at hP1
        obtain ⟨hI1, hT1, k_q_12⟩ := hw
        obtain ⟨hP, hD⟩ := va_joinQ (X := [(h0, .inr (4, [.ref q_1, .ref q_2, .ref q_3, .int 0, .int 0, .ref q_4, .int 0, .null, .null, .null, .null])), (q_4, .inl (cS, 12, .inr (.inr (.inr (.inr g_10))))), (q_12, .inr (0, [.null, .int 0, .int 0, .int 0, .int 0, .int 0, .int 0, .int 0, .int 0]))]) (cx := [(q_12, .inr (0, [.null, .int 0, .int 0, .int 0, .int 0, .int 0, .int 0, .int 0, .int 0]))]) (wr := [(h0, .inr (4, [.ref q_1, .ref q_2, .ref q_3, .int 0, .int 0, .ref q_4, .int 0, .null, .null, .null, .null])), (q_4, .inl (cS, 12, .inr (.inr (.inr (.inr g_10)))))]) (w1 := va_pl u.1 u.2.2) (pl := va_pl L f) hP hD [2] [0, 1] rfl rfl (by decide) (by decide) hk1 hFc hP1 hD1
        obtain ⟨L, tg, f, hP, hD, hI, hT, hg, hg1⟩ := cw_join hP hD hI hT hI1 hT1
        have k_q_1 := hg.at k_q_1
        have k_q_2 := hg.at k_q_2
        have k_q_3 := hg.at k_q_3
        have ra_q_4 := ra_q_4.up hg
        have k_q_12 := hg1.at k_q_12
        clear hP1 hD1 hz1 hk1 hFc hPc hDc ht hg hg1 hI1 hT1
        generalize H1 = H at hP hS ⊢
        refine W.widen (k := 16) (n := 126) (Nat.le_of_ble_eq_true rfl) (Nat.le_of_ble_eq_true rfl) ?_
        have hP : va_P (dC, dI) vwCl ([(h0, .inr (4, [.ref q_1, .ref q_2, .ref q_3, .int 0, .int 0, .ref q_4, .int 0, .null, .null, .null, .null])), (q_4, .inl (cS, 12, .inr (.inr (.inr (.inr g_10)))))] ++ va_pl L f) H := hP
        have hD : va_D A ([(h0, .inr (4, [.ref q_1, .ref q_2, .ref q_3, .int 0, .int 0, .ref q_4, .int 0, .null, .null, .null, .null])), (q_4, .inl (cS, 12, .inr (.inr (.inr (.inr g_10)))))] ++ va_pl L f) := hD
        refine cn_aast (r := (RX1, TX1, 9)) (ci := 0) (i := 2) hx hb hK hP hD hS hI 1 1 rfl rfl k_q_12 (fun _ _ _ => rfl) rfl (by unfold vp_in; decide) dX5_init_57 (fun H locs hP hD hS => ?_)
        have hP : va_P (dC, dI) vwCl ([(h0, .inr (4, [.ref q_1, .ref q_2, .ref q_3, .int 0, .int 0, .ref q_4, .int 0, .null, .null, .null, .null])), (q_4, .inl (cS, 12, .inr (.inr (.inr (.inr (va_up g_10 (2 : Int32).toNatClampNeg (some q_12)))))))] ++ va_pl L f) H := hP
        have hD : va_D A ([(h0, .inr (4, [.ref q_1, .ref q_2, .ref q_3, .int 0, .int 0, .ref q_4, .int 0, .null, .null, .null, .null])), (q_4, .inl (cS, 12, .inr (.inr (.inr (.inr (va_up g_10 (2 : Int32).toNatClampNeg (some q_12)))))))] ++ va_pl L f) := hD
        have ra_q_4 := ra_q_4.set (i := 2) (by decide) k_q_12
        generalize va_up g_10 (2 : Int32).toNatClampNeg (some q_12) = g_13 at hP hD ra_q_4
        refine lv_iinc (v := 3) (lv' := [(1, .int 3), (0, .ref h0)]) hx hb dX5_init_58 hl (k := 0) rfl (by decide) (by decide) rfl (fun ls hl => ?_)
        refine lv_goto (tgt := 39) hx hb dX5_init_61 (by decide) ?_
        refine lv_iload_n hx hb dX5_init_39 rfl (lv_at hl 0 rfl) ?_
        refine lv_bipush (v := 12) hx hb dX5_init_40 (by decide) ?_
        refine lv_icmp_ge (tgt := 64) hx hb dX5_init_42 (by decide) (fun h_14 => ?_) (fun h_14 => ?_)
        · exact (by first | exact absurd h_14 (by decide) | exact absurd (by decide) h_14)
        · refine lv_aload_n hx hb dX5_init_45 rfl (lv_at hl 1 rfl) ?_
          refine va_get (D := (dC, dI)) (ci := 4) (v := .ref q_4) (C := RX5) (T := TX5) (N := 11) hx hb hts (by decide +kernel) hown hK hP 0 rfl rfl 5 (by decide) (hts (.fieldLink RX5 21 "DayBench" "sayings" "[LDayBench$Saying;") (by decide +kernel)) (fun _ h9 => h9) rfl dX5_init_46 ?_
          refine lv_iload_n hx hb dX5_init_49 rfl (lv_at hl 0 rfl) ?_
          refine cn_new (ci := 0) (fs := [.null, .int 0, .int 0, .int 0, .int 0, .int 0, .int 0, .int 0, .int 0]) (C := RX1) (T := TX1) (N := 9) hx hb hts (by decide +kernel) tyX1 tyX1_ok hown (hts (.classLink RX5 19 RX1) (by decide +kernel)) (hts (.instantiable RX1 9) (by decide +kernel)) (hts (.initialized RX1) (by decide +kernel)) hK hP hD hS hA rfl (fun j hj => by rcases (show j = 0 ∨ j = 1 ∨ j = 2 ∨ j = 3 ∨ j = 4 ∨ j = 5 ∨ j = 6 ∨ j = 7 ∨ j = 8 by omega) with rfl | rfl | rfl | rfl | rfl | rfl | rfl | rfl | rfl <;> rfl) (Nat.le_of_ble_eq_true rfl) (Nat.le_of_ble_eq_true rfl) dX5_init_50 (fun q_15 H hP hD hS => ?_)
          refine W.widen (k := 17) (n := 135) (Nat.le_of_ble_eq_true rfl) (Nat.le_of_ble_eq_true rfl) ?_
          have hP : va_P (dC, dI) vwCl ([(h0, .inr (4, [.ref q_1, .ref q_2, .ref q_3, .int 0, .int 0, .ref q_4, .int 0, .null, .null, .null, .null])), (q_4, .inl (cS, 12, .inr (.inr (.inr (.inr g_13))))), (q_15, .inr (0, [.null, .int 0, .int 0, .int 0, .int 0, .int 0, .int 0, .int 0, .int 0]))] ++ va_pl L f) H := hP
          have hD : va_D A ([(h0, .inr (4, [.ref q_1, .ref q_2, .ref q_3, .int 0, .int 0, .ref q_4, .int 0, .null, .null, .null, .null])), (q_4, .inl (cS, 12, .inr (.inr (.inr (.inr g_13))))), (q_15, .inr (0, [.null, .int 0, .int 0, .int 0, .int 0, .int 0, .int 0, .int 0, .int 0]))] ++ va_pl L f) := hD
          refine lv_dup hx hb dX5_init_53 rfl ?_
          have hPc := hP.sub (ws' := [(q_15, .inr (0, [.null, .int 0, .int 0, .int 0, .int 0, .int 0, .int 0, .int 0, .int 0]))]) [2] rfl
          have hDc := hD.sub (ws' := [(q_15, .inr (0, [.null, .int 0, .int 0, .int 0, .int 0, .int 0, .int 0, .int 0, .int 0]))]) [2] (by decide) rfl
          have hFc := va_free (wc := [(q_15, .inr (0, [.null, .int 0, .int 0, .int 0, .int 0, .int 0, .int 0, .int 0, .int 0]))]) hD hS hA [2] rfl
          refine va_callv (va_runIN (As := []) (rest := [.ref q_15, .int 3, .ref q_4]) ⟨hx, hb, hml, hown, hts⟩ (k_X1_init l dC dI cI cS cP cA H.size q_15) ⟨va_cnB (host := "DayBench") 0 hts gX5_init_X1_init_n25 rfl rfl rfl hnk.1 (hts (.initialized RX1) (by decide +kernel)) (by decide +kernel) ⟨Nat.le_of_ble_eq_true rfl, Nat.le_of_ble_eq_true rfl⟩, rfl, hts (.instanceMethod yX1_init) (by decide +kernel)⟩ ⟨nPre_blind, fun U hU hW => ⟨rfl, ⟨wPre_at hPc hK hDc hU hW, nk_warm hnk hW⟩⟩⟩ rfl rfl hl.1 rfl (lv_room (Nat.le_of_ble_eq_true rfl)) dX5_init_54 ⟨Nat.le_of_ble_eq_true rfl, Nat.le_of_ble_eq_true rfl⟩) hS (fun q9 _ h => hFc q9 h) hFc (fun u t H1 locs ht hvm hw hB hz1 hk1 hS => ?_)
          obtain ⟨hP1, hD1⟩ := hB
          rw [ht] at hP1
          obtain ⟨hI1, hT1, k_q_15⟩ := hw
          obtain ⟨hP, hD⟩ := va_joinQ (X := [(h0, .inr (4, [.ref q_1, .ref q_2, .ref q_3, .int 0, .int 0, .ref q_4, .int 0, .null, .null, .null, .null])), (q_4, .inl (cS, 12, .inr (.inr (.inr (.inr g_13))))), (q_15, .inr (0, [.null, .int 0, .int 0, .int 0, .int 0, .int 0, .int 0, .int 0, .int 0]))]) (cx := [(q_15, .inr (0, [.null, .int 0, .int 0, .int 0, .int 0, .int 0, .int 0, .int 0, .int 0]))]) (wr := [(h0, .inr (4, [.ref q_1, .ref q_2, .ref q_3, .int 0, .int 0, .ref q_4, .int 0, .null, .null, .null, .null])), (q_4, .inl (cS, 12, .inr (.inr (.inr (.inr g_13)))))]) (w1 := va_pl u.1 u.2.2) (pl := va_pl L f) hP hD [2] [0, 1] rfl rfl (by decide) (by decide) hk1 hFc hP1 hD1
          obtain ⟨L, tg, f, hP, hD, hI, hT, hg, hg1⟩ := cw_join hP hD hI hT hI1 hT1
          have k_q_1 := hg.at k_q_1
          have k_q_2 := hg.at k_q_2
          have k_q_3 := hg.at k_q_3
          have ra_q_4 := ra_q_4.up hg
          have k_q_15 := hg1.at k_q_15
          clear hP1 hD1 hz1 hk1 hFc hPc hDc ht hg hg1 hI1 hT1
          generalize H1 = H at hP hS ⊢
          refine W.widen (k := 20) (n := 158) (Nat.le_of_ble_eq_true rfl) (Nat.le_of_ble_eq_true rfl) ?_
          have hP : va_P (dC, dI) vwCl ([(h0, .inr (4, [.ref q_1, .ref q_2, .ref q_3, .int 0, .int 0, .ref q_4, .int 0, .null, .null, .null, .null])), (q_4, .inl (cS, 12, .inr (.inr (.inr (.inr g_13)))))] ++ va_pl L f) H := hP
          have hD : va_D A ([(h0, .inr (4, [.ref q_1, .ref q_2, .ref q_3, .int 0, .int 0, .ref q_4, .int 0, .null, .null, .null, .null])), (q_4, .inl (cS, 12, .inr (.inr (.inr (.inr g_13)))))] ++ va_pl L f) := hD
          refine cn_aast (r := (RX1, TX1, 9)) (ci := 0) (i := 3) hx hb hK hP hD hS hI 1 1 rfl rfl k_q_15 (fun _ _ _ => rfl) rfl (by unfold vp_in; decide) dX5_init_57 (fun H locs hP hD hS => ?_)
          have hP : va_P (dC, dI) vwCl ([(h0, .inr (4, [.ref q_1, .ref q_2, .ref q_3, .int 0, .int 0, .ref q_4, .int 0, .null, .null, .null, .null])), (q_4, .inl (cS, 12, .inr (.inr (.inr (.inr (va_up g_13 (3 : Int32).toNatClampNeg (some q_15)))))))] ++ va_pl L f) H := hP
          have hD : va_D A ([(h0, .inr (4, [.ref q_1, .ref q_2, .ref q_3, .int 0, .int 0, .ref q_4, .int 0, .null, .null, .null, .null])), (q_4, .inl (cS, 12, .inr (.inr (.inr (.inr (va_up g_13 (3 : Int32).toNatClampNeg (some q_15)))))))] ++ va_pl L f) := hD
          have ra_q_4 := ra_q_4.set (i := 3) (by decide) k_q_15
          generalize va_up g_13 (3 : Int32).toNatClampNeg (some q_15) = g_16 at hP hD ra_q_4
          refine lv_iinc (v := 4) (lv' := [(1, .int 4), (0, .ref h0)]) hx hb dX5_init_58 hl (k := 0) rfl (by decide) (by decide) rfl (fun ls hl => ?_)
          refine lv_goto (tgt := 39) hx hb dX5_init_61 (by decide) ?_
          refine lv_iload_n hx hb dX5_init_39 rfl (lv_at hl 0 rfl) ?_
          refine lv_bipush (v := 12) hx hb dX5_init_40 (by decide) ?_
          refine lv_icmp_ge (tgt := 64) hx hb dX5_init_42 (by decide) (fun h_17 => ?_) (fun h_17 => ?_)
          · exact (by first | exact absurd h_17 (by decide) | exact absurd (by decide) h_17)
          · refine lv_aload_n hx hb dX5_init_45 rfl (lv_at hl 1 rfl) ?_
            refine va_get (D := (dC, dI)) (ci := 4) (v := .ref q_4) (C := RX5) (T := TX5) (N := 11) hx hb hts (by decide +kernel) hown hK hP 0 rfl rfl 5 (by decide) (hts (.fieldLink RX5 21 "DayBench" "sayings" "[LDayBench$Saying;") (by decide +kernel)) (fun _ h9 => h9) rfl dX5_init_46 ?_
            refine lv_iload_n hx hb dX5_init_49 rfl (lv_at hl 0 rfl) ?_
            refine cn_new (ci := 0) (fs := [.null, .int 0, .int 0, .int 0, .int 0, .int 0, .int 0, .int 0, .int 0]) (C := RX1) (T := TX1) (N := 9) hx hb hts (by decide +kernel) tyX1 tyX1_ok hown (hts (.classLink RX5 19 RX1) (by decide +kernel)) (hts (.instantiable RX1 9) (by decide +kernel)) (hts (.initialized RX1) (by decide +kernel)) hK hP hD hS hA rfl (fun j hj => by rcases (show j = 0 ∨ j = 1 ∨ j = 2 ∨ j = 3 ∨ j = 4 ∨ j = 5 ∨ j = 6 ∨ j = 7 ∨ j = 8 by omega) with rfl | rfl | rfl | rfl | rfl | rfl | rfl | rfl | rfl <;> rfl) (Nat.le_of_ble_eq_true rfl) (Nat.le_of_ble_eq_true rfl) dX5_init_50 (fun q_18 H hP hD hS => ?_)
            refine W.widen (k := 21) (n := 167) (Nat.le_of_ble_eq_true rfl) (Nat.le_of_ble_eq_true rfl) ?_
            have hP : va_P (dC, dI) vwCl ([(h0, .inr (4, [.ref q_1, .ref q_2, .ref q_3, .int 0, .int 0, .ref q_4, .int 0, .null, .null, .null, .null])), (q_4, .inl (cS, 12, .inr (.inr (.inr (.inr g_16))))), (q_18, .inr (0, [.null, .int 0, .int 0, .int 0, .int 0, .int 0, .int 0, .int 0, .int 0]))] ++ va_pl L f) H := hP
            have hD : va_D A ([(h0, .inr (4, [.ref q_1, .ref q_2, .ref q_3, .int 0, .int 0, .ref q_4, .int 0, .null, .null, .null, .null])), (q_4, .inl (cS, 12, .inr (.inr (.inr (.inr g_16))))), (q_18, .inr (0, [.null, .int 0, .int 0, .int 0, .int 0, .int 0, .int 0, .int 0, .int 0]))] ++ va_pl L f) := hD
            refine lv_dup hx hb dX5_init_53 rfl ?_
            have hPc := hP.sub (ws' := [(q_18, .inr (0, [.null, .int 0, .int 0, .int 0, .int 0, .int 0, .int 0, .int 0, .int 0]))]) [2] rfl
            have hDc := hD.sub (ws' := [(q_18, .inr (0, [.null, .int 0, .int 0, .int 0, .int 0, .int 0, .int 0, .int 0, .int 0]))]) [2] (by decide) rfl
            have hFc := va_free (wc := [(q_18, .inr (0, [.null, .int 0, .int 0, .int 0, .int 0, .int 0, .int 0, .int 0, .int 0]))]) hD hS hA [2] rfl
            refine va_callv (va_runIN (As := []) (rest := [.ref q_18, .int 4, .ref q_4]) ⟨hx, hb, hml, hown, hts⟩ (k_X1_init l dC dI cI cS cP cA H.size q_18) ⟨va_cnB (host := "DayBench") 0 hts gX5_init_X1_init_n25 rfl rfl rfl hnk.1 (hts (.initialized RX1) (by decide +kernel)) (by decide +kernel) ⟨Nat.le_of_ble_eq_true rfl, Nat.le_of_ble_eq_true rfl⟩, rfl, hts (.instanceMethod yX1_init) (by decide +kernel)⟩ ⟨nPre_blind, fun U hU hW => ⟨rfl, ⟨wPre_at hPc hK hDc hU hW, nk_warm hnk hW⟩⟩⟩ rfl rfl hl.1 rfl (lv_room (Nat.le_of_ble_eq_true rfl)) dX5_init_54 ⟨Nat.le_of_ble_eq_true rfl, Nat.le_of_ble_eq_true rfl⟩) hS (fun q9 _ h => hFc q9 h) hFc (fun u t H1 locs ht hvm hw hB hz1 hk1 hS => ?_)
            obtain ⟨hP1, hD1⟩ := hB
            rw [ht] at hP1
            obtain ⟨hI1, hT1, k_q_18⟩ := hw
            obtain ⟨hP, hD⟩ := va_joinQ (X := [(h0, .inr (4, [.ref q_1, .ref q_2, .ref q_3, .int 0, .int 0, .ref q_4, .int 0, .null, .null, .null, .null])), (q_4, .inl (cS, 12, .inr (.inr (.inr (.inr g_16))))), (q_18, .inr (0, [.null, .int 0, .int 0, .int 0, .int 0, .int 0, .int 0, .int 0, .int 0]))]) (cx := [(q_18, .inr (0, [.null, .int 0, .int 0, .int 0, .int 0, .int 0, .int 0, .int 0, .int 0]))]) (wr := [(h0, .inr (4, [.ref q_1, .ref q_2, .ref q_3, .int 0, .int 0, .ref q_4, .int 0, .null, .null, .null, .null])), (q_4, .inl (cS, 12, .inr (.inr (.inr (.inr g_16)))))]) (w1 := va_pl u.1 u.2.2) (pl := va_pl L f) hP hD [2] [0, 1] rfl rfl (by decide) (by decide) hk1 hFc hP1 hD1
            obtain ⟨L, tg, f, hP, hD, hI, hT, hg, hg1⟩ := cw_join hP hD hI hT hI1 hT1
            have k_q_1 := hg.at k_q_1
            have k_q_2 := hg.at k_q_2
            have k_q_3 := hg.at k_q_3
            have ra_q_4 := ra_q_4.up hg
            have k_q_18 := hg1.at k_q_18
            clear hP1 hD1 hz1 hk1 hFc hPc hDc ht hg hg1 hI1 hT1
            generalize H1 = H at hP hS ⊢
            refine W.widen (k := 24) (n := 190) (Nat.le_of_ble_eq_true rfl) (Nat.le_of_ble_eq_true rfl) ?_
            have hP : va_P (dC, dI) vwCl ([(h0, .inr (4, [.ref q_1, .ref q_2, .ref q_3, .int 0, .int 0, .ref q_4, .int 0, .null, .null, .null, .null])), (q_4, .inl (cS, 12, .inr (.inr (.inr (.inr g_16)))))] ++ va_pl L f) H := hP
            have hD : va_D A ([(h0, .inr (4, [.ref q_1, .ref q_2, .ref q_3, .int 0, .int 0, .ref q_4, .int 0, .null, .null, .null, .null])), (q_4, .inl (cS, 12, .inr (.inr (.inr (.inr g_16)))))] ++ va_pl L f) := hD
            refine cn_aast (r := (RX1, TX1, 9)) (ci := 0) (i := 4) hx hb hK hP hD hS hI 1 1 rfl rfl k_q_18 (fun _ _ _ => rfl) rfl (by unfold vp_in; decide) dX5_init_57 (fun H locs hP hD hS => ?_)
            have hP : va_P (dC, dI) vwCl ([(h0, .inr (4, [.ref q_1, .ref q_2, .ref q_3, .int 0, .int 0, .ref q_4, .int 0, .null, .null, .null, .null])), (q_4, .inl (cS, 12, .inr (.inr (.inr (.inr (va_up g_16 (4 : Int32).toNatClampNeg (some q_18)))))))] ++ va_pl L f) H := hP
            have hD : va_D A ([(h0, .inr (4, [.ref q_1, .ref q_2, .ref q_3, .int 0, .int 0, .ref q_4, .int 0, .null, .null, .null, .null])), (q_4, .inl (cS, 12, .inr (.inr (.inr (.inr (va_up g_16 (4 : Int32).toNatClampNeg (some q_18)))))))] ++ va_pl L f) := hD
            have ra_q_4 := ra_q_4.set (i := 4) (by decide) k_q_18
            generalize va_up g_16 (4 : Int32).toNatClampNeg (some q_18) = g_19 at hP hD ra_q_4
            refine lv_iinc (v := 5) (lv' := [(1, .int 5), (0, .ref h0)]) hx hb dX5_init_58 hl (k := 0) rfl (by decide) (by decide) rfl (fun ls hl => ?_)
            refine lv_goto (tgt := 39) hx hb dX5_init_61 (by decide) ?_
            refine lv_iload_n hx hb dX5_init_39 rfl (lv_at hl 0 rfl) ?_
            refine lv_bipush (v := 12) hx hb dX5_init_40 (by decide) ?_
            refine lv_icmp_ge (tgt := 64) hx hb dX5_init_42 (by decide) (fun h_20 => ?_) (fun h_20 => ?_)
            · exact (by first | exact absurd h_20 (by decide) | exact absurd (by decide) h_20)
            · refine lv_aload_n hx hb dX5_init_45 rfl (lv_at hl 1 rfl) ?_
              refine va_get (D := (dC, dI)) (ci := 4) (v := .ref q_4) (C := RX5) (T := TX5) (N := 11) hx hb hts (by decide +kernel) hown hK hP 0 rfl rfl 5 (by decide) (hts (.fieldLink RX5 21 "DayBench" "sayings" "[LDayBench$Saying;") (by decide +kernel)) (fun _ h9 => h9) rfl dX5_init_46 ?_
              refine lv_iload_n hx hb dX5_init_49 rfl (lv_at hl 0 rfl) ?_
              refine cn_new (ci := 0) (fs := [.null, .int 0, .int 0, .int 0, .int 0, .int 0, .int 0, .int 0, .int 0]) (C := RX1) (T := TX1) (N := 9) hx hb hts (by decide +kernel) tyX1 tyX1_ok hown (hts (.classLink RX5 19 RX1) (by decide +kernel)) (hts (.instantiable RX1 9) (by decide +kernel)) (hts (.initialized RX1) (by decide +kernel)) hK hP hD hS hA rfl (fun j hj => by rcases (show j = 0 ∨ j = 1 ∨ j = 2 ∨ j = 3 ∨ j = 4 ∨ j = 5 ∨ j = 6 ∨ j = 7 ∨ j = 8 by omega) with rfl | rfl | rfl | rfl | rfl | rfl | rfl | rfl | rfl <;> rfl) (Nat.le_of_ble_eq_true rfl) (Nat.le_of_ble_eq_true rfl) dX5_init_50 (fun q_21 H hP hD hS => ?_)
              refine W.widen (k := 25) (n := 199) (Nat.le_of_ble_eq_true rfl) (Nat.le_of_ble_eq_true rfl) ?_
              have hP : va_P (dC, dI) vwCl ([(h0, .inr (4, [.ref q_1, .ref q_2, .ref q_3, .int 0, .int 0, .ref q_4, .int 0, .null, .null, .null, .null])), (q_4, .inl (cS, 12, .inr (.inr (.inr (.inr g_19))))), (q_21, .inr (0, [.null, .int 0, .int 0, .int 0, .int 0, .int 0, .int 0, .int 0, .int 0]))] ++ va_pl L f) H := hP
              have hD : va_D A ([(h0, .inr (4, [.ref q_1, .ref q_2, .ref q_3, .int 0, .int 0, .ref q_4, .int 0, .null, .null, .null, .null])), (q_4, .inl (cS, 12, .inr (.inr (.inr (.inr g_19))))), (q_21, .inr (0, [.null, .int 0, .int 0, .int 0, .int 0, .int 0, .int 0, .int 0, .int 0]))] ++ va_pl L f) := hD
              refine lv_dup hx hb dX5_init_53 rfl ?_
              have hPc := hP.sub (ws' := [(q_21, .inr (0, [.null, .int 0, .int 0, .int 0, .int 0, .int 0, .int 0, .int 0, .int 0]))]) [2] rfl
              have hDc := hD.sub (ws' := [(q_21, .inr (0, [.null, .int 0, .int 0, .int 0, .int 0, .int 0, .int 0, .int 0, .int 0]))]) [2] (by decide) rfl
              have hFc := va_free (wc := [(q_21, .inr (0, [.null, .int 0, .int 0, .int 0, .int 0, .int 0, .int 0, .int 0, .int 0]))]) hD hS hA [2] rfl
              refine va_callv (va_runIN (As := []) (rest := [.ref q_21, .int 5, .ref q_4]) ⟨hx, hb, hml, hown, hts⟩ (k_X1_init l dC dI cI cS cP cA H.size q_21) ⟨va_cnB (host := "DayBench") 0 hts gX5_init_X1_init_n25 rfl rfl rfl hnk.1 (hts (.initialized RX1) (by decide +kernel)) (by decide +kernel) ⟨Nat.le_of_ble_eq_true rfl, Nat.le_of_ble_eq_true rfl⟩, rfl, hts (.instanceMethod yX1_init) (by decide +kernel)⟩ ⟨nPre_blind, fun U hU hW => ⟨rfl, ⟨wPre_at hPc hK hDc hU hW, nk_warm hnk hW⟩⟩⟩ rfl rfl hl.1 rfl (lv_room (Nat.le_of_ble_eq_true rfl)) dX5_init_54 ⟨Nat.le_of_ble_eq_true rfl, Nat.le_of_ble_eq_true rfl⟩) hS (fun q9 _ h => hFc q9 h) hFc (fun u t H1 locs ht hvm hw hB hz1 hk1 hS => ?_)
              obtain ⟨hP1, hD1⟩ := hB
              rw [ht] at hP1
              obtain ⟨hI1, hT1, k_q_21⟩ := hw
              obtain ⟨hP, hD⟩ := va_joinQ (X := [(h0, .inr (4, [.ref q_1, .ref q_2, .ref q_3, .int 0, .int 0, .ref q_4, .int 0, .null, .null, .null, .null])), (q_4, .inl (cS, 12, .inr (.inr (.inr (.inr g_19))))), (q_21, .inr (0, [.null, .int 0, .int 0, .int 0, .int 0, .int 0, .int 0, .int 0, .int 0]))]) (cx := [(q_21, .inr (0, [.null, .int 0, .int 0, .int 0, .int 0, .int 0, .int 0, .int 0, .int 0]))]) (wr := [(h0, .inr (4, [.ref q_1, .ref q_2, .ref q_3, .int 0, .int 0, .ref q_4, .int 0, .null, .null, .null, .null])), (q_4, .inl (cS, 12, .inr (.inr (.inr (.inr g_19)))))]) (w1 := va_pl u.1 u.2.2) (pl := va_pl L f) hP hD [2] [0, 1] rfl rfl (by decide) (by decide) hk1 hFc hP1 hD1
              obtain ⟨L, tg, f, hP, hD, hI, hT, hg, hg1⟩ := cw_join hP hD hI hT hI1 hT1
              have k_q_1 := hg.at k_q_1
              have k_q_2 := hg.at k_q_2
              have k_q_3 := hg.at k_q_3
              have ra_q_4 := ra_q_4.up hg
              have k_q_21 := hg1.at k_q_21
              clear hP1 hD1 hz1 hk1 hFc hPc hDc ht hg hg1 hI1 hT1
              generalize H1 = H at hP hS ⊢
              refine W.widen (k := 28) (n := 222) (Nat.le_of_ble_eq_true rfl) (Nat.le_of_ble_eq_true rfl) ?_
              have hP : va_P (dC, dI) vwCl ([(h0, .inr (4, [.ref q_1, .ref q_2, .ref q_3, .int 0, .int 0, .ref q_4, .int 0, .null, .null, .null, .null])), (q_4, .inl (cS, 12, .inr (.inr (.inr (.inr g_19)))))] ++ va_pl L f) H := hP
              have hD : va_D A ([(h0, .inr (4, [.ref q_1, .ref q_2, .ref q_3, .int 0, .int 0, .ref q_4, .int 0, .null, .null, .null, .null])), (q_4, .inl (cS, 12, .inr (.inr (.inr (.inr g_19)))))] ++ va_pl L f) := hD
              refine cn_aast (r := (RX1, TX1, 9)) (ci := 0) (i := 5) hx hb hK hP hD hS hI 1 1 rfl rfl k_q_21 (fun _ _ _ => rfl) rfl (by unfold vp_in; decide) dX5_init_57 (fun H locs hP hD hS => ?_)
              have hP : va_P (dC, dI) vwCl ([(h0, .inr (4, [.ref q_1, .ref q_2, .ref q_3, .int 0, .int 0, .ref q_4, .int 0, .null, .null, .null, .null])), (q_4, .inl (cS, 12, .inr (.inr (.inr (.inr (va_up g_19 (5 : Int32).toNatClampNeg (some q_21)))))))] ++ va_pl L f) H := hP
              have hD : va_D A ([(h0, .inr (4, [.ref q_1, .ref q_2, .ref q_3, .int 0, .int 0, .ref q_4, .int 0, .null, .null, .null, .null])), (q_4, .inl (cS, 12, .inr (.inr (.inr (.inr (va_up g_19 (5 : Int32).toNatClampNeg (some q_21)))))))] ++ va_pl L f) := hD
              have ra_q_4 := ra_q_4.set (i := 5) (by decide) k_q_21
              generalize va_up g_19 (5 : Int32).toNatClampNeg (some q_21) = g_22 at hP hD ra_q_4
              refine lv_iinc (v := 6) (lv' := [(1, .int 6), (0, .ref h0)]) hx hb dX5_init_58 hl (k := 0) rfl (by decide) (by decide) rfl (fun ls hl => ?_)
              refine lv_goto (tgt := 39) hx hb dX5_init_61 (by decide) ?_
              refine lv_iload_n hx hb dX5_init_39 rfl (lv_at hl 0 rfl) ?_
              refine lv_bipush (v := 12) hx hb dX5_init_40 (by decide) ?_
              refine lv_icmp_ge (tgt := 64) hx hb dX5_init_42 (by decide) (fun h_23 => ?_) (fun h_23 => ?_)
              · exact (by first | exact absurd h_23 (by decide) | exact absurd (by decide) h_23)
              · refine lv_aload_n hx hb dX5_init_45 rfl (lv_at hl 1 rfl) ?_
                refine va_get (D := (dC, dI)) (ci := 4) (v := .ref q_4) (C := RX5) (T := TX5) (N := 11) hx hb hts (by decide +kernel) hown hK hP 0 rfl rfl 5 (by decide) (hts (.fieldLink RX5 21 "DayBench" "sayings" "[LDayBench$Saying;") (by decide +kernel)) (fun _ h9 => h9) rfl dX5_init_46 ?_
                refine lv_iload_n hx hb dX5_init_49 rfl (lv_at hl 0 rfl) ?_
                refine cn_new (ci := 0) (fs := [.null, .int 0, .int 0, .int 0, .int 0, .int 0, .int 0, .int 0, .int 0]) (C := RX1) (T := TX1) (N := 9) hx hb hts (by decide +kernel) tyX1 tyX1_ok hown (hts (.classLink RX5 19 RX1) (by decide +kernel)) (hts (.instantiable RX1 9) (by decide +kernel)) (hts (.initialized RX1) (by decide +kernel)) hK hP hD hS hA rfl (fun j hj => by rcases (show j = 0 ∨ j = 1 ∨ j = 2 ∨ j = 3 ∨ j = 4 ∨ j = 5 ∨ j = 6 ∨ j = 7 ∨ j = 8 by omega) with rfl | rfl | rfl | rfl | rfl | rfl | rfl | rfl | rfl <;> rfl) (Nat.le_of_ble_eq_true rfl) (Nat.le_of_ble_eq_true rfl) dX5_init_50 (fun q_24 H hP hD hS => ?_)
                refine W.widen (k := 29) (n := 231) (Nat.le_of_ble_eq_true rfl) (Nat.le_of_ble_eq_true rfl) ?_
                have hP : va_P (dC, dI) vwCl ([(h0, .inr (4, [.ref q_1, .ref q_2, .ref q_3, .int 0, .int 0, .ref q_4, .int 0, .null, .null, .null, .null])), (q_4, .inl (cS, 12, .inr (.inr (.inr (.inr g_22))))), (q_24, .inr (0, [.null, .int 0, .int 0, .int 0, .int 0, .int 0, .int 0, .int 0, .int 0]))] ++ va_pl L f) H := hP
                have hD : va_D A ([(h0, .inr (4, [.ref q_1, .ref q_2, .ref q_3, .int 0, .int 0, .ref q_4, .int 0, .null, .null, .null, .null])), (q_4, .inl (cS, 12, .inr (.inr (.inr (.inr g_22))))), (q_24, .inr (0, [.null, .int 0, .int 0, .int 0, .int 0, .int 0, .int 0, .int 0, .int 0]))] ++ va_pl L f) := hD
                refine lv_dup hx hb dX5_init_53 rfl ?_
                have hPc := hP.sub (ws' := [(q_24, .inr (0, [.null, .int 0, .int 0, .int 0, .int 0, .int 0, .int 0, .int 0, .int 0]))]) [2] rfl
                have hDc := hD.sub (ws' := [(q_24, .inr (0, [.null, .int 0, .int 0, .int 0, .int 0, .int 0, .int 0, .int 0, .int 0]))]) [2] (by decide) rfl
                have hFc := va_free (wc := [(q_24, .inr (0, [.null, .int 0, .int 0, .int 0, .int 0, .int 0, .int 0, .int 0, .int 0]))]) hD hS hA [2] rfl
                refine va_callv (va_runIN (As := []) (rest := [.ref q_24, .int 6, .ref q_4]) ⟨hx, hb, hml, hown, hts⟩ (k_X1_init l dC dI cI cS cP cA H.size q_24) ⟨va_cnB (host := "DayBench") 0 hts gX5_init_X1_init_n25 rfl rfl rfl hnk.1 (hts (.initialized RX1) (by decide +kernel)) (by decide +kernel) ⟨Nat.le_of_ble_eq_true rfl, Nat.le_of_ble_eq_true rfl⟩, rfl, hts (.instanceMethod yX1_init) (by decide +kernel)⟩ ⟨nPre_blind, fun U hU hW => ⟨rfl, ⟨wPre_at hPc hK hDc hU hW, nk_warm hnk hW⟩⟩⟩ rfl rfl hl.1 rfl (lv_room (Nat.le_of_ble_eq_true rfl)) dX5_init_54 ⟨Nat.le_of_ble_eq_true rfl, Nat.le_of_ble_eq_true rfl⟩) hS (fun q9 _ h => hFc q9 h) hFc (fun u t H1 locs ht hvm hw hB hz1 hk1 hS => ?_)
                obtain ⟨hP1, hD1⟩ := hB
                rw [ht] at hP1
                obtain ⟨hI1, hT1, k_q_24⟩ := hw
                obtain ⟨hP, hD⟩ := va_joinQ (X := [(h0, .inr (4, [.ref q_1, .ref q_2, .ref q_3, .int 0, .int 0, .ref q_4, .int 0, .null, .null, .null, .null])), (q_4, .inl (cS, 12, .inr (.inr (.inr (.inr g_22))))), (q_24, .inr (0, [.null, .int 0, .int 0, .int 0, .int 0, .int 0, .int 0, .int 0, .int 0]))]) (cx := [(q_24, .inr (0, [.null, .int 0, .int 0, .int 0, .int 0, .int 0, .int 0, .int 0, .int 0]))]) (wr := [(h0, .inr (4, [.ref q_1, .ref q_2, .ref q_3, .int 0, .int 0, .ref q_4, .int 0, .null, .null, .null, .null])), (q_4, .inl (cS, 12, .inr (.inr (.inr (.inr g_22)))))]) (w1 := va_pl u.1 u.2.2) (pl := va_pl L f) hP hD [2] [0, 1] rfl rfl (by decide) (by decide) hk1 hFc hP1 hD1
                obtain ⟨L, tg, f, hP, hD, hI, hT, hg, hg1⟩ := cw_join hP hD hI hT hI1 hT1
                have k_q_1 := hg.at k_q_1
                have k_q_2 := hg.at k_q_2
                have k_q_3 := hg.at k_q_3
                have ra_q_4 := ra_q_4.up hg
                have k_q_24 := hg1.at k_q_24
                clear hP1 hD1 hz1 hk1 hFc hPc hDc ht hg hg1 hI1 hT1
                generalize H1 = H at hP hS ⊢
                refine W.widen (k := 32) (n := 254) (Nat.le_of_ble_eq_true rfl) (Nat.le_of_ble_eq_true rfl) ?_
                have hP : va_P (dC, dI) vwCl ([(h0, .inr (4, [.ref q_1, .ref q_2, .ref q_3, .int 0, .int 0, .ref q_4, .int 0, .null, .null, .null, .null])), (q_4, .inl (cS, 12, .inr (.inr (.inr (.inr g_22)))))] ++ va_pl L f) H := hP
                have hD : va_D A ([(h0, .inr (4, [.ref q_1, .ref q_2, .ref q_3, .int 0, .int 0, .ref q_4, .int 0, .null, .null, .null, .null])), (q_4, .inl (cS, 12, .inr (.inr (.inr (.inr g_22)))))] ++ va_pl L f) := hD
                refine cn_aast (r := (RX1, TX1, 9)) (ci := 0) (i := 6) hx hb hK hP hD hS hI 1 1 rfl rfl k_q_24 (fun _ _ _ => rfl) rfl (by unfold vp_in; decide) dX5_init_57 (fun H locs hP hD hS => ?_)
                have hP : va_P (dC, dI) vwCl ([(h0, .inr (4, [.ref q_1, .ref q_2, .ref q_3, .int 0, .int 0, .ref q_4, .int 0, .null, .null, .null, .null])), (q_4, .inl (cS, 12, .inr (.inr (.inr (.inr (va_up g_22 (6 : Int32).toNatClampNeg (some q_24)))))))] ++ va_pl L f) H := hP
                have hD : va_D A ([(h0, .inr (4, [.ref q_1, .ref q_2, .ref q_3, .int 0, .int 0, .ref q_4, .int 0, .null, .null, .null, .null])), (q_4, .inl (cS, 12, .inr (.inr (.inr (.inr (va_up g_22 (6 : Int32).toNatClampNeg (some q_24)))))))] ++ va_pl L f) := hD
                have ra_q_4 := ra_q_4.set (i := 6) (by decide) k_q_24
                generalize va_up g_22 (6 : Int32).toNatClampNeg (some q_24) = g_25 at hP hD ra_q_4
                refine lv_iinc (v := 7) (lv' := [(1, .int 7), (0, .ref h0)]) hx hb dX5_init_58 hl (k := 0) rfl (by decide) (by decide) rfl (fun ls hl => ?_)
                refine lv_goto (tgt := 39) hx hb dX5_init_61 (by decide) ?_
                refine lv_iload_n hx hb dX5_init_39 rfl (lv_at hl 0 rfl) ?_
                refine lv_bipush (v := 12) hx hb dX5_init_40 (by decide) ?_
                refine lv_icmp_ge (tgt := 64) hx hb dX5_init_42 (by decide) (fun h_26 => ?_) (fun h_26 => ?_)
                · exact (by first | exact absurd h_26 (by decide) | exact absurd (by decide) h_26)
                · refine lv_aload_n hx hb dX5_init_45 rfl (lv_at hl 1 rfl) ?_
                  refine va_get (D := (dC, dI)) (ci := 4) (v := .ref q_4) (C := RX5) (T := TX5) (N := 11) hx hb hts (by decide +kernel) hown hK hP 0 rfl rfl 5 (by decide) (hts (.fieldLink RX5 21 "DayBench" "sayings" "[LDayBench$Saying;") (by decide +kernel)) (fun _ h9 => h9) rfl dX5_init_46 ?_
                  refine lv_iload_n hx hb dX5_init_49 rfl (lv_at hl 0 rfl) ?_
                  refine cn_new (ci := 0) (fs := [.null, .int 0, .int 0, .int 0, .int 0, .int 0, .int 0, .int 0, .int 0]) (C := RX1) (T := TX1) (N := 9) hx hb hts (by decide +kernel) tyX1 tyX1_ok hown (hts (.classLink RX5 19 RX1) (by decide +kernel)) (hts (.instantiable RX1 9) (by decide +kernel)) (hts (.initialized RX1) (by decide +kernel)) hK hP hD hS hA rfl (fun j hj => by rcases (show j = 0 ∨ j = 1 ∨ j = 2 ∨ j = 3 ∨ j = 4 ∨ j = 5 ∨ j = 6 ∨ j = 7 ∨ j = 8 by omega) with rfl | rfl | rfl | rfl | rfl | rfl | rfl | rfl | rfl <;> rfl) (Nat.le_of_ble_eq_true rfl) (Nat.le_of_ble_eq_true rfl) dX5_init_50 (fun q_27 H hP hD hS => ?_)
                  refine W.widen (k := 33) (n := 263) (Nat.le_of_ble_eq_true rfl) (Nat.le_of_ble_eq_true rfl) ?_
                  have hP : va_P (dC, dI) vwCl ([(h0, .inr (4, [.ref q_1, .ref q_2, .ref q_3, .int 0, .int 0, .ref q_4, .int 0, .null, .null, .null, .null])), (q_4, .inl (cS, 12, .inr (.inr (.inr (.inr g_25))))), (q_27, .inr (0, [.null, .int 0, .int 0, .int 0, .int 0, .int 0, .int 0, .int 0, .int 0]))] ++ va_pl L f) H := hP
                  have hD : va_D A ([(h0, .inr (4, [.ref q_1, .ref q_2, .ref q_3, .int 0, .int 0, .ref q_4, .int 0, .null, .null, .null, .null])), (q_4, .inl (cS, 12, .inr (.inr (.inr (.inr g_25))))), (q_27, .inr (0, [.null, .int 0, .int 0, .int 0, .int 0, .int 0, .int 0, .int 0, .int 0]))] ++ va_pl L f) := hD
                  refine lv_dup hx hb dX5_init_53 rfl ?_
                  have hPc := hP.sub (ws' := [(q_27, .inr (0, [.null, .int 0, .int 0, .int 0, .int 0, .int 0, .int 0, .int 0, .int 0]))]) [2] rfl
                  have hDc := hD.sub (ws' := [(q_27, .inr (0, [.null, .int 0, .int 0, .int 0, .int 0, .int 0, .int 0, .int 0, .int 0]))]) [2] (by decide) rfl
                  have hFc := va_free (wc := [(q_27, .inr (0, [.null, .int 0, .int 0, .int 0, .int 0, .int 0, .int 0, .int 0, .int 0]))]) hD hS hA [2] rfl
                  refine va_callv (va_runIN (As := []) (rest := [.ref q_27, .int 7, .ref q_4]) ⟨hx, hb, hml, hown, hts⟩ (k_X1_init l dC dI cI cS cP cA H.size q_27) ⟨va_cnB (host := "DayBench") 0 hts gX5_init_X1_init_n25 rfl rfl rfl hnk.1 (hts (.initialized RX1) (by decide +kernel)) (by decide +kernel) ⟨Nat.le_of_ble_eq_true rfl, Nat.le_of_ble_eq_true rfl⟩, rfl, hts (.instanceMethod yX1_init) (by decide +kernel)⟩ ⟨nPre_blind, fun U hU hW => ⟨rfl, ⟨wPre_at hPc hK hDc hU hW, nk_warm hnk hW⟩⟩⟩ rfl rfl hl.1 rfl (lv_room (Nat.le_of_ble_eq_true rfl)) dX5_init_54 ⟨Nat.le_of_ble_eq_true rfl, Nat.le_of_ble_eq_true rfl⟩) hS (fun q9 _ h => hFc q9 h) hFc (fun u t H1 locs ht hvm hw hB hz1 hk1 hS => ?_)
                  obtain ⟨hP1, hD1⟩ := hB
                  rw [ht] at hP1
                  obtain ⟨hI1, hT1, k_q_27⟩ := hw
                  obtain ⟨hP, hD⟩ := va_joinQ (X := [(h0, .inr (4, [.ref q_1, .ref q_2, .ref q_3, .int 0, .int 0, .ref q_4, .int 0, .null, .null, .null, .null])), (q_4, .inl (cS, 12, .inr (.inr (.inr (.inr g_25))))), (q_27, .inr (0, [.null, .int 0, .int 0, .int 0, .int 0, .int 0, .int 0, .int 0, .int 0]))]) (cx := [(q_27, .inr (0, [.null, .int 0, .int 0, .int 0, .int 0, .int 0, .int 0, .int 0, .int 0]))]) (wr := [(h0, .inr (4, [.ref q_1, .ref q_2, .ref q_3, .int 0, .int 0, .ref q_4, .int 0, .null, .null, .null, .null])), (q_4, .inl (cS, 12, .inr (.inr (.inr (.inr g_25)))))]) (w1 := va_pl u.1 u.2.2) (pl := va_pl L f) hP hD [2] [0, 1] rfl rfl (by decide) (by decide) hk1 hFc hP1 hD1
                  obtain ⟨L, tg, f, hP, hD, hI, hT, hg, hg1⟩ := cw_join hP hD hI hT hI1 hT1
                  have k_q_1 := hg.at k_q_1
                  have k_q_2 := hg.at k_q_2
                  have k_q_3 := hg.at k_q_3
                  have ra_q_4 := ra_q_4.up hg
                  have k_q_27 := hg1.at k_q_27
                  clear hP1 hD1 hz1 hk1 hFc hPc hDc ht hg hg1 hI1 hT1
                  generalize H1 = H at hP hS ⊢
                  refine W.widen (k := 36) (n := 286) (Nat.le_of_ble_eq_true rfl) (Nat.le_of_ble_eq_true rfl) ?_
                  have hP : va_P (dC, dI) vwCl ([(h0, .inr (4, [.ref q_1, .ref q_2, .ref q_3, .int 0, .int 0, .ref q_4, .int 0, .null, .null, .null, .null])), (q_4, .inl (cS, 12, .inr (.inr (.inr (.inr g_25)))))] ++ va_pl L f) H := hP
                  have hD : va_D A ([(h0, .inr (4, [.ref q_1, .ref q_2, .ref q_3, .int 0, .int 0, .ref q_4, .int 0, .null, .null, .null, .null])), (q_4, .inl (cS, 12, .inr (.inr (.inr (.inr g_25)))))] ++ va_pl L f) := hD
                  refine cn_aast (r := (RX1, TX1, 9)) (ci := 0) (i := 7) hx hb hK hP hD hS hI 1 1 rfl rfl k_q_27 (fun _ _ _ => rfl) rfl (by unfold vp_in; decide) dX5_init_57 (fun H locs hP hD hS => ?_)
                  have hP : va_P (dC, dI) vwCl ([(h0, .inr (4, [.ref q_1, .ref q_2, .ref q_3, .int 0, .int 0, .ref q_4, .int 0, .null, .null, .null, .null])), (q_4, .inl (cS, 12, .inr (.inr (.inr (.inr (va_up g_25 (7 : Int32).toNatClampNeg (some q_27)))))))] ++ va_pl L f) H := hP
                  have hD : va_D A ([(h0, .inr (4, [.ref q_1, .ref q_2, .ref q_3, .int 0, .int 0, .ref q_4, .int 0, .null, .null, .null, .null])), (q_4, .inl (cS, 12, .inr (.inr (.inr (.inr (va_up g_25 (7 : Int32).toNatClampNeg (some q_27)))))))] ++ va_pl L f) := hD
                  have ra_q_4 := ra_q_4.set (i := 7) (by decide) k_q_27
                  generalize va_up g_25 (7 : Int32).toNatClampNeg (some q_27) = g_28 at hP hD ra_q_4
                  refine lv_iinc (v := 8) (lv' := [(1, .int 8), (0, .ref h0)]) hx hb dX5_init_58 hl (k := 0) rfl (by decide) (by decide) rfl (fun ls hl => ?_)
                  refine lv_goto (tgt := 39) hx hb dX5_init_61 (by decide) ?_
                  refine lv_iload_n hx hb dX5_init_39 rfl (lv_at hl 0 rfl) ?_
                  refine lv_bipush (v := 12) hx hb dX5_init_40 (by decide) ?_
                  refine lv_icmp_ge (tgt := 64) hx hb dX5_init_42 (by decide) (fun h_29 => ?_) (fun h_29 => ?_)
                  · exact (by first | exact absurd h_29 (by decide) | exact absurd (by decide) h_29)
                  · refine lv_aload_n hx hb dX5_init_45 rfl (lv_at hl 1 rfl) ?_
                    refine va_get (D := (dC, dI)) (ci := 4) (v := .ref q_4) (C := RX5) (T := TX5) (N := 11) hx hb hts (by decide +kernel) hown hK hP 0 rfl rfl 5 (by decide) (hts (.fieldLink RX5 21 "DayBench" "sayings" "[LDayBench$Saying;") (by decide +kernel)) (fun _ h9 => h9) rfl dX5_init_46 ?_
                    refine lv_iload_n hx hb dX5_init_49 rfl (lv_at hl 0 rfl) ?_
                    refine cn_new (ci := 0) (fs := [.null, .int 0, .int 0, .int 0, .int 0, .int 0, .int 0, .int 0, .int 0]) (C := RX1) (T := TX1) (N := 9) hx hb hts (by decide +kernel) tyX1 tyX1_ok hown (hts (.classLink RX5 19 RX1) (by decide +kernel)) (hts (.instantiable RX1 9) (by decide +kernel)) (hts (.initialized RX1) (by decide +kernel)) hK hP hD hS hA rfl (fun j hj => by rcases (show j = 0 ∨ j = 1 ∨ j = 2 ∨ j = 3 ∨ j = 4 ∨ j = 5 ∨ j = 6 ∨ j = 7 ∨ j = 8 by omega) with rfl | rfl | rfl | rfl | rfl | rfl | rfl | rfl | rfl <;> rfl) (Nat.le_of_ble_eq_true rfl) (Nat.le_of_ble_eq_true rfl) dX5_init_50 (fun q_30 H hP hD hS => ?_)
                    refine W.widen (k := 37) (n := 295) (Nat.le_of_ble_eq_true rfl) (Nat.le_of_ble_eq_true rfl) ?_
                    have hP : va_P (dC, dI) vwCl ([(h0, .inr (4, [.ref q_1, .ref q_2, .ref q_3, .int 0, .int 0, .ref q_4, .int 0, .null, .null, .null, .null])), (q_4, .inl (cS, 12, .inr (.inr (.inr (.inr g_28))))), (q_30, .inr (0, [.null, .int 0, .int 0, .int 0, .int 0, .int 0, .int 0, .int 0, .int 0]))] ++ va_pl L f) H := hP
                    have hD : va_D A ([(h0, .inr (4, [.ref q_1, .ref q_2, .ref q_3, .int 0, .int 0, .ref q_4, .int 0, .null, .null, .null, .null])), (q_4, .inl (cS, 12, .inr (.inr (.inr (.inr g_28))))), (q_30, .inr (0, [.null, .int 0, .int 0, .int 0, .int 0, .int 0, .int 0, .int 0, .int 0]))] ++ va_pl L f) := hD
                    refine lv_dup hx hb dX5_init_53 rfl ?_
                    have hPc := hP.sub (ws' := [(q_30, .inr (0, [.null, .int 0, .int 0, .int 0, .int 0, .int 0, .int 0, .int 0, .int 0]))]) [2] rfl
                    have hDc := hD.sub (ws' := [(q_30, .inr (0, [.null, .int 0, .int 0, .int 0, .int 0, .int 0, .int 0, .int 0, .int 0]))]) [2] (by decide) rfl
                    have hFc := va_free (wc := [(q_30, .inr (0, [.null, .int 0, .int 0, .int 0, .int 0, .int 0, .int 0, .int 0, .int 0]))]) hD hS hA [2] rfl
                    refine va_callv (va_runIN (As := []) (rest := [.ref q_30, .int 8, .ref q_4]) ⟨hx, hb, hml, hown, hts⟩ (k_X1_init l dC dI cI cS cP cA H.size q_30) ⟨va_cnB (host := "DayBench") 0 hts gX5_init_X1_init_n25 rfl rfl rfl hnk.1 (hts (.initialized RX1) (by decide +kernel)) (by decide +kernel) ⟨Nat.le_of_ble_eq_true rfl, Nat.le_of_ble_eq_true rfl⟩, rfl, hts (.instanceMethod yX1_init) (by decide +kernel)⟩ ⟨nPre_blind, fun U hU hW => ⟨rfl, ⟨wPre_at hPc hK hDc hU hW, nk_warm hnk hW⟩⟩⟩ rfl rfl hl.1 rfl (lv_room (Nat.le_of_ble_eq_true rfl)) dX5_init_54 ⟨Nat.le_of_ble_eq_true rfl, Nat.le_of_ble_eq_true rfl⟩) hS (fun q9 _ h => hFc q9 h) hFc (fun u t H1 locs ht hvm hw hB hz1 hk1 hS => ?_)
                    obtain ⟨hP1, hD1⟩ := hB
                    rw [ht] at hP1
                    obtain ⟨hI1, hT1, k_q_30⟩ := hw
                    obtain ⟨hP, hD⟩ := va_joinQ (X := [(h0, .inr (4, [.ref q_1, .ref q_2, .ref q_3, .int 0, .int 0, .ref q_4, .int 0, .null, .null, .null, .null])), (q_4, .inl (cS, 12, .inr (.inr (.inr (.inr g_28))))), (q_30, .inr (0, [.null, .int 0, .int 0, .int 0, .int 0, .int 0, .int 0, .int 0, .int 0]))]) (cx := [(q_30, .inr (0, [.null, .int 0, .int 0, .int 0, .int 0, .int 0, .int 0, .int 0, .int 0]))]) (wr := [(h0, .inr (4, [.ref q_1, .ref q_2, .ref q_3, .int 0, .int 0, .ref q_4, .int 0, .null, .null, .null, .null])), (q_4, .inl (cS, 12, .inr (.inr (.inr (.inr g_28)))))]) (w1 := va_pl u.1 u.2.2) (pl := va_pl L f) hP hD [2] [0, 1] rfl rfl (by decide) (by decide) hk1 hFc hP1 hD1
                    obtain ⟨L, tg, f, hP, hD, hI, hT, hg, hg1⟩ := cw_join hP hD hI hT hI1 hT1
                    have k_q_1 := hg.at k_q_1
                    have k_q_2 := hg.at k_q_2
                    have k_q_3 := hg.at k_q_3
                    have ra_q_4 := ra_q_4.up hg
                    have k_q_30 := hg1.at k_q_30
                    clear hP1 hD1 hz1 hk1 hFc hPc hDc ht hg hg1 hI1 hT1
                    generalize H1 = H at hP hS ⊢
                    refine W.widen (k := 40) (n := 318) (Nat.le_of_ble_eq_true rfl) (Nat.le_of_ble_eq_true rfl) ?_
                    have hP : va_P (dC, dI) vwCl ([(h0, .inr (4, [.ref q_1, .ref q_2, .ref q_3, .int 0, .int 0, .ref q_4, .int 0, .null, .null, .null, .null])), (q_4, .inl (cS, 12, .inr (.inr (.inr (.inr g_28)))))] ++ va_pl L f) H := hP
                    have hD : va_D A ([(h0, .inr (4, [.ref q_1, .ref q_2, .ref q_3, .int 0, .int 0, .ref q_4, .int 0, .null, .null, .null, .null])), (q_4, .inl (cS, 12, .inr (.inr (.inr (.inr g_28)))))] ++ va_pl L f) := hD
                    refine cn_aast (r := (RX1, TX1, 9)) (ci := 0) (i := 8) hx hb hK hP hD hS hI 1 1 rfl rfl k_q_30 (fun _ _ _ => rfl) rfl (by unfold vp_in; decide) dX5_init_57 (fun H locs hP hD hS => ?_)
                    have hP : va_P (dC, dI) vwCl ([(h0, .inr (4, [.ref q_1, .ref q_2, .ref q_3, .int 0, .int 0, .ref q_4, .int 0, .null, .null, .null, .null])), (q_4, .inl (cS, 12, .inr (.inr (.inr (.inr (va_up g_28 (8 : Int32).toNatClampNeg (some q_30)))))))] ++ va_pl L f) H := hP
                    have hD : va_D A ([(h0, .inr (4, [.ref q_1, .ref q_2, .ref q_3, .int 0, .int 0, .ref q_4, .int 0, .null, .null, .null, .null])), (q_4, .inl (cS, 12, .inr (.inr (.inr (.inr (va_up g_28 (8 : Int32).toNatClampNeg (some q_30)))))))] ++ va_pl L f) := hD
                    have ra_q_4 := ra_q_4.set (i := 8) (by decide) k_q_30
                    generalize va_up g_28 (8 : Int32).toNatClampNeg (some q_30) = g_31 at hP hD ra_q_4
                    refine lv_iinc (v := 9) (lv' := [(1, .int 9), (0, .ref h0)]) hx hb dX5_init_58 hl (k := 0) rfl (by decide) (by decide) rfl (fun ls hl => ?_)
                    refine lv_goto (tgt := 39) hx hb dX5_init_61 (by decide) ?_
                    refine lv_iload_n hx hb dX5_init_39 rfl (lv_at hl 0 rfl) ?_
                    refine lv_bipush (v := 12) hx hb dX5_init_40 (by decide) ?_
                    refine lv_icmp_ge (tgt := 64) hx hb dX5_init_42 (by decide) (fun h_32 => ?_) (fun h_32 => ?_)
                    · exact (by first | exact absurd h_32 (by decide) | exact absurd (by decide) h_32)
                    · refine lv_aload_n hx hb dX5_init_45 rfl (lv_at hl 1 rfl) ?_
                      refine va_get (D := (dC, dI)) (ci := 4) (v := .ref q_4) (C := RX5) (T := TX5) (N := 11) hx hb hts (by decide +kernel) hown hK hP 0 rfl rfl 5 (by decide) (hts (.fieldLink RX5 21 "DayBench" "sayings" "[LDayBench$Saying;") (by decide +kernel)) (fun _ h9 => h9) rfl dX5_init_46 ?_
                      refine lv_iload_n hx hb dX5_init_49 rfl (lv_at hl 0 rfl) ?_
                      refine cn_new (ci := 0) (fs := [.null, .int 0, .int 0, .int 0, .int 0, .int 0, .int 0, .int 0, .int 0]) (C := RX1) (T := TX1) (N := 9) hx hb hts (by decide +kernel) tyX1 tyX1_ok hown (hts (.classLink RX5 19 RX1) (by decide +kernel)) (hts (.instantiable RX1 9) (by decide +kernel)) (hts (.initialized RX1) (by decide +kernel)) hK hP hD hS hA rfl (fun j hj => by rcases (show j = 0 ∨ j = 1 ∨ j = 2 ∨ j = 3 ∨ j = 4 ∨ j = 5 ∨ j = 6 ∨ j = 7 ∨ j = 8 by omega) with rfl | rfl | rfl | rfl | rfl | rfl | rfl | rfl | rfl <;> rfl) (Nat.le_of_ble_eq_true rfl) (Nat.le_of_ble_eq_true rfl) dX5_init_50 (fun q_33 H hP hD hS => ?_)
                      refine W.widen (k := 41) (n := 327) (Nat.le_of_ble_eq_true rfl) (Nat.le_of_ble_eq_true rfl) ?_
                      have hP : va_P (dC, dI) vwCl ([(h0, .inr (4, [.ref q_1, .ref q_2, .ref q_3, .int 0, .int 0, .ref q_4, .int 0, .null, .null, .null, .null])), (q_4, .inl (cS, 12, .inr (.inr (.inr (.inr g_31))))), (q_33, .inr (0, [.null, .int 0, .int 0, .int 0, .int 0, .int 0, .int 0, .int 0, .int 0]))] ++ va_pl L f) H := hP
                      have hD : va_D A ([(h0, .inr (4, [.ref q_1, .ref q_2, .ref q_3, .int 0, .int 0, .ref q_4, .int 0, .null, .null, .null, .null])), (q_4, .inl (cS, 12, .inr (.inr (.inr (.inr g_31))))), (q_33, .inr (0, [.null, .int 0, .int 0, .int 0, .int 0, .int 0, .int 0, .int 0, .int 0]))] ++ va_pl L f) := hD
                      refine lv_dup hx hb dX5_init_53 rfl ?_
                      have hPc := hP.sub (ws' := [(q_33, .inr (0, [.null, .int 0, .int 0, .int 0, .int 0, .int 0, .int 0, .int 0, .int 0]))]) [2] rfl
                      have hDc := hD.sub (ws' := [(q_33, .inr (0, [.null, .int 0, .int 0, .int 0, .int 0, .int 0, .int 0, .int 0, .int 0]))]) [2] (by decide) rfl
                      have hFc := va_free (wc := [(q_33, .inr (0, [.null, .int 0, .int 0, .int 0, .int 0, .int 0, .int 0, .int 0, .int 0]))]) hD hS hA [2] rfl
                      refine va_callv (va_runIN (As := []) (rest := [.ref q_33, .int 9, .ref q_4]) ⟨hx, hb, hml, hown, hts⟩ (k_X1_init l dC dI cI cS cP cA H.size q_33) ⟨va_cnB (host := "DayBench") 0 hts gX5_init_X1_init_n25 rfl rfl rfl hnk.1 (hts (.initialized RX1) (by decide +kernel)) (by decide +kernel) ⟨Nat.le_of_ble_eq_true rfl, Nat.le_of_ble_eq_true rfl⟩, rfl, hts (.instanceMethod yX1_init) (by decide +kernel)⟩ ⟨nPre_blind, fun U hU hW => ⟨rfl, ⟨wPre_at hPc hK hDc hU hW, nk_warm hnk hW⟩⟩⟩ rfl rfl hl.1 rfl (lv_room (Nat.le_of_ble_eq_true rfl)) dX5_init_54 ⟨Nat.le_of_ble_eq_true rfl, Nat.le_of_ble_eq_true rfl⟩) hS (fun q9 _ h => hFc q9 h) hFc (fun u t H1 locs ht hvm hw hB hz1 hk1 hS => ?_)
                      obtain ⟨hP1, hD1⟩ := hB
                      rw [ht] at hP1
                      obtain ⟨hI1, hT1, k_q_33⟩ := hw
                      obtain ⟨hP, hD⟩ := va_joinQ (X := [(h0, .inr (4, [.ref q_1, .ref q_2, .ref q_3, .int 0, .int 0, .ref q_4, .int 0, .null, .null, .null, .null])), (q_4, .inl (cS, 12, .inr (.inr (.inr (.inr g_31))))), (q_33, .inr (0, [.null, .int 0, .int 0, .int 0, .int 0, .int 0, .int 0, .int 0, .int 0]))]) (cx := [(q_33, .inr (0, [.null, .int 0, .int 0, .int 0, .int 0, .int 0, .int 0, .int 0, .int 0]))]) (wr := [(h0, .inr (4, [.ref q_1, .ref q_2, .ref q_3, .int 0, .int 0, .ref q_4, .int 0, .null, .null, .null, .null])), (q_4, .inl (cS, 12, .inr (.inr (.inr (.inr g_31)))))]) (w1 := va_pl u.1 u.2.2) (pl := va_pl L f) hP hD [2] [0, 1] rfl rfl (by decide) (by decide) hk1 hFc hP1 hD1
                      obtain ⟨L, tg, f, hP, hD, hI, hT, hg, hg1⟩ := cw_join hP hD hI hT hI1 hT1
                      have k_q_1 := hg.at k_q_1
                      have k_q_2 := hg.at k_q_2
                      have k_q_3 := hg.at k_q_3
                      have ra_q_4 := ra_q_4.up hg
                      have k_q_33 := hg1.at k_q_33
                      clear hP1 hD1 hz1 hk1 hFc hPc hDc ht hg hg1 hI1 hT1
                      generalize H1 = H at hP hS ⊢
                      refine W.widen (k := 44) (n := 350) (Nat.le_of_ble_eq_true rfl) (Nat.le_of_ble_eq_true rfl) ?_
                      have hP : va_P (dC, dI) vwCl ([(h0, .inr (4, [.ref q_1, .ref q_2, .ref q_3, .int 0, .int 0, .ref q_4, .int 0, .null, .null, .null, .null])), (q_4, .inl (cS, 12, .inr (.inr (.inr (.inr g_31)))))] ++ va_pl L f) H := hP
                      have hD : va_D A ([(h0, .inr (4, [.ref q_1, .ref q_2, .ref q_3, .int 0, .int 0, .ref q_4, .int 0, .null, .null, .null, .null])), (q_4, .inl (cS, 12, .inr (.inr (.inr (.inr g_31)))))] ++ va_pl L f) := hD
                      refine cn_aast (r := (RX1, TX1, 9)) (ci := 0) (i := 9) hx hb hK hP hD hS hI 1 1 rfl rfl k_q_33 (fun _ _ _ => rfl) rfl (by unfold vp_in; decide) dX5_init_57 (fun H locs hP hD hS => ?_)
                      have hP : va_P (dC, dI) vwCl ([(h0, .inr (4, [.ref q_1, .ref q_2, .ref q_3, .int 0, .int 0, .ref q_4, .int 0, .null, .null, .null, .null])), (q_4, .inl (cS, 12, .inr (.inr (.inr (.inr (va_up g_31 (9 : Int32).toNatClampNeg (some q_33)))))))] ++ va_pl L f) H := hP
                      have hD : va_D A ([(h0, .inr (4, [.ref q_1, .ref q_2, .ref q_3, .int 0, .int 0, .ref q_4, .int 0, .null, .null, .null, .null])), (q_4, .inl (cS, 12, .inr (.inr (.inr (.inr (va_up g_31 (9 : Int32).toNatClampNeg (some q_33)))))))] ++ va_pl L f) := hD
                      have ra_q_4 := ra_q_4.set (i := 9) (by decide) k_q_33
                      generalize va_up g_31 (9 : Int32).toNatClampNeg (some q_33) = g_34 at hP hD ra_q_4
                      refine lv_iinc (v := 10) (lv' := [(1, .int 10), (0, .ref h0)]) hx hb dX5_init_58 hl (k := 0) rfl (by decide) (by decide) rfl (fun ls hl => ?_)
                      refine lv_goto (tgt := 39) hx hb dX5_init_61 (by decide) ?_
                      refine lv_iload_n hx hb dX5_init_39 rfl (lv_at hl 0 rfl) ?_
                      refine lv_bipush (v := 12) hx hb dX5_init_40 (by decide) ?_
                      refine lv_icmp_ge (tgt := 64) hx hb dX5_init_42 (by decide) (fun h_35 => ?_) (fun h_35 => ?_)
                      · exact (by first | exact absurd h_35 (by decide) | exact absurd (by decide) h_35)
                      · refine lv_aload_n hx hb dX5_init_45 rfl (lv_at hl 1 rfl) ?_
                        refine va_get (D := (dC, dI)) (ci := 4) (v := .ref q_4) (C := RX5) (T := TX5) (N := 11) hx hb hts (by decide +kernel) hown hK hP 0 rfl rfl 5 (by decide) (hts (.fieldLink RX5 21 "DayBench" "sayings" "[LDayBench$Saying;") (by decide +kernel)) (fun _ h9 => h9) rfl dX5_init_46 ?_
                        refine lv_iload_n hx hb dX5_init_49 rfl (lv_at hl 0 rfl) ?_
                        refine cn_new (ci := 0) (fs := [.null, .int 0, .int 0, .int 0, .int 0, .int 0, .int 0, .int 0, .int 0]) (C := RX1) (T := TX1) (N := 9) hx hb hts (by decide +kernel) tyX1 tyX1_ok hown (hts (.classLink RX5 19 RX1) (by decide +kernel)) (hts (.instantiable RX1 9) (by decide +kernel)) (hts (.initialized RX1) (by decide +kernel)) hK hP hD hS hA rfl (fun j hj => by rcases (show j = 0 ∨ j = 1 ∨ j = 2 ∨ j = 3 ∨ j = 4 ∨ j = 5 ∨ j = 6 ∨ j = 7 ∨ j = 8 by omega) with rfl | rfl | rfl | rfl | rfl | rfl | rfl | rfl | rfl <;> rfl) (Nat.le_of_ble_eq_true rfl) (Nat.le_of_ble_eq_true rfl) dX5_init_50 (fun q_36 H hP hD hS => ?_)
                        refine W.widen (k := 45) (n := 359) (Nat.le_of_ble_eq_true rfl) (Nat.le_of_ble_eq_true rfl) ?_
                        have hP : va_P (dC, dI) vwCl ([(h0, .inr (4, [.ref q_1, .ref q_2, .ref q_3, .int 0, .int 0, .ref q_4, .int 0, .null, .null, .null, .null])), (q_4, .inl (cS, 12, .inr (.inr (.inr (.inr g_34))))), (q_36, .inr (0, [.null, .int 0, .int 0, .int 0, .int 0, .int 0, .int 0, .int 0, .int 0]))] ++ va_pl L f) H := hP
                        have hD : va_D A ([(h0, .inr (4, [.ref q_1, .ref q_2, .ref q_3, .int 0, .int 0, .ref q_4, .int 0, .null, .null, .null, .null])), (q_4, .inl (cS, 12, .inr (.inr (.inr (.inr g_34))))), (q_36, .inr (0, [.null, .int 0, .int 0, .int 0, .int 0, .int 0, .int 0, .int 0, .int 0]))] ++ va_pl L f) := hD
                        refine lv_dup hx hb dX5_init_53 rfl ?_
                        have hPc := hP.sub (ws' := [(q_36, .inr (0, [.null, .int 0, .int 0, .int 0, .int 0, .int 0, .int 0, .int 0, .int 0]))]) [2] rfl
                        have hDc := hD.sub (ws' := [(q_36, .inr (0, [.null, .int 0, .int 0, .int 0, .int 0, .int 0, .int 0, .int 0, .int 0]))]) [2] (by decide) rfl
                        have hFc := va_free (wc := [(q_36, .inr (0, [.null, .int 0, .int 0, .int 0, .int 0, .int 0, .int 0, .int 0, .int 0]))]) hD hS hA [2] rfl
                        refine va_callv (va_runIN (As := []) (rest := [.ref q_36, .int 10, .ref q_4]) ⟨hx, hb, hml, hown, hts⟩ (k_X1_init l dC dI cI cS cP cA H.size q_36) ⟨va_cnB (host := "DayBench") 0 hts gX5_init_X1_init_n25 rfl rfl rfl hnk.1 (hts (.initialized RX1) (by decide +kernel)) (by decide +kernel) ⟨Nat.le_of_ble_eq_true rfl, Nat.le_of_ble_eq_true rfl⟩, rfl, hts (.instanceMethod yX1_init) (by decide +kernel)⟩ ⟨nPre_blind, fun U hU hW => ⟨rfl, ⟨wPre_at hPc hK hDc hU hW, nk_warm hnk hW⟩⟩⟩ rfl rfl hl.1 rfl (lv_room (Nat.le_of_ble_eq_true rfl)) dX5_init_54 ⟨Nat.le_of_ble_eq_true rfl, Nat.le_of_ble_eq_true rfl⟩) hS (fun q9 _ h => hFc q9 h) hFc (fun u t H1 locs ht hvm hw hB hz1 hk1 hS => ?_)
                        obtain ⟨hP1, hD1⟩ := hB
                        rw [ht] at hP1
                        obtain ⟨hI1, hT1, k_q_36⟩ := hw
                        obtain ⟨hP, hD⟩ := va_joinQ (X := [(h0, .inr (4, [.ref q_1, .ref q_2, .ref q_3, .int 0, .int 0, .ref q_4, .int 0, .null, .null, .null, .null])), (q_4, .inl (cS, 12, .inr (.inr (.inr (.inr g_34))))), (q_36, .inr (0, [.null, .int 0, .int 0, .int 0, .int 0, .int 0, .int 0, .int 0, .int 0]))]) (cx := [(q_36, .inr (0, [.null, .int 0, .int 0, .int 0, .int 0, .int 0, .int 0, .int 0, .int 0]))]) (wr := [(h0, .inr (4, [.ref q_1, .ref q_2, .ref q_3, .int 0, .int 0, .ref q_4, .int 0, .null, .null, .null, .null])), (q_4, .inl (cS, 12, .inr (.inr (.inr (.inr g_34)))))]) (w1 := va_pl u.1 u.2.2) (pl := va_pl L f) hP hD [2] [0, 1] rfl rfl (by decide) (by decide) hk1 hFc hP1 hD1
                        obtain ⟨L, tg, f, hP, hD, hI, hT, hg, hg1⟩ := cw_join hP hD hI hT hI1 hT1
                        have k_q_1 := hg.at k_q_1
                        have k_q_2 := hg.at k_q_2
                        have k_q_3 := hg.at k_q_3
                        have ra_q_4 := ra_q_4.up hg
                        have k_q_36 := hg1.at k_q_36
                        clear hP1 hD1 hz1 hk1 hFc hPc hDc ht hg hg1 hI1 hT1
                        generalize H1 = H at hP hS ⊢
                        refine W.widen (k := 48) (n := 382) (Nat.le_of_ble_eq_true rfl) (Nat.le_of_ble_eq_true rfl) ?_
                        have hP : va_P (dC, dI) vwCl ([(h0, .inr (4, [.ref q_1, .ref q_2, .ref q_3, .int 0, .int 0, .ref q_4, .int 0, .null, .null, .null, .null])), (q_4, .inl (cS, 12, .inr (.inr (.inr (.inr g_34)))))] ++ va_pl L f) H := hP
                        have hD : va_D A ([(h0, .inr (4, [.ref q_1, .ref q_2, .ref q_3, .int 0, .int 0, .ref q_4, .int 0, .null, .null, .null, .null])), (q_4, .inl (cS, 12, .inr (.inr (.inr (.inr g_34)))))] ++ va_pl L f) := hD
                        refine cn_aast (r := (RX1, TX1, 9)) (ci := 0) (i := 10) hx hb hK hP hD hS hI 1 1 rfl rfl k_q_36 (fun _ _ _ => rfl) rfl (by unfold vp_in; decide) dX5_init_57 (fun H locs hP hD hS => ?_)
                        have hP : va_P (dC, dI) vwCl ([(h0, .inr (4, [.ref q_1, .ref q_2, .ref q_3, .int 0, .int 0, .ref q_4, .int 0, .null, .null, .null, .null])), (q_4, .inl (cS, 12, .inr (.inr (.inr (.inr (va_up g_34 (10 : Int32).toNatClampNeg (some q_36)))))))] ++ va_pl L f) H := hP
                        have hD : va_D A ([(h0, .inr (4, [.ref q_1, .ref q_2, .ref q_3, .int 0, .int 0, .ref q_4, .int 0, .null, .null, .null, .null])), (q_4, .inl (cS, 12, .inr (.inr (.inr (.inr (va_up g_34 (10 : Int32).toNatClampNeg (some q_36)))))))] ++ va_pl L f) := hD
                        have ra_q_4 := ra_q_4.set (i := 10) (by decide) k_q_36
                        generalize va_up g_34 (10 : Int32).toNatClampNeg (some q_36) = g_37 at hP hD ra_q_4
                        refine lv_iinc (v := 11) (lv' := [(1, .int 11), (0, .ref h0)]) hx hb dX5_init_58 hl (k := 0) rfl (by decide) (by decide) rfl (fun ls hl => ?_)
                        refine lv_goto (tgt := 39) hx hb dX5_init_61 (by decide) ?_
                        refine lv_iload_n hx hb dX5_init_39 rfl (lv_at hl 0 rfl) ?_
                        refine lv_bipush (v := 12) hx hb dX5_init_40 (by decide) ?_
                        refine lv_icmp_ge (tgt := 64) hx hb dX5_init_42 (by decide) (fun h_38 => ?_) (fun h_38 => ?_)
                        · exact (by first | exact absurd h_38 (by decide) | exact absurd (by decide) h_38)
                        · refine lv_aload_n hx hb dX5_init_45 rfl (lv_at hl 1 rfl) ?_
                          refine va_get (D := (dC, dI)) (ci := 4) (v := .ref q_4) (C := RX5) (T := TX5) (N := 11) hx hb hts (by decide +kernel) hown hK hP 0 rfl rfl 5 (by decide) (hts (.fieldLink RX5 21 "DayBench" "sayings" "[LDayBench$Saying;") (by decide +kernel)) (fun _ h9 => h9) rfl dX5_init_46 ?_
                          refine lv_iload_n hx hb dX5_init_49 rfl (lv_at hl 0 rfl) ?_
                          refine cn_new (ci := 0) (fs := [.null, .int 0, .int 0, .int 0, .int 0, .int 0, .int 0, .int 0, .int 0]) (C := RX1) (T := TX1) (N := 9) hx hb hts (by decide +kernel) tyX1 tyX1_ok hown (hts (.classLink RX5 19 RX1) (by decide +kernel)) (hts (.instantiable RX1 9) (by decide +kernel)) (hts (.initialized RX1) (by decide +kernel)) hK hP hD hS hA rfl (fun j hj => by rcases (show j = 0 ∨ j = 1 ∨ j = 2 ∨ j = 3 ∨ j = 4 ∨ j = 5 ∨ j = 6 ∨ j = 7 ∨ j = 8 by omega) with rfl | rfl | rfl | rfl | rfl | rfl | rfl | rfl | rfl <;> rfl) (Nat.le_of_ble_eq_true rfl) (Nat.le_of_ble_eq_true rfl) dX5_init_50 (fun q_39 H hP hD hS => ?_)
                          refine W.widen (k := 49) (n := 391) (Nat.le_of_ble_eq_true rfl) (Nat.le_of_ble_eq_true rfl) ?_
                          have hP : va_P (dC, dI) vwCl ([(h0, .inr (4, [.ref q_1, .ref q_2, .ref q_3, .int 0, .int 0, .ref q_4, .int 0, .null, .null, .null, .null])), (q_4, .inl (cS, 12, .inr (.inr (.inr (.inr g_37))))), (q_39, .inr (0, [.null, .int 0, .int 0, .int 0, .int 0, .int 0, .int 0, .int 0, .int 0]))] ++ va_pl L f) H := hP
                          have hD : va_D A ([(h0, .inr (4, [.ref q_1, .ref q_2, .ref q_3, .int 0, .int 0, .ref q_4, .int 0, .null, .null, .null, .null])), (q_4, .inl (cS, 12, .inr (.inr (.inr (.inr g_37))))), (q_39, .inr (0, [.null, .int 0, .int 0, .int 0, .int 0, .int 0, .int 0, .int 0, .int 0]))] ++ va_pl L f) := hD
                          refine lv_dup hx hb dX5_init_53 rfl ?_
                          have hPc := hP.sub (ws' := [(q_39, .inr (0, [.null, .int 0, .int 0, .int 0, .int 0, .int 0, .int 0, .int 0, .int 0]))]) [2] rfl
                          have hDc := hD.sub (ws' := [(q_39, .inr (0, [.null, .int 0, .int 0, .int 0, .int 0, .int 0, .int 0, .int 0, .int 0]))]) [2] (by decide) rfl
                          have hFc := va_free (wc := [(q_39, .inr (0, [.null, .int 0, .int 0, .int 0, .int 0, .int 0, .int 0, .int 0, .int 0]))]) hD hS hA [2] rfl
                          refine va_callv (va_runIN (As := []) (rest := [.ref q_39, .int 11, .ref q_4]) ⟨hx, hb, hml, hown, hts⟩ (k_X1_init l dC dI cI cS cP cA H.size q_39) ⟨va_cnB (host := "DayBench") 0 hts gX5_init_X1_init_n25 rfl rfl rfl hnk.1 (hts (.initialized RX1) (by decide +kernel)) (by decide +kernel) ⟨Nat.le_of_ble_eq_true rfl, Nat.le_of_ble_eq_true rfl⟩, rfl, hts (.instanceMethod yX1_init) (by decide +kernel)⟩ ⟨nPre_blind, fun U hU hW => ⟨rfl, ⟨wPre_at hPc hK hDc hU hW, nk_warm hnk hW⟩⟩⟩ rfl rfl hl.1 rfl (lv_room (Nat.le_of_ble_eq_true rfl)) dX5_init_54 ⟨Nat.le_of_ble_eq_true rfl, Nat.le_of_ble_eq_true rfl⟩) hS (fun q9 _ h => hFc q9 h) hFc (fun u t H1 locs ht hvm hw hB hz1 hk1 hS => ?_)
                          obtain ⟨hP1, hD1⟩ := hB
                          rw [ht] at hP1
                          obtain ⟨hI1, hT1, k_q_39⟩ := hw
                          obtain ⟨hP, hD⟩ := va_joinQ (X := [(h0, .inr (4, [.ref q_1, .ref q_2, .ref q_3, .int 0, .int 0, .ref q_4, .int 0, .null, .null, .null, .null])), (q_4, .inl (cS, 12, .inr (.inr (.inr (.inr g_37))))), (q_39, .inr (0, [.null, .int 0, .int 0, .int 0, .int 0, .int 0, .int 0, .int 0, .int 0]))]) (cx := [(q_39, .inr (0, [.null, .int 0, .int 0, .int 0, .int 0, .int 0, .int 0, .int 0, .int 0]))]) (wr := [(h0, .inr (4, [.ref q_1, .ref q_2, .ref q_3, .int 0, .int 0, .ref q_4, .int 0, .null, .null, .null, .null])), (q_4, .inl (cS, 12, .inr (.inr (.inr (.inr g_37)))))]) (w1 := va_pl u.1 u.2.2) (pl := va_pl L f) hP hD [2] [0, 1] rfl rfl (by decide) (by decide) hk1 hFc hP1 hD1
                          obtain ⟨L, tg, f, hP, hD, hI, hT, hg, hg1⟩ := cw_join hP hD hI hT hI1 hT1
                          have k_q_1 := hg.at k_q_1
                          have k_q_2 := hg.at k_q_2
                          have k_q_3 := hg.at k_q_3
                          have ra_q_4 := ra_q_4.up hg
                          have k_q_39 := hg1.at k_q_39
                          clear hP1 hD1 hz1 hk1 hFc hPc hDc ht hg hg1 hI1 hT1
                          generalize H1 = H at hP hS ⊢
                          refine W.widen (k := 52) (n := 414) (Nat.le_of_ble_eq_true rfl) (Nat.le_of_ble_eq_true rfl) ?_
                          have hP : va_P (dC, dI) vwCl ([(h0, .inr (4, [.ref q_1, .ref q_2, .ref q_3, .int 0, .int 0, .ref q_4, .int 0, .null, .null, .null, .null])), (q_4, .inl (cS, 12, .inr (.inr (.inr (.inr g_37)))))] ++ va_pl L f) H := hP
                          have hD : va_D A ([(h0, .inr (4, [.ref q_1, .ref q_2, .ref q_3, .int 0, .int 0, .ref q_4, .int 0, .null, .null, .null, .null])), (q_4, .inl (cS, 12, .inr (.inr (.inr (.inr g_37)))))] ++ va_pl L f) := hD
                          refine cn_aast (r := (RX1, TX1, 9)) (ci := 0) (i := 11) hx hb hK hP hD hS hI 1 1 rfl rfl k_q_39 (fun _ _ _ => rfl) rfl (by unfold vp_in; decide) dX5_init_57 (fun H locs hP hD hS => ?_)
                          have hP : va_P (dC, dI) vwCl ([(h0, .inr (4, [.ref q_1, .ref q_2, .ref q_3, .int 0, .int 0, .ref q_4, .int 0, .null, .null, .null, .null])), (q_4, .inl (cS, 12, .inr (.inr (.inr (.inr (va_up g_37 (11 : Int32).toNatClampNeg (some q_39)))))))] ++ va_pl L f) H := hP
                          have hD : va_D A ([(h0, .inr (4, [.ref q_1, .ref q_2, .ref q_3, .int 0, .int 0, .ref q_4, .int 0, .null, .null, .null, .null])), (q_4, .inl (cS, 12, .inr (.inr (.inr (.inr (va_up g_37 (11 : Int32).toNatClampNeg (some q_39)))))))] ++ va_pl L f) := hD
                          have ra_q_4 := ra_q_4.set (i := 11) (by decide) k_q_39
                          generalize va_up g_37 (11 : Int32).toNatClampNeg (some q_39) = g_40 at hP hD ra_q_4
                          refine lv_iinc (v := 12) (lv' := [(1, .int 12), (0, .ref h0)]) hx hb dX5_init_58 hl (k := 0) rfl (by decide) (by decide) rfl (fun ls hl => ?_)
                          refine lv_goto (tgt := 39) hx hb dX5_init_61 (by decide) ?_
                          refine lv_iload_n hx hb dX5_init_39 rfl (lv_at hl 0 rfl) ?_
                          refine lv_bipush (v := 12) hx hb dX5_init_40 (by decide) ?_
                          refine lv_icmp_ge (tgt := 64) hx hb dX5_init_42 (by decide) (fun h_41 => ?_) (fun h_41 => ?_)
                          · refine lv_aload_n hx hb dX5_init_64 rfl (lv_at hl 1 rfl) ?_
                            refine cn_new (ci := 1) (fs := [.null, .null, .int 0, .int 0, .int 0, .int 0, .int 0, .int 0, .null, .null, .null, .null, .null, .null]) (C := RX2) (T := TX2) (N := 14) hx hb hts (by decide +kernel) tyX2 tyX2_ok hown (hts (.classLink RX5 26 RX2) (by decide +kernel)) (hts (.instantiable RX2 14) (by decide +kernel)) (hts (.initialized RX2) (by decide +kernel)) hK hP hD hS hA rfl (fun j hj => by rcases (show j = 0 ∨ j = 1 ∨ j = 2 ∨ j = 3 ∨ j = 4 ∨ j = 5 ∨ j = 6 ∨ j = 7 ∨ j = 8 ∨ j = 9 ∨ j = 10 ∨ j = 11 ∨ j = 12 ∨ j = 13 by omega) with rfl | rfl | rfl | rfl | rfl | rfl | rfl | rfl | rfl | rfl | rfl | rfl | rfl | rfl <;> rfl) (Nat.le_of_ble_eq_true rfl) (Nat.le_of_ble_eq_true rfl) dX5_init_65 (fun q_42 H hP hD hS => ?_)
                            refine W.widen (k := 53) (n := 428) (Nat.le_of_ble_eq_true rfl) (Nat.le_of_ble_eq_true rfl) ?_
                            have hP : va_P (dC, dI) vwCl ([(h0, .inr (4, [.ref q_1, .ref q_2, .ref q_3, .int 0, .int 0, .ref q_4, .int 0, .null, .null, .null, .null])), (q_4, .inl (cS, 12, .inr (.inr (.inr (.inr g_40))))), (q_42, .inr (1, [.null, .null, .int 0, .int 0, .int 0, .int 0, .int 0, .int 0, .null, .null, .null, .null, .null, .null]))] ++ va_pl L f) H := hP
                            have hD : va_D A ([(h0, .inr (4, [.ref q_1, .ref q_2, .ref q_3, .int 0, .int 0, .ref q_4, .int 0, .null, .null, .null, .null])), (q_4, .inl (cS, 12, .inr (.inr (.inr (.inr g_40))))), (q_42, .inr (1, [.null, .null, .int 0, .int 0, .int 0, .int 0, .int 0, .int 0, .null, .null, .null, .null, .null, .null]))] ++ va_pl L f) := hD
                            refine lv_dup hx hb dX5_init_68 rfl ?_
                            have hPc := hP.sub (ws' := [(q_42, .inr (1, [.null, .null, .int 0, .int 0, .int 0, .int 0, .int 0, .int 0, .null, .null, .null, .null, .null, .null]))]) [2] rfl
                            have hDc := hD.sub (ws' := [(q_42, .inr (1, [.null, .null, .int 0, .int 0, .int 0, .int 0, .int 0, .int 0, .null, .null, .null, .null, .null, .null]))]) [2] (by decide) rfl
                            have hFc := va_free (wc := [(q_42, .inr (1, [.null, .null, .int 0, .int 0, .int 0, .int 0, .int 0, .int 0, .null, .null, .null, .null, .null, .null]))]) hD hS hA [2] rfl
                            refine va_callv (va_runI (As := []) (rest := [.ref q_42, .ref h0]) ⟨hx, hb, hml, hown, hts⟩ (k_X2_init l dC dI cI cS cP cA H.size q_42) (cwI 0 hts gX5_init_X2_init rfl rfl rfl (hts (.initialized RX2) (by decide +kernel)) (hts (.methodLink RX5 28 yX2_init) (by decide +kernel)) (hts (.instanceMethod yX2_init) (by decide +kernel)) rfl (by decide +kernel) ⟨Nat.le_of_ble_eq_true rfl, Nat.le_of_ble_eq_true rfl⟩) ⟨nPre_blind, fun U hU hW => ⟨rfl, ⟨wPre_at hPc hK hDc hU hW, nk_warm hnk hW⟩⟩⟩ rfl rfl hl.1 rfl (lv_room (Nat.le_of_ble_eq_true rfl)) dX5_init_69 ⟨Nat.le_of_ble_eq_true rfl, Nat.le_of_ble_eq_true rfl⟩) hS (fun q9 _ h => hFc q9 h) hFc (fun u t H1 locs ht hvm hw hB hz1 hk1 hS => ?_)
                            obtain ⟨hP1, hD1⟩ := hB
                            rw [ht] at hP1
                            obtain ⟨hI1, hT1, k_q_42⟩ := hw
                            obtain ⟨hP, hD⟩ := va_joinQ (X := [(h0, .inr (4, [.ref q_1, .ref q_2, .ref q_3, .int 0, .int 0, .ref q_4, .int 0, .null, .null, .null, .null])), (q_4, .inl (cS, 12, .inr (.inr (.inr (.inr g_40))))), (q_42, .inr (1, [.null, .null, .int 0, .int 0, .int 0, .int 0, .int 0, .int 0, .null, .null, .null, .null, .null, .null]))]) (cx := [(q_42, .inr (1, [.null, .null, .int 0, .int 0, .int 0, .int 0, .int 0, .int 0, .null, .null, .null, .null, .null, .null]))]) (wr := [(h0, .inr (4, [.ref q_1, .ref q_2, .ref q_3, .int 0, .int 0, .ref q_4, .int 0, .null, .null, .null, .null])), (q_4, .inl (cS, 12, .inr (.inr (.inr (.inr g_40)))))]) (w1 := va_pl u.1 u.2.2) (pl := va_pl L f) hP hD [2] [0, 1] rfl rfl (by decide) (by decide) hk1 hFc hP1 hD1
                            obtain ⟨L, tg, f, hP, hD, hI, hT, hg, hg1⟩ := cw_join hP hD hI hT hI1 hT1
                            have k_q_1 := hg.at k_q_1
                            have k_q_2 := hg.at k_q_2
                            have k_q_3 := hg.at k_q_3
                            have ra_q_4 := ra_q_4.up hg
                            have k_q_42 := hg1.at k_q_42
                            clear hP1 hD1 hz1 hk1 hFc hPc hDc ht hg hg1 hI1 hT1
                            generalize H1 = H at hP hS ⊢
                            refine W.widen (k := 103) (n := 770) (Nat.le_of_ble_eq_true rfl) (Nat.le_of_ble_eq_true rfl) ?_
                            have hP : va_P (dC, dI) vwCl ([(h0, .inr (4, [.ref q_1, .ref q_2, .ref q_3, .int 0, .int 0, .ref q_4, .int 0, .null, .null, .null, .null])), (q_4, .inl (cS, 12, .inr (.inr (.inr (.inr g_40)))))] ++ va_pl L f) H := hP
                            have hD : va_D A ([(h0, .inr (4, [.ref q_1, .ref q_2, .ref q_3, .int 0, .int 0, .ref q_4, .int 0, .null, .null, .null, .null])), (q_4, .inl (cS, 12, .inr (.inr (.inr (.inr g_40)))))] ++ va_pl L f) := hD
                            refine va_putF (D := (dC, dI)) (ci := 4) (v := .ref q_42) (ty := (.object "DayBench$Search")) (C := RX5) (T := TX5) (N := 11) hx hb hts (by decide +kernel) tyX5 tyX5_ok nmX5 hown hK hP hD hS 0 rfl rfl 7 (by decide) (hts (.fieldLink RX5 29 "DayBench" "search" "LDayBench$Search;") (by decide +kernel)) (fun _ h9 => h9) rfl hin0 rfl (by decide +kernel) rfl rfl (Nat.le_of_ble_eq_true rfl) dX5_init_72 (fun H locs hP hD hS => ?_)
                            have hP : va_P (dC, dI) vwCl ([(h0, .inr (4, [.ref q_1, .ref q_2, .ref q_3, .int 0, .int 0, .ref q_4, .int 0, .ref q_42, .null, .null, .null])), (q_4, .inl (cS, 12, .inr (.inr (.inr (.inr g_40)))))] ++ va_pl L f) H := hP
                            have hD : va_D A ([(h0, .inr (4, [.ref q_1, .ref q_2, .ref q_3, .int 0, .int 0, .ref q_4, .int 0, .ref q_42, .null, .null, .null])), (q_4, .inl (cS, 12, .inr (.inr (.inr (.inr g_40)))))] ++ va_pl L f) := hD
                            refine lv_aload_n hx hb dX5_init_75 rfl (lv_at hl 1 rfl) ?_
                            refine cn_new (ci := 2) (fs := [.int 0, .int 0, .int 0, .null, .null, .null, .null, .null, .int 0]) (C := RX3) (T := TX3) (N := 9) hx hb hts (by decide +kernel) tyX3 tyX3_ok hown (hts (.classLink RX5 33 RX3) (by decide +kernel)) (hts (.instantiable RX3 9) (by decide +kernel)) (hts (.initialized RX3) (by decide +kernel)) hK hP hD hS hA rfl (fun j hj => by rcases (show j = 0 ∨ j = 1 ∨ j = 2 ∨ j = 3 ∨ j = 4 ∨ j = 5 ∨ j = 6 ∨ j = 7 ∨ j = 8 by omega) with rfl | rfl | rfl | rfl | rfl | rfl | rfl | rfl | rfl <;> rfl) (Nat.le_of_ble_eq_true rfl) (Nat.le_of_ble_eq_true rfl) dX5_init_76 (fun q_43 H hP hD hS => ?_)
                            refine W.widen (k := 104) (n := 779) (Nat.le_of_ble_eq_true rfl) (Nat.le_of_ble_eq_true rfl) ?_
                            have hP : va_P (dC, dI) vwCl ([(h0, .inr (4, [.ref q_1, .ref q_2, .ref q_3, .int 0, .int 0, .ref q_4, .int 0, .ref q_42, .null, .null, .null])), (q_4, .inl (cS, 12, .inr (.inr (.inr (.inr g_40))))), (q_43, .inr (2, [.int 0, .int 0, .int 0, .null, .null, .null, .null, .null, .int 0]))] ++ va_pl L f) H := hP
                            have hD : va_D A ([(h0, .inr (4, [.ref q_1, .ref q_2, .ref q_3, .int 0, .int 0, .ref q_4, .int 0, .ref q_42, .null, .null, .null])), (q_4, .inl (cS, 12, .inr (.inr (.inr (.inr g_40))))), (q_43, .inr (2, [.int 0, .int 0, .int 0, .null, .null, .null, .null, .null, .int 0]))] ++ va_pl L f) := hD
                            refine lv_dup hx hb dX5_init_79 rfl ?_
                            have hPc := hP.sub (ws' := [(q_43, .inr (2, [.int 0, .int 0, .int 0, .null, .null, .null, .null, .null, .int 0]))]) [2] rfl
                            have hDc := hD.sub (ws' := [(q_43, .inr (2, [.int 0, .int 0, .int 0, .null, .null, .null, .null, .null, .int 0]))]) [2] (by decide) rfl
                            have hFc := va_free (wc := [(q_43, .inr (2, [.int 0, .int 0, .int 0, .null, .null, .null, .null, .null, .int 0]))]) hD hS hA [2] rfl
                            refine va_callv (va_runIN (As := []) (rest := [.ref q_43, .ref h0]) ⟨hx, hb, hml, hown, hts⟩ (k_X3_init l dC dI cI cS cP cA H.size q_43) ⟨va_cnB (host := "DayBench") 0 hts gX5_init_X3_init_n35 rfl rfl rfl hnk.2.1 (hts (.initialized RX3) (by decide +kernel)) (by decide +kernel) ⟨Nat.le_of_ble_eq_true rfl, Nat.le_of_ble_eq_true rfl⟩, rfl, hts (.instanceMethod yX3_init) (by decide +kernel)⟩ ⟨nPre_blind, fun U hU hW => ⟨rfl, ⟨wPre_at hPc hK hDc hU hW, nk_warm hnk hW⟩⟩⟩ rfl rfl hl.1 rfl (lv_room (Nat.le_of_ble_eq_true rfl)) dX5_init_80 ⟨Nat.le_of_ble_eq_true rfl, Nat.le_of_ble_eq_true rfl⟩) hS (fun q9 _ h => hFc q9 h) hFc (fun u t H1 locs ht hvm hw hB hz1 hk1 hS => ?_)
                            obtain ⟨hP1, hD1⟩ := hB
                            rw [ht] at hP1
                            obtain ⟨hI1, hT1, k_q_43⟩ := hw
                            obtain ⟨hP, hD⟩ := va_joinQ (X := [(h0, .inr (4, [.ref q_1, .ref q_2, .ref q_3, .int 0, .int 0, .ref q_4, .int 0, .ref q_42, .null, .null, .null])), (q_4, .inl (cS, 12, .inr (.inr (.inr (.inr g_40))))), (q_43, .inr (2, [.int 0, .int 0, .int 0, .null, .null, .null, .null, .null, .int 0]))]) (cx := [(q_43, .inr (2, [.int 0, .int 0, .int 0, .null, .null, .null, .null, .null, .int 0]))]) (wr := [(h0, .inr (4, [.ref q_1, .ref q_2, .ref q_3, .int 0, .int 0, .ref q_4, .int 0, .ref q_42, .null, .null, .null])), (q_4, .inl (cS, 12, .inr (.inr (.inr (.inr g_40)))))]) (w1 := va_pl u.1 u.2.2) (pl := va_pl L f) hP hD [2] [0, 1] rfl rfl (by decide) (by decide) hk1 hFc hP1 hD1
                            obtain ⟨L, tg, f, hP, hD, hI, hT, hg, hg1⟩ := cw_join hP hD hI hT hI1 hT1
                            have k_q_1 := hg.at k_q_1
                            have k_q_2 := hg.at k_q_2
                            have k_q_3 := hg.at k_q_3
                            have k_q_42 := hg.at k_q_42
                            have ra_q_4 := ra_q_4.up hg
                            have k_q_43 := hg1.at k_q_43
                            clear hP1 hD1 hz1 hk1 hFc hPc hDc ht hg hg1 hI1 hT1
                            generalize H1 = H at hP hS ⊢
                            refine W.widen (k := 109) (n := 2663) (Nat.le_of_ble_eq_true rfl) (Nat.le_of_ble_eq_true rfl) ?_
                            have hP : va_P (dC, dI) vwCl ([(h0, .inr (4, [.ref q_1, .ref q_2, .ref q_3, .int 0, .int 0, .ref q_4, .int 0, .ref q_42, .null, .null, .null])), (q_4, .inl (cS, 12, .inr (.inr (.inr (.inr g_40)))))] ++ va_pl L f) H := hP
                            have hD : va_D A ([(h0, .inr (4, [.ref q_1, .ref q_2, .ref q_3, .int 0, .int 0, .ref q_4, .int 0, .ref q_42, .null, .null, .null])), (q_4, .inl (cS, 12, .inr (.inr (.inr (.inr g_40)))))] ++ va_pl L f) := hD
                            refine va_putF (D := (dC, dI)) (ci := 4) (v := .ref q_43) (ty := (.object "DayBench$SlipSets")) (C := RX5) (T := TX5) (N := 11) hx hb hts (by decide +kernel) tyX5 tyX5_ok nmX5 hown hK hP hD hS 0 rfl rfl 8 (by decide) (hts (.fieldLink RX5 36 "DayBench" "slipSets" "LDayBench$SlipSets;") (by decide +kernel)) (fun _ h9 => h9) rfl hin0 rfl (by decide +kernel) rfl rfl (Nat.le_of_ble_eq_true rfl) dX5_init_83 (fun H locs hP hD hS => ?_)
                            have hP : va_P (dC, dI) vwCl ([(h0, .inr (4, [.ref q_1, .ref q_2, .ref q_3, .int 0, .int 0, .ref q_4, .int 0, .ref q_42, .ref q_43, .null, .null])), (q_4, .inl (cS, 12, .inr (.inr (.inr (.inr g_40)))))] ++ va_pl L f) H := hP
                            have hD : va_D A ([(h0, .inr (4, [.ref q_1, .ref q_2, .ref q_3, .int 0, .int 0, .ref q_4, .int 0, .ref q_42, .ref q_43, .null, .null])), (q_4, .inl (cS, 12, .inr (.inr (.inr (.inr g_40)))))] ++ va_pl L f) := hD
                            refine lv_aload_n hx hb dX5_init_86 rfl (lv_at hl 1 rfl) ?_
                            refine lv_bipush (v := 6) hx hb dX5_init_87 (by decide) ?_
                            refine cn_newa (n := 6) hx hb (hts (.arrayClass .int) (by decide +kernel)) hK hP hD hS hA hI hT 6 3 (by decide) (fun _ _ _ => rfl) (by decide) (by decide) (by decide) (Nat.le_of_ble_eq_true rfl) (Nat.le_of_ble_eq_true rfl) dX5_init_89 (fun q_44 H L tg f hP hD hS hI hT hg k_q_44 => ?_)
                            refine W.widen (k := 110) (n := 2669) (Nat.le_of_ble_eq_true rfl) (Nat.le_of_ble_eq_true rfl) ?_
                            have k_q_1 := hg.at k_q_1
                            have k_q_2 := hg.at k_q_2
                            have k_q_3 := hg.at k_q_3
                            have k_q_42 := hg.at k_q_42
                            have k_q_43 := hg.at k_q_43
                            have ra_q_4 := ra_q_4.up hg
                            clear hg
                            have hP : va_P (dC, dI) vwCl ([(h0, .inr (4, [.ref q_1, .ref q_2, .ref q_3, .int 0, .int 0, .ref q_4, .int 0, .ref q_42, .ref q_43, .null, .null])), (q_4, .inl (cS, 12, .inr (.inr (.inr (.inr g_40)))))] ++ va_pl L f) H := hP
                            have hD : va_D A ([(h0, .inr (4, [.ref q_1, .ref q_2, .ref q_3, .int 0, .int 0, .ref q_4, .int 0, .ref q_42, .ref q_43, .null, .null])), (q_4, .inl (cS, 12, .inr (.inr (.inr (.inr g_40)))))] ++ va_pl L f) := hD
                            refine va_putF (D := (dC, dI)) (ci := 4) (v := .ref q_44) (ty := (.array .int)) (C := RX5) (T := TX5) (N := 11) hx hb hts (by decide +kernel) tyX5 tyX5_ok nmX5 hown hK hP hD hS 0 rfl rfl 9 (by decide) (hts (.fieldLink RX5 40 "DayBench" "heldFirst" "[I") (by decide +kernel)) (fun _ h9 => h9) rfl hin0 rfl (by decide +kernel) rfl rfl (Nat.le_of_ble_eq_true rfl) dX5_init_91 (fun H locs hP hD hS => ?_)
                            have hP : va_P (dC, dI) vwCl ([(h0, .inr (4, [.ref q_1, .ref q_2, .ref q_3, .int 0, .int 0, .ref q_4, .int 0, .ref q_42, .ref q_43, .ref q_44, .null])), (q_4, .inl (cS, 12, .inr (.inr (.inr (.inr g_40)))))] ++ va_pl L f) H := hP
                            have hD : va_D A ([(h0, .inr (4, [.ref q_1, .ref q_2, .ref q_3, .int 0, .int 0, .ref q_4, .int 0, .ref q_42, .ref q_43, .ref q_44, .null])), (q_4, .inl (cS, 12, .inr (.inr (.inr (.inr g_40)))))] ++ va_pl L f) := hD
                            refine lv_aload_n hx hb dX5_init_94 rfl (lv_at hl 1 rfl) ?_
                            refine lv_bipush (v := 6) hx hb dX5_init_95 (by decide) ?_
                            refine cn_newa (n := 6) hx hb (hts (.arrayClass .int) (by decide +kernel)) hK hP hD hS hA hI hT 6 3 (by decide) (fun _ _ _ => rfl) (by decide) (by decide) (by decide) (Nat.le_of_ble_eq_true rfl) (Nat.le_of_ble_eq_true rfl) dX5_init_97 (fun q_45 H L tg f hP hD hS hI hT hg k_q_45 => ?_)
                            refine W.widen (k := 111) (n := 2675) (Nat.le_of_ble_eq_true rfl) (Nat.le_of_ble_eq_true rfl) ?_
                            have k_q_1 := hg.at k_q_1
                            have k_q_2 := hg.at k_q_2
                            have k_q_3 := hg.at k_q_3
                            have k_q_42 := hg.at k_q_42
                            have k_q_43 := hg.at k_q_43
                            have k_q_44 := hg.at k_q_44
                            have ra_q_4 := ra_q_4.up hg
                            clear hg
                            have hP : va_P (dC, dI) vwCl ([(h0, .inr (4, [.ref q_1, .ref q_2, .ref q_3, .int 0, .int 0, .ref q_4, .int 0, .ref q_42, .ref q_43, .ref q_44, .null])), (q_4, .inl (cS, 12, .inr (.inr (.inr (.inr g_40)))))] ++ va_pl L f) H := hP
                            have hD : va_D A ([(h0, .inr (4, [.ref q_1, .ref q_2, .ref q_3, .int 0, .int 0, .ref q_4, .int 0, .ref q_42, .ref q_43, .ref q_44, .null])), (q_4, .inl (cS, 12, .inr (.inr (.inr (.inr g_40)))))] ++ va_pl L f) := hD
                            refine va_putF (D := (dC, dI)) (ci := 4) (v := .ref q_45) (ty := (.array .int)) (C := RX5) (T := TX5) (N := 11) hx hb hts (by decide +kernel) tyX5 tyX5_ok nmX5 hown hK hP hD hS 0 rfl rfl 10 (by decide) (hts (.fieldLink RX5 43 "DayBench" "heldLast" "[I") (by decide +kernel)) (fun _ h9 => h9) rfl hin0 rfl (by decide +kernel) rfl rfl (Nat.le_of_ble_eq_true rfl) dX5_init_99 (fun H locs hP hD hS => ?_)
                            have hP : va_P (dC, dI) vwCl ([(h0, .inr (4, [.ref q_1, .ref q_2, .ref q_3, .int 0, .int 0, .ref q_4, .int 0, .ref q_42, .ref q_43, .ref q_44, .ref q_45])), (q_4, .inl (cS, 12, .inr (.inr (.inr (.inr g_40)))))] ++ va_pl L f) H := hP
                            have hD : va_D A ([(h0, .inr (4, [.ref q_1, .ref q_2, .ref q_3, .int 0, .int 0, .ref q_4, .int 0, .ref q_42, .ref q_43, .ref q_44, .ref q_45])), (q_4, .inl (cS, 12, .inr (.inr (.inr (.inr g_40)))))] ++ va_pl L f) := hD
                            obtain ⟨L, tg, f, hP, hD, hI, hT, hg, k_q_4, _⟩ := cw_abs (X := [(h0, .inr (4, [.ref q_1, .ref q_2, .ref q_3, .int 0, .int 0, .ref q_4, .int 0, .ref q_42, .ref q_43, .ref q_44, .ref q_45]))]) (a := q_4) (e := .inl (cS, 12, .inr (.inr (.inr (.inr g_40))))) hP hD hI hT 9 (by decide) ⟨_, rfl, ra_q_4⟩
                            have k_q_1 := hg.at k_q_1
                            have k_q_2 := hg.at k_q_2
                            have k_q_3 := hg.at k_q_3
                            have k_q_42 := hg.at k_q_42
                            have k_q_43 := hg.at k_q_43
                            have k_q_44 := hg.at k_q_44
                            have k_q_45 := hg.at k_q_45
                            clear hg
                            obtain ⟨L, tg, f, hP, hD, hI, hT, hg, k_h0, hfe⟩ := cw_abs (X := []) (a := h0) (e := .inr (4, [.ref q_1, .ref q_2, .ref q_3, .int 0, .int 0, .ref q_4, .int 0, .ref q_42, .ref q_43, .ref q_44, .ref q_45])) hP hD hI hT 6 (by decide) (okL_O 4 _ _ ⟨⟨_, rfl, k_q_1.1, k_q_1.2⟩, ⟨_, rfl, k_q_2.1, k_q_2.2⟩, ⟨_, rfl, k_q_3.1, k_q_3.2⟩, ⟨0, rfl, by decide⟩, ⟨0, rfl, by decide⟩, ⟨_, rfl, k_q_4.1, k_q_4.2⟩, ⟨0, rfl, by decide⟩, ⟨_, rfl, k_q_42.1, k_q_42.2⟩, ⟨_, rfl, k_q_43.1, k_q_43.2⟩, ⟨_, rfl, k_q_44.1, k_q_44.2⟩, ⟨_, rfl, k_q_45.1, k_q_45.2⟩, trivial⟩)
                            have hf3 : fld (f h0) 3 = some (.int (nI 0)) := by rw [hfe]; rfl
                            have hf4 : fld (f h0) 4 = some (.int (nI 0)) := by rw [hfe]; rfl
                            exact W.vret hx hb hr (fun t ht hW => ⟨⟨(L, tg, f), rfl, ⟨hI, hT, k_h0, hf3, hf4⟩, by rw [ht]; exact hP, hD⟩, hS.F ht⟩) hS.2.2 dX5_init_102
                          · exact (by first | exact absurd h_41 (by decide) | exact absurd (by decide) h_41)
