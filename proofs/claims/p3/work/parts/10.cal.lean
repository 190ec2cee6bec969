/-- the table of month lengths, and the nest word: what the calendars' methods rest on -/
def cm_ok (U : State) : Prop := (∃ t : Nat, va_Z "DayBench$Calendars" "MONTH_DAYS" "[I" (.ref t) (fun _ => False) U U.heap ∧ va_T .int t 12 (fun j => .int (md_tab j)) (fun _ => False) U U.heap) ∧ va_Nw (.methodLinkNest RX0 45 yX5_isDay "DayBench") U
theorem cm_calling {U : State} {g : JFrame} {mk : MethodId} {a : Array Value} (h : cm_ok U) : cm_ok (U.calling g mk a) := by
  obtain ⟨⟨t, h1, h2⟩, h3⟩ := h
  exact ⟨⟨t, va_Z.moved (u := U) (U := U.calling g mk a) (Vm.Alike.refl U.vm) h1, va_T.moved (u := U) (U := U.calling g mk a) (Vm.Alike.refl U.vm) h2⟩, va_Nw.same (u := U) (U := U.calling g mk a) rfl rfl h3⟩
theorem cm_blind {av : List Value} : FrameBlind (va_Pc av cm_ok) := fun _ _ _ _ q => ⟨q.1, cm_calling q.2⟩
theorem cm_warm {s U : State} (h : cm_ok s) (hU : U.heap = s.heap) (hW : s.WarmedH U.vm) : cm_ok U := by
  obtain ⟨⟨t, h1, h2⟩, h3⟩ := h
  refine ⟨⟨t, ?_, ?_⟩, va_Nw.warmM hW h3⟩
  · rw [hU]; exact va_Z.moved hW.alike h1
  · rw [hU]; exact va_T.moved hW.alike h2

set_option maxHeartbeats 4000000 in
set_option maxRecDepth 100000 in
theorem k_X0_isCalendar (l : Launch) (p0 : Int32) : Met l yX0_isCalendar wsX0_isCalendar ({ frames := 0, cells := 0, slots := 0, locals := 0 }) (va_Pc [.int p0] (fun _ => True)) (vp_Si (fun r => r = f_X0_isCalendar p0)) 0 0 (fun _ => False) := by
  refine Met.ofW (cc := cX0_isCalendar) (maxL := 1) (ret := (some .boolean)) (by decide) rfl ?_
  intro p e s m args below meth c s₁ B hml hv
  obtain ⟨rfl, hcm⟩ := hv
  have hx := B.exec
  have hb := B.bytes
  have hr := B.returns
  have hts := atoms_spec (ws := wsX0_isCalendar) B.pre
  have hown : s.vm.findClass RX0 = some m.cls := findClass_of_methodNamed B.named
  have hlocks := B.notSynchronized
  have hl := lv_entry ([.int p0]) (n := 1) (Nat.le_of_ble_eq_true rfl)
  rw [lg_entry_eq]
  generalize (lg_sl ([.int p0]) ++ List.replicate (1 - (lg_sl ([.int p0])).length) Slot.unset).toArray = ls at hl ⊢
  have hl : lv_has ls 1 [(0, .int p0)] := hl
  refine lv_iload_n hx hb dX0_isCalendar_0 rfl (lv_at hl 0 rfl) ?_
  refine lv_if_lt (tgt := 13) hx hb dX0_isCalendar_1 (by decide) (fun h_1 => ?_) (fun h_1 => ?_)
  · refine lv_iconst (v := 0) hx hb dX0_isCalendar_13 (by decide) ?_
    exact W.zret (v := 0) hx hb hr rfl (fun t ht hW => ⟨_, rfl, by rw [f_X0_isCalendar, if_pos h_1], ht⟩) (fun _ h => by cases h) dX0_isCalendar_14
  · refine lv_iload_n hx hb dX0_isCalendar_4 rfl (lv_at hl 0 rfl) ?_
    refine lv_iconst (v := 2) hx hb dX0_isCalendar_5 (by decide) ?_
    refine lv_icmp_gt (tgt := 13) hx hb dX0_isCalendar_6 (by decide) (fun h_2 => ?_) (fun h_2 => ?_)
    · refine lv_iconst (v := 0) hx hb dX0_isCalendar_13 (by decide) ?_
      exact W.zret (v := 0) hx hb hr rfl (fun t ht hW => ⟨_, rfl, by rw [f_X0_isCalendar, if_neg h_1, if_pos h_2], ht⟩) (fun _ h => by cases h) dX0_isCalendar_14
    · refine lv_iconst (v := 1) hx hb dX0_isCalendar_9 (by decide) ?_
      refine lv_goto (tgt := 14) hx hb dX0_isCalendar_10 (by decide) ?_
      exact W.zret (v := 1) hx hb hr rfl (fun t ht hW => ⟨_, rfl, by rw [f_X0_isCalendar, if_neg h_1, if_neg h_2], ht⟩) (fun _ h => by cases h) dX0_isCalendar_14

set_option maxHeartbeats 4000000 in
set_option maxRecDepth 100000 in
theorem k_X0_isYear (l : Launch) (p0 p1 : Int32) : Met l yX0_isYear wsX0_isYear ({ frames := 1, cells := 0, slots := 0, locals := 20 }) (va_Pc [.int p0, .int p1] (fun _ => True)) (vp_Si (fun r => r = f_X0_isYear p0 p1)) 0 0 (fun _ => False) := by
  refine Met.ofW (cc := cX0_isYear) (maxL := 2) (ret := (some .boolean)) (by decide) rfl ?_
  intro p e s m args below meth c s₁ B hml hv
  obtain ⟨rfl, hcm⟩ := hv
  have hx := B.exec
  have hb := B.bytes
  have hr := B.returns
  have hts := atoms_spec (ws := wsX0_isYear) B.pre
  have hown : s.vm.findClass RX0 = some m.cls := findClass_of_methodNamed B.named
  have hlocks := B.notSynchronized
  have hl := lv_entry ([.int p0, .int p1]) (n := 2) (Nat.le_of_ble_eq_true rfl)
  rw [lg_entry_eq]
  generalize (lg_sl ([.int p0, .int p1]) ++ List.replicate (2 - (lg_sl ([.int p0, .int p1])).length) Slot.unset).toArray = ls at hl ⊢
  have hl : lv_has ls 2 [(0, .int p0), (1, .int p1)] := hl
  refine lv_iload_n hx hb dX0_isYear_0 rfl (lv_at hl 0 rfl) ?_
  refine vp_callSi (va_Run.run (va_runS (As := [.int p0]) (rest := []) ⟨hx, hb, hml, hown, hts⟩ (k_X0_isCalendar l p0) (va_cwS 1 hts gX0_isYear_X0_isCalendar rfl rfl rfl (by decide +kernel) ⟨Nat.le_of_ble_eq_true rfl, Nat.le_of_ble_eq_true rfl⟩) ⟨fun _ _ _ _ q => q, fun _ _ _ => ⟨rfl, trivial⟩⟩ rfl rfl hl.1 rfl (lv_room (Nat.le_of_ble_eq_true rfl)) dX0_isYear_1 ⟨Nat.le_of_ble_eq_true rfl, Nat.le_of_ble_eq_true rfl⟩)) (fun r_1 er_1 => ?_)
  subst er_1
  refine lv_if_eq (tgt := 23) hx hb dX0_isYear_4 (by decide) (fun h_2 => ?_) (fun h_2 => ?_)
  · refine lv_iconst (v := 0) hx hb dX0_isYear_23 (by decide) ?_
    exact W.zret (v := 0) hx hb hr rfl (fun t ht hW => ⟨_, rfl, by rw [f_X0_isYear, if_pos h_2], ht⟩) (fun _ h => by cases h) dX0_isYear_24
  · refine lv_iload_n hx hb dX0_isYear_7 rfl (lv_at hl 1 rfl) ?_
    refine lv_iconst (v := 1) hx hb dX0_isYear_8 (by decide) ?_
    refine lv_icmp_lt (tgt := 23) hx hb dX0_isYear_9 (by decide) (fun h_3 => ?_) (fun h_3 => ?_)
    · refine lv_iconst (v := 0) hx hb dX0_isYear_23 (by decide) ?_
      exact W.zret (v := 0) hx hb hr rfl (fun t ht hW => ⟨_, rfl, by rw [f_X0_isYear, if_neg h_2, if_pos h_3], ht⟩) (fun _ h => by cases h) dX0_isYear_24
    · refine lv_iload_n hx hb dX0_isYear_12 rfl (lv_at hl 1 rfl) ?_
      refine lv_sipush (v := 2699) hx hb dX0_isYear_13 (by decide) ?_
      refine lv_icmp_gt (tgt := 23) hx hb dX0_isYear_16 (by decide) (fun h_4 => ?_) (fun h_4 => ?_)
      · refine lv_iconst (v := 0) hx hb dX0_isYear_23 (by decide) ?_
        exact W.zret (v := 0) hx hb hr rfl (fun t ht hW => ⟨_, rfl, by rw [f_X0_isYear, if_neg h_2, if_neg h_3, if_pos h_4], ht⟩) (fun _ h => by cases h) dX0_isYear_24
      · refine lv_iconst (v := 1) hx hb dX0_isYear_19 (by decide) ?_
        refine lv_goto (tgt := 24) hx hb dX0_isYear_20 (by decide) ?_
        exact W.zret (v := 1) hx hb hr rfl (fun t ht hW => ⟨_, rfl, by rw [f_X0_isYear, if_neg h_2, if_neg h_3, if_neg h_4], ht⟩) (fun _ h => by cases h) dX0_isYear_24

set_option maxHeartbeats 4000000 in
set_option maxRecDepth 100000 in
theorem k_X0_months (l : Launch) (p0 : Int32) : Met l yX0_months wsX0_months ({ frames := 0, cells := 0, slots := 0, locals := 0 }) (va_Pc [.int p0] (fun _ => True)) (vp_Si (fun r => r = f_X0_months p0)) 0 0 (fun _ => False) := by
  refine Met.ofW (cc := cX0_months) (maxL := 1) (ret := (some .int)) (by decide) rfl ?_
  intro p e s m args below meth c s₁ B hml hv
  obtain ⟨rfl, hcm⟩ := hv
  have hx := B.exec
  have hb := B.bytes
  have hr := B.returns
  have hts := atoms_spec (ws := wsX0_months) B.pre
  have hown : s.vm.findClass RX0 = some m.cls := findClass_of_methodNamed B.named
  have hlocks := B.notSynchronized
  have hl := lv_entry ([.int p0]) (n := 1) (Nat.le_of_ble_eq_true rfl)
  rw [lg_entry_eq]
  generalize (lg_sl ([.int p0]) ++ List.replicate (1 - (lg_sl ([.int p0])).length) Slot.unset).toArray = ls at hl ⊢
  have hl : lv_has ls 1 [(0, .int p0)] := hl
  refine lv_iload_n hx hb dX0_months_0 rfl (lv_at hl 0 rfl) ?_
  refine lv_iconst (v := 2) hx hb dX0_months_1 (by decide) ?_
  refine lv_icmp_ne (tgt := 10) hx hb dX0_months_2 (by decide) (fun h_1 => ?_) (fun h_1 => ?_)
  · refine lv_bipush (v := 12) hx hb dX0_months_10 (by decide) ?_
    exact W.iret (v := 12) hx hb hr (fun t ht hW => ⟨_, rfl, by rw [f_X0_months, if_neg h_1], ht⟩) (fun _ h => by cases h) dX0_months_12
  · refine lv_bipush (v := 13) hx hb dX0_months_5 (by decide) ?_
    refine lv_goto (tgt := 12) hx hb dX0_months_7 (by decide) ?_
    exact W.iret (v := 13) hx hb hr (fun t ht hW => ⟨_, rfl, by rw [f_X0_months, if_pos h_1], ht⟩) (fun _ h => by cases h) dX0_months_12

set_option maxHeartbeats 4000000 in
set_option maxRecDepth 100000 in
theorem k_X0_isMonth (l : Launch) (p0 p1 p2 : Int32) : Met l yX0_isMonth wsX0_isMonth ({ frames := 2, cells := 0, slots := 0, locals := 41 }) (va_Pc [.int p0, .int p1, .int p2] (fun _ => True)) (vp_Si (fun r => r = f_X0_isMonth p0 p1 p2)) 0 0 (fun _ => False) := by
  refine Met.ofW (cc := cX0_isMonth) (maxL := 3) (ret := (some .boolean)) (by decide) rfl ?_
  intro p e s m args below meth c s₁ B hml hv
  obtain ⟨rfl, hcm⟩ := hv
  have hx := B.exec
  have hb := B.bytes
  have hr := B.returns
  have hts := atoms_spec (ws := wsX0_isMonth) B.pre
  have hown : s.vm.findClass RX0 = some m.cls := findClass_of_methodNamed B.named
  have hlocks := B.notSynchronized
  have hl := lv_entry ([.int p0, .int p1, .int p2]) (n := 3) (Nat.le_of_ble_eq_true rfl)
  rw [lg_entry_eq]
  generalize (lg_sl ([.int p0, .int p1, .int p2]) ++ List.replicate (3 - (lg_sl ([.int p0, .int p1, .int p2])).length) Slot.unset).toArray = ls at hl ⊢
  have hl : lv_has ls 3 [(0, .int p0), (1, .int p1), (2, .int p2)] := hl
  refine lv_iload_n hx hb dX0_isMonth_0 rfl (lv_at hl 0 rfl) ?_
  refine lv_iload_n hx hb dX0_isMonth_1 rfl (lv_at hl 1 rfl) ?_
  refine vp_callSi (va_Run.run (va_runS (As := [.int p0, .int p1]) (rest := []) ⟨hx, hb, hml, hown, hts⟩ (k_X0_isYear l p0 p1) (va_cwS 2 hts gX0_isMonth_X0_isYear rfl rfl rfl (by decide +kernel) ⟨Nat.le_of_ble_eq_true rfl, Nat.le_of_ble_eq_true rfl⟩) ⟨fun _ _ _ _ q => q, fun _ _ _ => ⟨rfl, trivial⟩⟩ rfl rfl hl.1 rfl (lv_room (Nat.le_of_ble_eq_true rfl)) dX0_isMonth_2 ⟨Nat.le_of_ble_eq_true rfl, Nat.le_of_ble_eq_true rfl⟩)) (fun r_1 er_1 => ?_)
  subst er_1
  refine lv_if_eq (tgt := 25) hx hb dX0_isMonth_5 (by decide) (fun h_2 => ?_) (fun h_2 => ?_)
  · refine lv_iconst (v := 0) hx hb dX0_isMonth_25 (by decide) ?_
    exact W.zret (v := 0) hx hb hr rfl (fun t ht hW => ⟨_, rfl, by rw [f_X0_isMonth, if_pos h_2], ht⟩) (fun _ h => by cases h) dX0_isMonth_26
  · refine lv_iload_n hx hb dX0_isMonth_8 rfl (lv_at hl 2 rfl) ?_
    refine lv_iconst (v := 1) hx hb dX0_isMonth_9 (by decide) ?_
    refine lv_icmp_lt (tgt := 25) hx hb dX0_isMonth_10 (by decide) (fun h_3 => ?_) (fun h_3 => ?_)
    · refine lv_iconst (v := 0) hx hb dX0_isMonth_25 (by decide) ?_
      exact W.zret (v := 0) hx hb hr rfl (fun t ht hW => ⟨_, rfl, by rw [f_X0_isMonth, if_neg h_2, if_pos h_3], ht⟩) (fun _ h => by cases h) dX0_isMonth_26
    · refine lv_iload_n hx hb dX0_isMonth_13 rfl (lv_at hl 2 rfl) ?_
      refine lv_iload_n hx hb dX0_isMonth_14 rfl (lv_at hl 0 rfl) ?_
      refine vp_callSi (va_Run.run (va_runS (As := [.int p0]) (rest := [.int p2]) ⟨hx, hb, hml, hown, hts⟩ (k_X0_months l p0) (va_cwS 1 hts gX0_isMonth_X0_months rfl rfl rfl (by decide +kernel) ⟨Nat.le_of_ble_eq_true rfl, Nat.le_of_ble_eq_true rfl⟩) ⟨fun _ _ _ _ q => q, fun _ _ _ => ⟨rfl, trivial⟩⟩ rfl rfl hl.1 rfl (lv_room (Nat.le_of_ble_eq_true rfl)) dX0_isMonth_15 ⟨Nat.le_of_ble_eq_true rfl, Nat.le_of_ble_eq_true rfl⟩)) (fun r_4 er_4 => ?_)
      subst er_4
      refine lv_icmp_gt (tgt := 25) hx hb dX0_isMonth_18 (by decide) (fun h_5 => ?_) (fun h_5 => ?_)
      · refine lv_iconst (v := 0) hx hb dX0_isMonth_25 (by decide) ?_
        exact W.zret (v := 0) hx hb hr rfl (fun t ht hW => ⟨_, rfl, by rw [f_X0_isMonth, if_neg h_2, if_neg h_3, if_pos h_5], ht⟩) (fun _ h => by cases h) dX0_isMonth_26
      · refine lv_iconst (v := 1) hx hb dX0_isMonth_21 (by decide) ?_
        refine lv_goto (tgt := 26) hx hb dX0_isMonth_22 (by decide) ?_
        exact W.zret (v := 1) hx hb hr rfl (fun t ht hW => ⟨_, rfl, by rw [f_X0_isMonth, if_neg h_2, if_neg h_3, if_neg h_5], ht⟩) (fun _ h => by cases h) dX0_isMonth_26

set_option maxHeartbeats 4000000 in
set_option maxRecDepth 100000 in
theorem k_X0_isLeap (l : Launch) (p0 p1 : Int32) : Met l yX0_isLeap wsX0_isLeap ({ frames := 0, cells := 0, slots := 0, locals := 0 }) (va_Pc [.int p0, .int p1] (fun _ => True)) (vp_Si (fun r => r = f_X0_isLeap p0 p1)) 0 0 (fun _ => False) := by
  refine Met.ofW (cc := cX0_isLeap) (maxL := 2) (ret := (some .boolean)) (by decide) rfl ?_
  intro p e s m args below meth c s₁ B hml hv
  obtain ⟨rfl, hcm⟩ := hv
  have hx := B.exec
  have hb := B.bytes
  have hr := B.returns
  have hts := atoms_spec (ws := wsX0_isLeap) B.pre
  have hown : s.vm.findClass RX0 = some m.cls := findClass_of_methodNamed B.named
  have hlocks := B.notSynchronized
  have hl := lv_entry ([.int p0, .int p1]) (n := 2) (Nat.le_of_ble_eq_true rfl)
  rw [lg_entry_eq]
  generalize (lg_sl ([.int p0, .int p1]) ++ List.replicate (2 - (lg_sl ([.int p0, .int p1])).length) Slot.unset).toArray = ls at hl ⊢
  have hl : lv_has ls 2 [(0, .int p0), (1, .int p1)] := hl
  refine lv_iload_n hx hb dX0_isLeap_0 rfl (lv_at hl 0 rfl) ?_
  refine lv_iconst (v := 2) hx hb dX0_isLeap_1 (by decide) ?_
  refine lv_icmp_eq (tgt := 11) hx hb dX0_isLeap_2 (by decide) (fun h_1 => ?_) (fun h_1 => ?_)
  · refine lv_iconst (v := 0) hx hb dX0_isLeap_11 (by decide) ?_
    exact W.zret (v := 0) hx hb hr rfl (fun t ht hW => ⟨_, rfl, by rw [f_X0_isLeap, if_pos h_1], ht⟩) (fun _ h => by cases h) dX0_isLeap_12
  · refine lv_iload_n hx hb dX0_isLeap_5 rfl (lv_at hl 1 rfl) ?_
    refine lv_iconst (v := 4) hx hb dX0_isLeap_6 (by decide) ?_
    refine lv_irem hx hb dX0_isLeap_7 (by decide) ?_
    refine lv_if_eq (tgt := 13) hx hb dX0_isLeap_8 (by decide) (fun h_2 => ?_) (fun h_2 => ?_)
    · refine lv_iload_n hx hb dX0_isLeap_13 rfl (lv_at hl 0 rfl) ?_
      refine lv_iconst (v := 1) hx hb dX0_isLeap_14 (by decide) ?_
      refine lv_icmp_eq (tgt := 33) hx hb dX0_isLeap_15 (by decide) (fun h_3 => ?_) (fun h_3 => ?_)
      · refine lv_iconst (v := 1) hx hb dX0_isLeap_33 (by decide) ?_
        refine lv_goto (tgt := 38) hx hb dX0_isLeap_34 (by decide) ?_
        exact W.zret (v := 1) hx hb hr rfl (fun t ht hW => ⟨_, rfl, by rw [f_X0_isLeap, if_neg h_1, if_pos h_2, if_pos h_3], ht⟩) (fun _ h => by cases h) dX0_isLeap_38
      · refine lv_iload_n hx hb dX0_isLeap_18 rfl (lv_at hl 1 rfl) ?_
        refine lv_bipush (v := 100) hx hb dX0_isLeap_19 (by decide) ?_
        refine lv_irem hx hb dX0_isLeap_21 (by decide) ?_
        refine lv_if_ne (tgt := 33) hx hb dX0_isLeap_22 (by decide) (fun h_4 => ?_) (fun h_4 => ?_)
        · refine lv_iconst (v := 1) hx hb dX0_isLeap_33 (by decide) ?_
          refine lv_goto (tgt := 38) hx hb dX0_isLeap_34 (by decide) ?_
          exact W.zret (v := 1) hx hb hr rfl (fun t ht hW => ⟨_, rfl, by rw [f_X0_isLeap, if_neg h_1, if_pos h_2, if_neg h_3, if_neg h_4], ht⟩) (fun _ h => by cases h) dX0_isLeap_38
        · refine lv_iload_n hx hb dX0_isLeap_25 rfl (lv_at hl 1 rfl) ?_
          refine lv_sipush (v := 400) hx hb dX0_isLeap_26 (by decide) ?_
          refine lv_irem hx hb dX0_isLeap_29 (by decide) ?_
          refine lv_if_ne (tgt := 37) hx hb dX0_isLeap_30 (by decide) (fun h_5 => ?_) (fun h_5 => ?_)
          · refine lv_iconst (v := 0) hx hb dX0_isLeap_37 (by decide) ?_
            exact W.zret (v := 0) hx hb hr rfl (fun t ht hW => ⟨_, rfl, by rw [f_X0_isLeap, if_neg h_1, if_pos h_2, if_neg h_3, if_pos h_4, if_neg h_5], ht⟩) (fun _ h => by cases h) dX0_isLeap_38
          · refine lv_iconst (v := 1) hx hb dX0_isLeap_33 (by decide) ?_
            refine lv_goto (tgt := 38) hx hb dX0_isLeap_34 (by decide) ?_
            exact W.zret (v := 1) hx hb hr rfl (fun t ht hW => ⟨_, rfl, by rw [f_X0_isLeap, if_neg h_1, if_pos h_2, if_neg h_3, if_pos h_4, if_pos h_5], ht⟩) (fun _ h => by cases h) dX0_isLeap_38
    · refine lv_iconst (v := 0) hx hb dX0_isLeap_11 (by decide) ?_
      exact W.zret (v := 0) hx hb hr rfl (fun t ht hW => ⟨_, rfl, by rw [f_X0_isLeap, if_neg h_1, if_neg h_2], ht⟩) (fun _ h => by cases h) dX0_isLeap_12

theorem ix_sub1 {x : Int32} (h1 : ¬ x < 1) (h2 : x ≤ 12) : vp_in (x - 1) 12 := by
  rw [vp_in_iff]
  rw [Int32.lt_iff_toInt_lt] at h1
  rw [Int32.le_iff_toInt_le] at h2
  have e1 : (1 : Int32).toInt = 1 := rfl
  have e2 : (12 : Int32).toInt = 12 := rfl
  rw [e1] at h1
  rw [e2] at h2
  have e : (x - 1).toInt = x.toInt - 1 := by
    rw [Int32.toInt_sub, e1]
    rw [Int.bmod_eq_of_le (by omega) (by omega)]
  omega

set_option maxHeartbeats 4000000 in
set_option maxRecDepth 100000 in
theorem k_X0_monthDays (l : Launch) (p0 p1 p2 : Int32) : Met l yX0_monthDays wsX0_monthDays ({ frames := 1, cells := 0, slots := 0, locals := 21 }) (va_Pc [.int p0, .int p1, .int p2] cm_ok) (vp_Si (fun r => r = f_X0_monthDays p0 p1 p2)) 0 0 (fun _ => False) := by
  refine Met.ofW (cc := cX0_monthDays) (maxL := 3) (ret := (some .int)) (by decide) rfl ?_
  intro p e s m args below meth c s₁ B hml hv
  obtain ⟨rfl, hcm⟩ := hv
  have hx := B.exec
  have hb := B.bytes
  have hr := B.returns
  have hts := atoms_spec (ws := wsX0_monthDays) B.pre
  have hown : s.vm.findClass RX0 = some m.cls := findClass_of_methodNamed B.named
  have hlocks := B.notSynchronized
  have hl := lv_entry ([.int p0, .int p1, .int p2]) (n := 3) (Nat.le_of_ble_eq_true rfl)
  rw [lg_entry_eq]
  generalize (lg_sl ([.int p0, .int p1, .int p2]) ++ List.replicate (3 - (lg_sl ([.int p0, .int p1, .int p2])).length) Slot.unset).toArray = ls at hl ⊢
  have hl : lv_has ls 3 [(0, .int p0), (1, .int p1), (2, .int p2)] := hl
  obtain ⟨⟨tt, hZ, hT⟩, hN⟩ := id hcm
  have hS : va_S (fun _ => False) s.heap s.heap [] := va_S.rf
  refine lv_iload_n hx hb dX0_monthDays_0 rfl (lv_at hl 0 rfl) ?_
  refine lv_iconst (v := 2) hx hb dX0_monthDays_1 (by decide) ?_
  refine lv_icmp_ne (tgt := 18) hx hb dX0_monthDays_2 (by decide) (fun h_1 => ?_) (fun h_1 => ?_)
  · refine lv_iload_n hx hb dX0_monthDays_18 rfl (lv_at hl 2 rfl) ?_
    refine lv_iconst (v := 1) hx hb dX0_monthDays_19 (by decide) ?_
    refine lv_icmp_lt (tgt := 31) hx hb dX0_monthDays_20 (by decide) (fun h_2 => ?_) (fun h_2 => ?_)
    · refine lv_iconst (v := 0) hx hb dX0_monthDays_31 (by decide) ?_
      exact W.iret (v := 0) hx hb hr (fun t ht hW => ⟨_, rfl, by rw [f_X0_monthDays, if_neg h_1, if_pos h_2], ht⟩) (fun _ h => by cases h) dX0_monthDays_32
    · refine lv_iload_n hx hb dX0_monthDays_23 rfl (lv_at hl 2 rfl) ?_
      refine va_gets (own := RX0) (ref := "DayBench$Calendars") hx hb hZ hS hown (hts (.fieldLink RX0 23 "DayBench$Calendars" "MONTH_DAYS" "[I") (by decide +kernel)) (fun _ h9 => h9) dX0_monthDays_24 ?_
      refine va_tlen (v := 12) hx hb hT hS rfl dX0_monthDays_27 ?_
      refine lv_icmp_le (tgt := 33) hx hb dX0_monthDays_28 (by decide) (fun h_3 => ?_) (fun h_3 => ?_)
      · refine lv_iload_n hx hb dX0_monthDays_33 rfl (lv_at hl 2 rfl) ?_
        refine lv_iconst (v := 2) hx hb dX0_monthDays_34 (by decide) ?_
        refine lv_icmp_ne (tgt := 51) hx hb dX0_monthDays_35 (by decide) (fun h_4 => ?_) (fun h_4 => ?_)
        · refine va_gets (own := RX0) (ref := "DayBench$Calendars") hx hb hZ hS hown (hts (.fieldLink RX0 23 "DayBench$Calendars" "MONTH_DAYS" "[I") (by decide +kernel)) (fun _ h9 => h9) dX0_monthDays_51 ?_
          refine lv_iload_n hx hb dX0_monthDays_54 rfl (lv_at hl 2 rfl) ?_
          refine lv_iconst (v := 1) hx hb dX0_monthDays_55 (by decide) ?_
          refine lv_isub hx hb dX0_monthDays_56 ?_
          refine va_ti (v := .int (md_tab (p2 - 1).toNatClampNeg)) hx hb hT hS (ix_sub1 h_2 h_3) rfl dX0_monthDays_57 ?_
          exact W.iret (v := md_tab (p2 - 1).toNatClampNeg) hx hb hr (fun t ht hW => ⟨_, rfl, by rw [f_X0_monthDays, if_neg h_1, if_neg h_2, if_pos h_3, if_neg h_4], ht⟩) (fun _ h => by cases h) dX0_monthDays_58
        · refine lv_iload_n hx hb dX0_monthDays_38 rfl (lv_at hl 0 rfl) ?_
          refine lv_iload_n hx hb dX0_monthDays_39 rfl (lv_at hl 1 rfl) ?_
          refine vp_callSi (va_Run.run (va_runS (As := [.int p0, .int p1]) (rest := []) ⟨hx, hb, hml, hown, hts⟩ (k_X0_isLeap l p0 p1) (va_cwS 2 hts gX0_monthDays_X0_isLeap rfl rfl rfl (by decide +kernel) ⟨Nat.le_of_ble_eq_true rfl, Nat.le_of_ble_eq_true rfl⟩) ⟨fun _ _ _ _ q => q, fun _ _ _ => ⟨rfl, trivial⟩⟩ rfl rfl hl.1 rfl (lv_room (Nat.le_of_ble_eq_true rfl)) dX0_monthDays_40 ⟨Nat.le_of_ble_eq_true rfl, Nat.le_of_ble_eq_true rfl⟩)) (fun r_5 er_5 => ?_)
          subst er_5
          refine lv_if_eq (tgt := 51) hx hb dX0_monthDays_43 (by decide) (fun h_6 => ?_) (fun h_6 => ?_)
          · refine va_gets (own := RX0) (ref := "DayBench$Calendars") hx hb hZ hS hown (hts (.fieldLink RX0 23 "DayBench$Calendars" "MONTH_DAYS" "[I") (by decide +kernel)) (fun _ h9 => h9) dX0_monthDays_51 ?_
            refine lv_iload_n hx hb dX0_monthDays_54 rfl (lv_at hl 2 rfl) ?_
            refine lv_iconst (v := 1) hx hb dX0_monthDays_55 (by decide) ?_
            refine lv_isub hx hb dX0_monthDays_56 ?_
            refine va_ti (v := .int (md_tab (p2 - 1).toNatClampNeg)) hx hb hT hS (ix_sub1 h_2 h_3) rfl dX0_monthDays_57 ?_
            exact W.iret (v := md_tab (p2 - 1).toNatClampNeg) hx hb hr (fun t ht hW => ⟨_, rfl, by rw [f_X0_monthDays, if_neg h_1, if_neg h_2, if_pos h_3, if_pos h_4, if_pos h_6], ht⟩) (fun _ h => by cases h) dX0_monthDays_58
          · refine lv_bipush (v := 29) hx hb dX0_monthDays_46 (by decide) ?_
            refine lv_goto (tgt := 58) hx hb dX0_monthDays_48 (by decide) ?_
            exact W.iret (v := 29) hx hb hr (fun t ht hW => ⟨_, rfl, by rw [f_X0_monthDays, if_neg h_1, if_neg h_2, if_pos h_3, if_pos h_4, if_neg h_6], ht⟩) (fun _ h => by cases h) dX0_monthDays_58
      · refine lv_iconst (v := 0) hx hb dX0_monthDays_31 (by decide) ?_
        exact W.iret (v := 0) hx hb hr (fun t ht hW => ⟨_, rfl, by rw [f_X0_monthDays, if_neg h_1, if_neg h_2, if_neg h_3], ht⟩) (fun _ h => by cases h) dX0_monthDays_32
  · refine lv_iload_n hx hb dX0_monthDays_5 rfl (lv_at hl 2 rfl) ?_
    refine lv_bipush (v := 13) hx hb dX0_monthDays_6 (by decide) ?_
    refine lv_icmp_ne (tgt := 15) hx hb dX0_monthDays_8 (by decide) (fun h_7 => ?_) (fun h_7 => ?_)
    · refine lv_bipush (v := 30) hx hb dX0_monthDays_15 (by decide) ?_
      exact W.iret (v := 30) hx hb hr (fun t ht hW => ⟨_, rfl, by rw [f_X0_monthDays, if_pos h_1, if_neg h_7], ht⟩) (fun _ h => by cases h) dX0_monthDays_17
    · refine lv_iconst (v := 5) hx hb dX0_monthDays_11 (by decide) ?_
      refine lv_goto (tgt := 17) hx hb dX0_monthDays_12 (by decide) ?_
      exact W.iret (v := 5) hx hb hr (fun t ht hW => ⟨_, rfl, by rw [f_X0_monthDays, if_pos h_1, if_pos h_7], ht⟩) (fun _ h => by cases h) dX0_monthDays_17

set_option maxHeartbeats 4000000 in
set_option maxRecDepth 100000 in
theorem k_X0_yearStart (l : Launch) (p0 p1 : Int32) : Met l yX0_yearStart wsX0_yearStart ({ frames := 0, cells := 0, slots := 0, locals := 0 }) (va_Pc [.int p0, .int p1] (fun _ => True)) (vp_Si (fun r => r = f_X0_yearStart p0 p1)) 0 0 (fun _ => False) := by
  refine Met.ofW (cc := cX0_yearStart) (maxL := 4) (ret := (some .int)) (by decide) rfl ?_
  intro p e s m args below meth c s₁ B hml hv
  obtain ⟨rfl, hcm⟩ := hv
  have hx := B.exec
  have hb := B.bytes
  have hr := B.returns
  have hts := atoms_spec (ws := wsX0_yearStart) B.pre
  have hown : s.vm.findClass RX0 = some m.cls := findClass_of_methodNamed B.named
  have hlocks := B.notSynchronized
  have hl := lv_entry ([.int p0, .int p1]) (n := 4) (Nat.le_of_ble_eq_true rfl)
  rw [lg_entry_eq]
  generalize (lg_sl ([.int p0, .int p1]) ++ List.replicate (4 - (lg_sl ([.int p0, .int p1])).length) Slot.unset).toArray = ls at hl ⊢
  have hl : lv_has ls 4 [(0, .int p0), (1, .int p1)] := hl
  refine lv_iload_n hx hb dX0_yearStart_0 rfl (lv_at hl 1 rfl) ?_
  refine lv_iconst (v := 1) hx hb dX0_yearStart_1 (by decide) ?_
  refine lv_isub hx hb dX0_yearStart_2 ?_
  refine lv_istore_n (lv' := [(2, .int (p1 - 1)), (0, .int p0), (1, .int p1)]) hx hb dX0_yearStart_3 rfl hl (by decide) rfl (fun ls hl => ?_)
  refine lv_sipush (v := 365) hx hb dX0_yearStart_4 (by decide) ?_
  refine lv_iload_n hx hb dX0_yearStart_7 rfl (lv_at hl 0 rfl) ?_
  refine lv_imul hx hb dX0_yearStart_8 ?_
  refine lv_istore_n (lv' := [(3, .int (365 * (p1 - 1))), (2, .int (p1 - 1)), (0, .int p0), (1, .int p1)]) hx hb dX0_yearStart_9 rfl hl (by decide) rfl (fun ls hl => ?_)
  refine lv_iload_n hx hb dX0_yearStart_10 rfl (lv_at hl 2 rfl) ?_
  refine lv_if_ne (tgt := 31) hx hb dX0_yearStart_11 (by decide) (fun h_1 => ?_) (fun h_1 => ?_)
  · refine lv_iload_n hx hb dX0_yearStart_31 rfl (lv_at hl 2 rfl) ?_
    refine lv_iconst (v := 1) hx hb dX0_yearStart_32 (by decide) ?_
    refine lv_icmp_ne (tgt := 46) hx hb dX0_yearStart_33 (by decide) (fun h_2 => ?_) (fun h_2 => ?_)
    · refine lv_iload_n hx hb dX0_yearStart_46 rfl (lv_at hl 0 rfl) ?_
      exact W.iret (v := 365 * (p1 - 1)) hx hb hr (fun t ht hW => ⟨_, rfl, by rw [f_X0_yearStart, if_neg h_1, if_neg h_2], ht⟩) (fun _ h => by cases h) dX0_yearStart_47
    · refine lv_iload_n hx hb dX0_yearStart_36 rfl (lv_at hl 0 rfl) ?_
      refine lv_iload_n hx hb dX0_yearStart_37 rfl (lv_at hl 1 rfl) ?_
      refine lv_iconst (v := 4) hx hb dX0_yearStart_38 (by decide) ?_
      refine lv_idiv hx hb dX0_yearStart_39 (by decide) ?_
      refine lv_iadd hx hb dX0_yearStart_40 ?_
      refine lv_iconst (v := 2) hx hb dX0_yearStart_41 (by decide) ?_
      refine lv_isub hx hb dX0_yearStart_42 ?_
      refine lv_goto (tgt := 47) hx hb dX0_yearStart_43 (by decide) ?_
      exact W.iret (v := ((365 * (p1 - 1)) + ((p1 - 1) / 4)) - 2) hx hb hr (fun t ht hW => ⟨_, rfl, by rw [f_X0_yearStart, if_neg h_1, if_pos h_2], ht⟩) (fun _ h => by cases h) dX0_yearStart_47
  · refine lv_iload_n hx hb dX0_yearStart_14 rfl (lv_at hl 0 rfl) ?_
    refine lv_iload_n hx hb dX0_yearStart_15 rfl (lv_at hl 1 rfl) ?_
    refine lv_iconst (v := 4) hx hb dX0_yearStart_16 (by decide) ?_
    refine lv_idiv hx hb dX0_yearStart_17 (by decide) ?_
    refine lv_iadd hx hb dX0_yearStart_18 ?_
    refine lv_iload_n hx hb dX0_yearStart_19 rfl (lv_at hl 1 rfl) ?_
    refine lv_bipush (v := 100) hx hb dX0_yearStart_20 (by decide) ?_
    refine lv_idiv hx hb dX0_yearStart_22 (by decide) ?_
    refine lv_isub hx hb dX0_yearStart_23 ?_
    refine lv_iload_n hx hb dX0_yearStart_24 rfl (lv_at hl 1 rfl) ?_
    refine lv_sipush (v := 400) hx hb dX0_yearStart_25 (by decide) ?_
    refine lv_idiv hx hb dX0_yearStart_28 (by decide) ?_
    refine lv_iadd hx hb dX0_yearStart_29 ?_
    exact W.iret (v := (((365 * (p1 - 1)) + ((p1 - 1) / 4)) - ((p1 - 1) / 100)) + ((p1 - 1) / 400)) hx hb hr (fun t ht hW => ⟨_, rfl, by rw [f_X0_yearStart, if_pos h_1], ht⟩) (fun _ h => by cases h) dX0_yearStart_30

set_option maxHeartbeats 4000000 in
set_option maxRecDepth 100000 in
theorem k_X5_isDay (l : Launch) (p0 : Int32) : Met l yX5_isDay wsX5_isDay ({ frames := 0, cells := 0, slots := 0, locals := 0 }) (va_Pc [.int p0] (fun _ => True)) (vp_Si (fun r => r = f_X5_isDay p0)) 0 0 (fun _ => False) := by
  refine Met.ofW (cc := cX5_isDay) (maxL := 1) (ret := (some .boolean)) (by decide) rfl ?_
  intro p e s m args below meth c s₁ B hml hv
  obtain ⟨rfl, hcm⟩ := hv
  have hx := B.exec
  have hb := B.bytes
  have hr := B.returns
  have hts := atoms_spec (ws := wsX5_isDay) B.pre
  have hown : s.vm.findClass RX5 = some m.cls := findClass_of_methodNamed B.named
  have hlocks := B.notSynchronized
  have hl := lv_entry ([.int p0]) (n := 1) (Nat.le_of_ble_eq_true rfl)
  rw [lg_entry_eq]
  generalize (lg_sl ([.int p0]) ++ List.replicate (1 - (lg_sl ([.int p0])).length) Slot.unset).toArray = ls at hl ⊢
  have hl : lv_has ls 1 [(0, .int p0)] := hl
  refine lv_iload_n hx hb dX5_isDay_0 rfl (lv_at hl 0 rfl) ?_
  refine lv_if_lt (tgt := 14) hx hb dX5_isDay_1 (by decide) (fun h_1 => ?_) (fun h_1 => ?_)
  · refine lv_iconst (v := 0) hx hb dX5_isDay_14 (by decide) ?_
    exact W.zret (v := 0) hx hb hr rfl (fun t ht hW => ⟨_, rfl, by rw [f_X5_isDay, if_pos h_1], ht⟩) (fun _ h => by cases h) dX5_isDay_15
  · refine lv_iload_n hx hb dX5_isDay_4 rfl (lv_at hl 0 rfl) ?_
    refine lv_ldc (own := RX5) (v := 985999) hx hb hown (hts (.constant RX5 225 (985999)) (by decide +kernel)) dX5_isDay_5 ?_
    refine lv_icmp_gt (tgt := 14) hx hb dX5_isDay_7 (by decide) (fun h_2 => ?_) (fun h_2 => ?_)
    · refine lv_iconst (v := 0) hx hb dX5_isDay_14 (by decide) ?_
      exact W.zret (v := 0) hx hb hr rfl (fun t ht hW => ⟨_, rfl, by rw [f_X5_isDay, if_neg h_1, if_pos h_2], ht⟩) (fun _ h => by cases h) dX5_isDay_15
    · refine lv_iconst (v := 1) hx hb dX5_isDay_10 (by decide) ?_
      refine lv_goto (tgt := 15) hx hb dX5_isDay_11 (by decide) ?_
      exact W.zret (v := 1) hx hb hr rfl (fun t ht hW => ⟨_, rfl, by rw [f_X5_isDay, if_neg h_1, if_neg h_2], ht⟩) (fun _ h => by cases h) dX5_isDay_15


set_option maxHeartbeats 4000000 in
set_option maxRecDepth 100000 in
theorem k_X0_monthStart (l : Launch) (p0 p1 p2 : Int32) (M : Nat) (hM : M < 13) (h2 : p2 = nI (M + 1)) : Met l yX0_monthStart wsX0_monthStart ({ frames := 2, cells := 0, slots := 0, locals := 43 }) (va_Pc [.int p0, .int p1, .int p2] cm_ok) (vp_Si (fun r => r = ms_C p0 p1 M)) 0 0 (fun _ => False) := by
  refine Met.ofW (cc := cX0_monthStart) (maxL := 5) (ret := (some .int)) (by decide) rfl ?_
  intro p e s m args below meth c s₁ B hml hv
  obtain ⟨rfl, hcm⟩ := hv
  have hx := B.exec
  have hb := B.bytes
  have hr := B.returns
  have hts := atoms_spec (ws := wsX0_monthStart) B.pre
  have hown : s.vm.findClass RX0 = some m.cls := findClass_of_methodNamed B.named
  have hlocks := B.notSynchronized
  have hl := lv_entry ([.int p0, .int p1, .int p2]) (n := 5) (Nat.le_of_ble_eq_true rfl)
  rw [lg_entry_eq]
  generalize (lg_sl ([.int p0, .int p1, .int p2]) ++ List.replicate (5 - (lg_sl ([.int p0, .int p1, .int p2])).length) Slot.unset).toArray = ls at hl ⊢
  have hl : lv_has ls 5 [(0, .int p0), (1, .int p1), (2, .int p2)] := hl
  refine lv_iload_n hx hb dX0_monthStart_0 rfl (lv_at hl 0 rfl) ?_
  refine lv_iload_n hx hb dX0_monthStart_1 rfl (lv_at hl 1 rfl) ?_
  refine vp_callSi (va_Run.run (va_runS (As := [.int p0, .int p1]) (rest := []) ⟨hx, hb, hml, hown, hts⟩ (k_X0_yearStart l p0 p1) (va_cwS 2 hts gX0_monthStart_X0_yearStart rfl rfl rfl (by decide +kernel) ⟨Nat.le_of_ble_eq_true rfl, Nat.le_of_ble_eq_true rfl⟩) ⟨fun _ _ _ _ q => q, fun _ _ _ => ⟨rfl, trivial⟩⟩ rfl rfl hl.1 rfl (lv_room (Nat.le_of_ble_eq_true rfl)) dX0_monthStart_2 ⟨Nat.le_of_ble_eq_true rfl, Nat.le_of_ble_eq_true rfl⟩)) (fun r_1 er_1 => ?_)
  subst er_1
  refine lv_istore_n (lv' := [(3, .int (f_X0_yearStart p0 p1)), (0, .int p0), (1, .int p1), (2, .int p2)]) hx hb dX0_monthStart_5 rfl hl (by decide) rfl (fun ls hl => ?_)
  refine lv_iconst (v := 1) hx hb dX0_monthStart_6 (by decide) ?_
  refine lv_istore (lv' := [(4, .int 1), (3, .int (f_X0_yearStart p0 p1)), (0, .int p0), (1, .int p1), (2, .int p2)]) hx hb dX0_monthStart_7 hl (by decide) rfl (fun ls hl => ?_)
  have hloop : ∀ (n j : Nat), j ≤ M → M < j + n → ∀ (ls : Array Slot), lv_has ls 5 [(4, .int (nI (j + 1))), (3, .int (ms_C p0 p1 j)), (0, .int p0), (1, .int p1), (2, .int p2)] → W p l e (headSpec wsX0_monthStart ({ frames := 2, cells := 0, slots := 0, locals := 43 })).room s m [.int p0, .int p1, .int p2].toArray below meth c s.heap [] 0 0 (MQ below (vp_Si (fun r => r = ms_C p0 p1 M)) [.int p0, .int p1, .int p2].toArray s 0 0 (fun _ => False)) (F0 m 9 ls []) := by
    intro n
    induction n with
    | zero => intro j h1 h3; omega
    | succ n ih =>
      intro j hj hn ls hl
      refine lv_iload hx hb dX0_monthStart_9 (lv_at hl 0 rfl) ?_
      refine lv_iload_n hx hb dX0_monthStart_11 rfl (lv_at hl 4 rfl) ?_
      refine lv_icmp_ge (tgt := 31) hx hb dX0_monthStart_12 (by decide) (fun h_2 => ?_) (fun h_2 => ?_)
      · refine lv_iload_n hx hb dX0_monthStart_31 rfl (lv_at hl 1 rfl) ?_
        exact W.iret (v := ms_C p0 p1 j) hx hb hr (fun t ht hW => ⟨_, rfl, by rw [show j = M by have hh := h_2; rw [h2] at hh; have := (nI_leI (by omega) (by omega)).mp hh; omega], ht⟩) (fun _ h => by cases h) dX0_monthStart_32
      · refine lv_iload_n hx hb dX0_monthStart_15 rfl (lv_at hl 1 rfl) ?_
        refine lv_iload_n hx hb dX0_monthStart_16 rfl (lv_at hl 2 rfl) ?_
        refine lv_iload_n hx hb dX0_monthStart_17 rfl (lv_at hl 3 rfl) ?_
        refine lv_iload hx hb dX0_monthStart_18 (lv_at hl 0 rfl) ?_
        refine vp_callSi (va_Run.run (va_runS (As := [.int p0, .int p1, .int (nI (j + 1))]) (rest := [.int (ms_C p0 p1 j)]) ⟨hx, hb, hml, hown, hts⟩ (k_X0_monthDays l p0 p1 (nI (j + 1))) (va_cwS 3 hts gX0_monthStart_X0_monthDays rfl rfl rfl (by decide +kernel) ⟨Nat.le_of_ble_eq_true rfl, Nat.le_of_ble_eq_true rfl⟩) ⟨cm_blind, fun U hU hW => ⟨rfl, cm_warm hcm hU hW⟩⟩ rfl rfl hl.1 rfl (lv_room (Nat.le_of_ble_eq_true rfl)) dX0_monthStart_20 ⟨Nat.le_of_ble_eq_true rfl, Nat.le_of_ble_eq_true rfl⟩)) (fun r_3 er_3 => ?_)
        subst er_3
        refine lv_iadd hx hb dX0_monthStart_23 ?_
        refine lv_istore_n (lv' := [(3, .int ((ms_C p0 p1 j) + (f_X0_monthDays p0 p1 (nI (j + 1))))), (4, .int (nI (j + 1))), (0, .int p0), (1, .int p1), (2, .int p2)]) hx hb dX0_monthStart_24 rfl hl (by decide) rfl (fun ls hl => ?_)
        obtain ⟨x_4, ex_4⟩ : ∃ y : Int32, y = (nI (j + 1)) + 1 := ⟨_, rfl⟩
        refine lv_iinc (v := x_4) (lv' := [(4, .int x_4), (3, .int ((ms_C p0 p1 j) + (f_X0_monthDays p0 p1 (nI (j + 1))))), (0, .int p0), (1, .int p1), (2, .int p2)]) hx hb dX0_monthStart_25 hl (k := 1) rfl (by rw [ex_4]; rfl) (by decide) rfl (fun ls hl => ?_)
        refine lv_goto (tgt := 9) hx hb dX0_monthStart_28 (by decide) ?_
        have hjM : ¬ M ≤ j := fun q => h_2 (by rw [h2]; exact nI_le (by omega) (by omega))
        have e4 : x_4 = nI (j + 1 + 1) := by rw [ex_4, nI_1]
        rw [e4] at hl
        exact ih (j + 1) (by omega) (by omega) ls (lv_sub hl [0, 1, 2, 3, 4] rfl)
  exact hloop (M + 1) 0 (Nat.zero_le _) (by omega) ls (lv_sub hl [0, 1, 2, 3, 4] rfl)

theorem im_M {a b c : Int32} (h : ¬ f_X0_isMonth a b c = 0) : c.toNatClampNeg - 1 < 13 ∧ c = nI (c.toNatClampNeg - 1 + 1) := by
  have h1 : ¬ c < 1 := fun q => h (by rw [f_X0_isMonth]; by_cases z : f_X0_isYear a b = 0; rw [if_pos z]; rw [if_neg z, if_pos q])
  have h2 : ¬ f_X0_months a < c := fun q => h (by rw [f_X0_isMonth]; by_cases z : f_X0_isYear a b = 0; rw [if_pos z]; rw [if_neg z, if_neg h1, if_pos q])
  have h3 : c ≤ 13 := by
    have e := Int32.not_lt.mp h2
    unfold f_X0_months at e
    split at e
    · exact e
    · exact Int32.le_trans e (by decide)
  obtain ⟨j, hj, rfl⟩ := nI_of2 (M := 13) (n := 13) rfl (fun q => h1 (Int32.lt_trans q (by decide))) h3
  have hj1 : 1 ≤ j := by
    rcases Nat.eq_zero_or_pos j with q | q
    · subst q; exact absurd (by decide) h1
    · exact q
  rw [nI_clamp (by omega)]
  exact ⟨by omega, by rw [show j - 1 + 1 = j by omega]⟩

set_option maxHeartbeats 4000000 in
set_option maxRecDepth 100000 in
theorem k_X0_dayOf (l : Launch) (p0 p1 p2 p3 : Int32) : Met l yX0_dayOf wsX0_dayOf ({ frames := 3, cells := 0, slots := 0, locals := 67 }) (va_Pc [.int p0, .int p1, .int p2, .int p3] cm_ok) (vp_Si (fun r => r = f_X0_dayOf p0 p1 p2 p3)) 0 0 (fun _ => False) := by
  refine Met.ofW (cc := cX0_dayOf) (maxL := 5) (ret := (some .int)) (by decide) rfl ?_
  intro p e s m args below meth c s₁ B hml hv
  obtain ⟨rfl, hcm⟩ := hv
  have hx := B.exec
  have hb := B.bytes
  have hr := B.returns
  have hts := atoms_spec (ws := wsX0_dayOf) B.pre
  have hown : s.vm.findClass RX0 = some m.cls := findClass_of_methodNamed B.named
  have hlocks := B.notSynchronized
  have hl := lv_entry ([.int p0, .int p1, .int p2, .int p3]) (n := 5) (Nat.le_of_ble_eq_true rfl)
  rw [lg_entry_eq]
  generalize (lg_sl ([.int p0, .int p1, .int p2, .int p3]) ++ List.replicate (5 - (lg_sl ([.int p0, .int p1, .int p2, .int p3])).length) Slot.unset).toArray = ls at hl ⊢
  have hl : lv_has ls 5 [(0, .int p0), (1, .int p1), (2, .int p2), (3, .int p3)] := hl
  refine lv_iload_n hx hb dX0_dayOf_0 rfl (lv_at hl 0 rfl) ?_
  refine lv_iload_n hx hb dX0_dayOf_1 rfl (lv_at hl 1 rfl) ?_
  refine lv_iload_n hx hb dX0_dayOf_2 rfl (lv_at hl 2 rfl) ?_
  refine vp_callSi (va_Run.run (va_runS (As := [.int p0, .int p1, .int p2]) (rest := []) ⟨hx, hb, hml, hown, hts⟩ (k_X0_isMonth l p0 p1 p2) (va_cwS 3 hts gX0_dayOf_X0_isMonth rfl rfl rfl (by decide +kernel) ⟨Nat.le_of_ble_eq_true rfl, Nat.le_of_ble_eq_true rfl⟩) ⟨fun _ _ _ _ q => q, fun _ _ _ => ⟨rfl, trivial⟩⟩ rfl rfl hl.1 rfl (lv_room (Nat.le_of_ble_eq_true rfl)) dX0_dayOf_3 ⟨Nat.le_of_ble_eq_true rfl, Nat.le_of_ble_eq_true rfl⟩)) (fun r_1 er_1 => ?_)
  subst er_1
  refine lv_if_eq (tgt := 24) hx hb dX0_dayOf_6 (by decide) (fun h_2 => ?_) (fun h_2 => ?_)
  · refine lv_iconst (v := (-1)) hx hb dX0_dayOf_24 (by decide) ?_
    exact W.iret (v := (-1)) hx hb hr (fun t ht hW => ⟨_, rfl, by rw [f_X0_dayOf, if_pos h_2], ht⟩) (fun _ h => by cases h) dX0_dayOf_25
  · refine lv_iload_n hx hb dX0_dayOf_9 rfl (lv_at hl 3 rfl) ?_
    refine lv_iconst (v := 1) hx hb dX0_dayOf_10 (by decide) ?_
    refine lv_icmp_lt (tgt := 24) hx hb dX0_dayOf_11 (by decide) (fun h_3 => ?_) (fun h_3 => ?_)
    · refine lv_iconst (v := (-1)) hx hb dX0_dayOf_24 (by decide) ?_
      exact W.iret (v := (-1)) hx hb hr (fun t ht hW => ⟨_, rfl, by rw [f_X0_dayOf, if_neg h_2, if_pos h_3], ht⟩) (fun _ h => by cases h) dX0_dayOf_25
    · refine lv_iload_n hx hb dX0_dayOf_14 rfl (lv_at hl 3 rfl) ?_
      refine lv_iload_n hx hb dX0_dayOf_15 rfl (lv_at hl 0 rfl) ?_
      refine lv_iload_n hx hb dX0_dayOf_16 rfl (lv_at hl 1 rfl) ?_
      refine lv_iload_n hx hb dX0_dayOf_17 rfl (lv_at hl 2 rfl) ?_
      refine vp_callSi (va_Run.run (va_runS (As := [.int p0, .int p1, .int p2]) (rest := [.int p3]) ⟨hx, hb, hml, hown, hts⟩ (k_X0_monthDays l p0 p1 p2) (va_cwS 3 hts gX0_dayOf_X0_monthDays rfl rfl rfl (by decide +kernel) ⟨Nat.le_of_ble_eq_true rfl, Nat.le_of_ble_eq_true rfl⟩) ⟨cm_blind, fun U hU hW => ⟨rfl, cm_warm hcm hU hW⟩⟩ rfl rfl hl.1 rfl (lv_room (Nat.le_of_ble_eq_true rfl)) dX0_dayOf_18 ⟨Nat.le_of_ble_eq_true rfl, Nat.le_of_ble_eq_true rfl⟩)) (fun r_4 er_4 => ?_)
      subst er_4
      refine lv_icmp_le (tgt := 26) hx hb dX0_dayOf_21 (by decide) (fun h_5 => ?_) (fun h_5 => ?_)
      · refine lv_iload_n hx hb dX0_dayOf_26 rfl (lv_at hl 0 rfl) ?_
        refine lv_iload_n hx hb dX0_dayOf_27 rfl (lv_at hl 1 rfl) ?_
        refine lv_iload_n hx hb dX0_dayOf_28 rfl (lv_at hl 2 rfl) ?_
        refine vp_callSi (va_Run.run (va_runS (As := [.int p0, .int p1, .int p2]) (rest := []) ⟨hx, hb, hml, hown, hts⟩ (k_X0_monthStart l p0 p1 p2 (p2.toNatClampNeg - 1) (im_M h_2).1 (im_M h_2).2) (va_cwS 3 hts gX0_dayOf_X0_monthStart rfl rfl rfl (by decide +kernel) ⟨Nat.le_of_ble_eq_true rfl, Nat.le_of_ble_eq_true rfl⟩) ⟨cm_blind, fun U hU hW => ⟨rfl, cm_warm hcm hU hW⟩⟩ rfl rfl hl.1 rfl (lv_room (Nat.le_of_ble_eq_true rfl)) dX0_dayOf_29 ⟨Nat.le_of_ble_eq_true rfl, Nat.le_of_ble_eq_true rfl⟩)) (fun r_6 er_6 => ?_)
        subst er_6
        refine lv_iload_n hx hb dX0_dayOf_32 rfl (lv_at hl 3 rfl) ?_
        refine lv_iadd hx hb dX0_dayOf_33 ?_
        refine lv_iconst (v := 1) hx hb dX0_dayOf_34 (by decide) ?_
        refine lv_isub hx hb dX0_dayOf_35 ?_
        refine lv_istore (lv' := [(4, .int (((ms_C p0 p1 (p2.toNatClampNeg - 1)) + p3) - 1)), (0, .int p0), (1, .int p1), (2, .int p2), (3, .int p3)]) hx hb dX0_dayOf_36 hl (by decide) rfl (fun ls hl => ?_)
        refine lv_iload hx hb dX0_dayOf_38 (lv_at hl 0 rfl) ?_
        refine vp_callSi (va_Run.run (va_runSN (As := [.int (((ms_C p0 p1 (p2.toNatClampNeg - 1)) + p3) - 1)]) (rest := []) ⟨hx, hb, hml, hown, hts⟩ (k_X5_isDay l (((ms_C p0 p1 (p2.toNatClampNeg - 1)) + p3) - 1)) ⟨va_cnB (host := "DayBench") 1 hts gX0_dayOf_X5_isDay_n45 rfl rfl rfl hcm.2 (hts (.initialized RX5) (by decide +kernel)) (by decide +kernel) ⟨Nat.le_of_ble_eq_true rfl, Nat.le_of_ble_eq_true rfl⟩, hts (.static yX5_isDay) (by decide +kernel), trivial⟩ ⟨fun _ _ _ _ q => q, fun _ _ _ => ⟨rfl, trivial⟩⟩ rfl rfl hl.1 rfl (lv_room (Nat.le_of_ble_eq_true rfl)) dX0_dayOf_40 ⟨Nat.le_of_ble_eq_true rfl, Nat.le_of_ble_eq_true rfl⟩)) (fun r_7 er_7 => ?_)
        subst er_7
        refine lv_if_eq (tgt := 51) hx hb dX0_dayOf_43 (by decide) (fun h_8 => ?_) (fun h_8 => ?_)
        · refine lv_iconst (v := (-1)) hx hb dX0_dayOf_51 (by decide) ?_
          exact W.iret (v := (-1)) hx hb hr (fun t ht hW => ⟨_, rfl, by rw [f_X0_dayOf, if_neg h_2, if_neg h_3, if_pos h_5, if_pos h_8], ht⟩) (fun _ h => by cases h) dX0_dayOf_52
        · refine lv_iload hx hb dX0_dayOf_46 (lv_at hl 0 rfl) ?_
          refine lv_goto (tgt := 52) hx hb dX0_dayOf_48 (by decide) ?_
          exact W.iret (v := ((ms_C p0 p1 (p2.toNatClampNeg - 1)) + p3) - 1) hx hb hr (fun t ht hW => ⟨_, rfl, by rw [f_X0_dayOf, if_neg h_2, if_neg h_3, if_pos h_5, if_neg h_8], ht⟩) (fun _ h => by cases h) dX0_dayOf_52
      · refine lv_iconst (v := (-1)) hx hb dX0_dayOf_24 (by decide) ?_
        exact W.iret (v := (-1)) hx hb hr (fun t ht hW => ⟨_, rfl, by rw [f_X0_dayOf, if_neg h_2, if_neg h_3, if_neg h_5], ht⟩) (fun _ h => by cases h) dX0_dayOf_25


set_option maxHeartbeats 4000000 in
set_option maxRecDepth 100000 in
theorem k_X0_yearOf (l : Launch) (p0 p1 : Int32) (D : Nat) (hD : D ≤ 985999) (h1 : p1 = nI D) : Met l yX0_yearOf wsX0_yearOf ({ frames := 1, cells := 0, slots := 0, locals := 23 }) (va_Pc [.int p0, .int p1] (fun _ => True)) (vp_Si (fun r => r = f_X0_yearOf p0 p1)) 0 0 (fun _ => False) := by
  refine Met.ofW (cc := cX0_yearOf) (maxL := 3) (ret := (some .int)) (by decide) rfl ?_
  intro p e s m args below meth c s₁ B hml hv
  obtain ⟨rfl, hcm⟩ := hv
  have hx := B.exec
  have hb := B.bytes
  have hr := B.returns
  have hts := atoms_spec (ws := wsX0_yearOf) B.pre
  have hown : s.vm.findClass RX0 = some m.cls := findClass_of_methodNamed B.named
  have hlocks := B.notSynchronized
  have hl := lv_entry ([.int p0, .int p1]) (n := 3) (Nat.le_of_ble_eq_true rfl)
  rw [lg_entry_eq]
  generalize (lg_sl ([.int p0, .int p1]) ++ List.replicate (3 - (lg_sl ([.int p0, .int p1])).length) Slot.unset).toArray = ls at hl ⊢
  have hl : lv_has ls 3 [(0, .int p0), (1, .int p1)] := hl
  refine lv_iload_n hx hb dX0_yearOf_0 rfl (lv_at hl 1 rfl) ?_
  refine lv_sipush (v := 366) hx hb dX0_yearOf_1 (by decide) ?_
  refine lv_idiv hx hb dX0_yearOf_4 (by decide) ?_
  refine lv_iconst (v := 1) hx hb dX0_yearOf_5 (by decide) ?_
  refine lv_iadd hx hb dX0_yearOf_6 ?_
  refine lv_istore_n (lv' := [(2, .int ((p1 / 366) + 1)), (0, .int p0), (1, .int p1)]) hx hb dX0_yearOf_7 rfl hl (by decide) rfl (fun ls hl => ?_)
  have hloop : ∀ (n Y : Nat), Y ≤ 2700 → 2700 < Y + n → yl_C p0 p1 n (nI Y) = yl_C p0 p1 2701 (p1 / 366 + 1) → ∀ (ls : Array Slot), lv_has ls 3 [(2, .int (nI Y)), (0, .int p0), (1, .int p1)] → W p l e (headSpec wsX0_yearOf ({ frames := 1, cells := 0, slots := 0, locals := 23 })).room s m [.int p0, .int p1].toArray below meth c s.heap [] 0 0 (MQ below (vp_Si (fun r => r = f_X0_yearOf p0 p1)) [.int p0, .int p1].toArray s 0 0 (fun _ => False)) (F0 m 8 ls []) := by
    intro n
    induction n with
    | zero => intro Y h1 h3; omega
    | succ n ih =>
      intro Y hY hn hv ls hl
      refine lv_iload_n hx hb dX0_yearOf_8 rfl (lv_at hl 0 rfl) ?_
      refine lv_sipush (v := 2699) hx hb dX0_yearOf_9 (by decide) ?_
      refine lv_icmp_gt (tgt := 32) hx hb dX0_yearOf_12 (by decide) (fun h_1 => ?_) (fun h_1 => ?_)
      · refine lv_iload_n hx hb dX0_yearOf_32 rfl (lv_at hl 0 rfl) ?_
        refine lv_sipush (v := 2699) hx hb dX0_yearOf_33 (by decide) ?_
        refine lv_icmp_gt (tgt := 43) hx hb dX0_yearOf_36 (by decide) (fun h_2 => ?_) (fun h_2 => ?_)
        · refine lv_iconst (v := (-1)) hx hb dX0_yearOf_43 (by decide) ?_
          exact W.iret (v := (-1)) hx hb hr (fun t ht hW => ⟨_, rfl, by rw [f_X0_yearOf, ← hv, yl_C, if_pos h_1, if_pos h_2], ht⟩) (fun _ h => by cases h) dX0_yearOf_44
        · refine lv_iload_n hx hb dX0_yearOf_39 rfl (lv_at hl 0 rfl) ?_
          refine lv_goto (tgt := 44) hx hb dX0_yearOf_40 (by decide) ?_
          exact W.iret (v := nI Y) hx hb hr (fun t ht hW => ⟨_, rfl, (by first | exact absurd h_1 h_2 | (rw [f_X0_yearOf, ← hv, yl_C, if_pos h_1, if_neg h_2])), ht⟩) (fun _ h => by cases h) dX0_yearOf_44
      · refine lv_iload_n hx hb dX0_yearOf_15 rfl (lv_at hl 1 rfl) ?_
        refine lv_iload_n hx hb dX0_yearOf_16 rfl (lv_at hl 0 rfl) ?_
        refine lv_iconst (v := 1) hx hb dX0_yearOf_17 (by decide) ?_
        refine lv_iadd hx hb dX0_yearOf_18 ?_
        refine vp_callSi (va_Run.run (va_runS (As := [.int p0, .int ((nI Y) + 1)]) (rest := []) ⟨hx, hb, hml, hown, hts⟩ (k_X0_yearStart l p0 ((nI Y) + 1)) (va_cwS 2 hts gX0_yearOf_X0_yearStart rfl rfl rfl (by decide +kernel) ⟨Nat.le_of_ble_eq_true rfl, Nat.le_of_ble_eq_true rfl⟩) ⟨fun _ _ _ _ q => q, fun _ _ _ => ⟨rfl, trivial⟩⟩ rfl rfl hl.1 rfl (lv_room (Nat.le_of_ble_eq_true rfl)) dX0_yearOf_19 ⟨Nat.le_of_ble_eq_true rfl, Nat.le_of_ble_eq_true rfl⟩)) (fun r_3 er_3 => ?_)
        subst er_3
        refine lv_iload_n hx hb dX0_yearOf_22 rfl (lv_at hl 2 rfl) ?_
        refine lv_icmp_gt (tgt := 32) hx hb dX0_yearOf_23 (by decide) (fun h_4 => ?_) (fun h_4 => ?_)
        · refine lv_iload_n hx hb dX0_yearOf_32 rfl (lv_at hl 0 rfl) ?_
          refine lv_sipush (v := 2699) hx hb dX0_yearOf_33 (by decide) ?_
          refine lv_icmp_gt (tgt := 43) hx hb dX0_yearOf_36 (by decide) (fun h_5 => ?_) (fun h_5 => ?_)
          · refine lv_iconst (v := (-1)) hx hb dX0_yearOf_43 (by decide) ?_
            exact W.iret (v := (-1)) hx hb hr (fun t ht hW => ⟨_, rfl, by rw [f_X0_yearOf, ← hv, yl_C, if_neg h_1, if_pos h_4, if_pos h_5], ht⟩) (fun _ h => by cases h) dX0_yearOf_44
          · refine lv_iload_n hx hb dX0_yearOf_39 rfl (lv_at hl 0 rfl) ?_
            refine lv_goto (tgt := 44) hx hb dX0_yearOf_40 (by decide) ?_
            exact W.iret (v := nI Y) hx hb hr (fun t ht hW => ⟨_, rfl, by rw [f_X0_yearOf, ← hv, yl_C, if_neg h_1, if_pos h_4, if_neg h_5], ht⟩) (fun _ h => by cases h) dX0_yearOf_44
        · obtain ⟨x_6, ex_6⟩ : ∃ y : Int32, y = (nI Y) + 1 := ⟨_, rfl⟩
          refine lv_iinc (v := x_6) (lv' := [(2, .int x_6), (0, .int p0), (1, .int p1)]) hx hb dX0_yearOf_26 hl (k := 0) rfl (by rw [ex_6]; rfl) (by decide) rfl (fun ls hl => ?_)
          refine lv_goto (tgt := 8) hx hb dX0_yearOf_29 (by decide) ?_
          have e2 : x_6 = nI (Y + 1) := by rw [ex_6, nI_1]
          have hY1 : Y ≤ 2699 := by rcases Nat.lt_or_ge 2699 Y with q | q; exact absurd (nI_lt (a := 2699) q (by omega)) h_1; exact q
          rw [e2] at hl
          exact ih (Y + 1) (by omega) (by omega) (by rw [← hv, yl_C, if_neg h_1, if_neg h_4, nI_1]) ls (lv_sub hl [0, 1, 2] rfl)
  have e0 : p1 / 366 + 1 = nI (D / 366 + 1) := by rw [h1, show (366 : Int32) = nI 366 from rfl, pk_div (by omega) (by omega) (by omega), nI_1]
  have hl := lv_sub hl [0, 1, 2] rfl
  dsimp only [lv_pick] at hl
  rw [e0] at hl
  exact hloop 2701 (D / 366 + 1) (by omega) (by omega) (by rw [e0]) ls hl

theorem id_D {d : Int32} (h : ¬ f_X5_isDay d = 0) : d.toNatClampNeg ≤ 985999 ∧ d = nI d.toNatClampNeg := by
  have h1 : ¬ d < 0 := fun q => h (by rw [f_X5_isDay, if_pos q])
  have h2 : ¬ 985999 < d := fun q => h (by rw [f_X5_isDay, if_neg h1, if_pos q])
  obtain ⟨j, hj, rfl⟩ := nI_of2 (M := 985999) (n := 985999) rfl h1 (Int32.not_lt.mp h2)
  rw [nI_clamp (by omega)]
  exact ⟨hj, rfl⟩
theorem mo_K {c : Int32} {K : Nat} (h : ¬ f_X0_months c ≤ nI K) (hK : K ≤ 13) : K < 13 := by
  rcases Nat.lt_or_ge K 13 with q | q
  · exact q
  · have e : K = 13 := by omega
    subst e
    refine absurd ?_ h
    unfold f_X0_months
    split <;> decide

set_option maxHeartbeats 4000000 in
set_option maxRecDepth 100000 in
theorem k_X0_partOf (l : Launch) (p0 p1 p2 : Int32) : Met l yX0_partOf wsX0_partOf ({ frames := 2, cells := 0, slots := 0, locals := 45 }) (va_Pc [.int p0, .int p1, .int p2] cm_ok) (vp_Si (fun r => r = f_X0_partOf p0 p1 p2)) 0 0 (fun _ => False) := by
  refine Met.ofW (cc := cX0_partOf) (maxL := 6) (ret := (some .int)) (by decide) rfl ?_
  intro p e s m args below meth c s₁ B hml hv
  obtain ⟨rfl, hcm⟩ := hv
  have hx := B.exec
  have hb := B.bytes
  have hr := B.returns
  have hts := atoms_spec (ws := wsX0_partOf) B.pre
  have hown : s.vm.findClass RX0 = some m.cls := findClass_of_methodNamed B.named
  have hlocks := B.notSynchronized
  have hl := lv_entry ([.int p0, .int p1, .int p2]) (n := 6) (Nat.le_of_ble_eq_true rfl)
  rw [lg_entry_eq]
  generalize (lg_sl ([.int p0, .int p1, .int p2]) ++ List.replicate (6 - (lg_sl ([.int p0, .int p1, .int p2])).length) Slot.unset).toArray = ls at hl ⊢
  have hl : lv_has ls 6 [(0, .int p0), (1, .int p1), (2, .int p2)] := hl
  refine lv_iload_n hx hb dX0_partOf_0 rfl (lv_at hl 0 rfl) ?_
  refine vp_callSi (va_Run.run (va_runS (As := [.int p0]) (rest := []) ⟨hx, hb, hml, hown, hts⟩ (k_X0_isCalendar l p0) (va_cwS 1 hts gX0_partOf_X0_isCalendar rfl rfl rfl (by decide +kernel) ⟨Nat.le_of_ble_eq_true rfl, Nat.le_of_ble_eq_true rfl⟩) ⟨fun _ _ _ _ q => q, fun _ _ _ => ⟨rfl, trivial⟩⟩ rfl rfl hl.1 rfl (lv_room (Nat.le_of_ble_eq_true rfl)) dX0_partOf_1 ⟨Nat.le_of_ble_eq_true rfl, Nat.le_of_ble_eq_true rfl⟩)) (fun r_1 er_1 => ?_)
  subst er_1
  refine lv_if_eq (tgt := 23) hx hb dX0_partOf_4 (by decide) (fun h_2 => ?_) (fun h_2 => ?_)
  · refine lv_iconst (v := (-1)) hx hb dX0_partOf_23 (by decide) ?_
    exact W.iret (v := (-1)) hx hb hr (fun t ht hW => ⟨_, rfl, by rw [f_X0_partOf, if_pos h_2], ht⟩) (fun _ h => by cases h) dX0_partOf_24
  · refine lv_iload_n hx hb dX0_partOf_7 rfl (lv_at hl 1 rfl) ?_
    refine vp_callSi (va_Run.run (va_runSN (As := [.int p1]) (rest := []) ⟨hx, hb, hml, hown, hts⟩ (k_X5_isDay l p1) ⟨va_cnB (host := "DayBench") 1 hts gX0_partOf_X5_isDay_n45 rfl rfl rfl hcm.2 (hts (.initialized RX5) (by decide +kernel)) (by decide +kernel) ⟨Nat.le_of_ble_eq_true rfl, Nat.le_of_ble_eq_true rfl⟩, hts (.static yX5_isDay) (by decide +kernel), trivial⟩ ⟨fun _ _ _ _ q => q, fun _ _ _ => ⟨rfl, trivial⟩⟩ rfl rfl hl.1 rfl (lv_room (Nat.le_of_ble_eq_true rfl)) dX0_partOf_8 ⟨Nat.le_of_ble_eq_true rfl, Nat.le_of_ble_eq_true rfl⟩)) (fun r_3 er_3 => ?_)
    subst er_3
    refine lv_if_eq (tgt := 23) hx hb dX0_partOf_11 (by decide) (fun h_4 => ?_) (fun h_4 => ?_)
    · refine lv_iconst (v := (-1)) hx hb dX0_partOf_23 (by decide) ?_
      exact W.iret (v := (-1)) hx hb hr (fun t ht hW => ⟨_, rfl, by rw [f_X0_partOf, if_neg h_2, if_pos h_4], ht⟩) (fun _ h => by cases h) dX0_partOf_24
    · refine lv_iload_n hx hb dX0_partOf_14 rfl (lv_at hl 2 rfl) ?_
      refine lv_if_lt (tgt := 23) hx hb dX0_partOf_15 (by decide) (fun h_5 => ?_) (fun h_5 => ?_)
      · refine lv_iconst (v := (-1)) hx hb dX0_partOf_23 (by decide) ?_
        exact W.iret (v := (-1)) hx hb hr (fun t ht hW => ⟨_, rfl, by rw [f_X0_partOf, if_neg h_2, if_neg h_4, if_pos h_5], ht⟩) (fun _ h => by cases h) dX0_partOf_24
      · refine lv_iload_n hx hb dX0_partOf_18 rfl (lv_at hl 2 rfl) ?_
        refine lv_iconst (v := 2) hx hb dX0_partOf_19 (by decide) ?_
        refine lv_icmp_le (tgt := 25) hx hb dX0_partOf_20 (by decide) (fun h_6 => ?_) (fun h_6 => ?_)
        · refine lv_iload_n hx hb dX0_partOf_25 rfl (lv_at hl 0 rfl) ?_
          refine lv_iload_n hx hb dX0_partOf_26 rfl (lv_at hl 1 rfl) ?_
          refine vp_callSi (va_Run.run (va_runS (As := [.int p0, .int p1]) (rest := []) ⟨hx, hb, hml, hown, hts⟩ (k_X0_yearOf l p0 p1 p1.toNatClampNeg (id_D h_4).1 (id_D h_4).2) (va_cwS 2 hts gX0_partOf_X0_yearOf rfl rfl rfl (by decide +kernel) ⟨Nat.le_of_ble_eq_true rfl, Nat.le_of_ble_eq_true rfl⟩) ⟨fun _ _ _ _ q => q, fun _ _ _ => ⟨rfl, trivial⟩⟩ rfl rfl hl.1 rfl (lv_room (Nat.le_of_ble_eq_true rfl)) dX0_partOf_27 ⟨Nat.le_of_ble_eq_true rfl, Nat.le_of_ble_eq_true rfl⟩)) (fun r_7 er_7 => ?_)
          subst er_7
          refine lv_istore_n (lv' := [(3, .int (f_X0_yearOf p0 p1)), (0, .int p0), (1, .int p1), (2, .int p2)]) hx hb dX0_partOf_30 rfl hl (by decide) rfl (fun ls hl => ?_)
          refine lv_iload_n hx hb dX0_partOf_31 rfl (lv_at hl 3 rfl) ?_
          refine lv_if_eq (tgt := 40) hx hb dX0_partOf_32 (by decide) (fun h_8 => ?_) (fun h_8 => ?_)
          · refine lv_iload_n hx hb dX0_partOf_40 rfl (lv_at hl 0 rfl) ?_
            exact W.iret (v := f_X0_yearOf p0 p1) hx hb hr (fun t ht hW => ⟨_, rfl, by rw [f_X0_partOf, if_neg h_2, if_neg h_4, if_neg h_5, if_pos h_6, if_pos h_8], ht⟩) (fun _ h => by cases h) dX0_partOf_41
          · refine lv_iload_n hx hb dX0_partOf_35 rfl (lv_at hl 0 rfl) ?_
            refine lv_iconst (v := (-1)) hx hb dX0_partOf_36 (by decide) ?_
            refine lv_icmp_ne (tgt := 42) hx hb dX0_partOf_37 (by decide) (fun h_9 => ?_) (fun h_9 => ?_)
            · refine lv_iload_n hx hb dX0_partOf_42 rfl (lv_at hl 2 rfl) ?_
              refine lv_iload_n hx hb dX0_partOf_43 rfl (lv_at hl 1 rfl) ?_
              refine lv_iload_n hx hb dX0_partOf_44 rfl (lv_at hl 0 rfl) ?_
              refine vp_callSi (va_Run.run (va_runS (As := [.int p0, .int (f_X0_yearOf p0 p1)]) (rest := [.int p1]) ⟨hx, hb, hml, hown, hts⟩ (k_X0_yearStart l p0 (f_X0_yearOf p0 p1)) (va_cwS 2 hts gX0_partOf_X0_yearStart rfl rfl rfl (by decide +kernel) ⟨Nat.le_of_ble_eq_true rfl, Nat.le_of_ble_eq_true rfl⟩) ⟨fun _ _ _ _ q => q, fun _ _ _ => ⟨rfl, trivial⟩⟩ rfl rfl hl.1 rfl (lv_room (Nat.le_of_ble_eq_true rfl)) dX0_partOf_45 ⟨Nat.le_of_ble_eq_true rfl, Nat.le_of_ble_eq_true rfl⟩)) (fun r_10 er_10 => ?_)
              subst er_10
              refine lv_isub hx hb dX0_partOf_48 ?_
              refine lv_istore (lv' := [(4, .int (p1 - (f_X0_yearStart p0 (f_X0_yearOf p0 p1)))), (3, .int (f_X0_yearOf p0 p1)), (0, .int p0), (1, .int p1), (2, .int p2)]) hx hb dX0_partOf_49 hl (by decide) rfl (fun ls hl => ?_)
              refine lv_iconst (v := 1) hx hb dX0_partOf_51 (by decide) ?_
              refine lv_istore (lv' := [(5, .int 1), (4, .int (p1 - (f_X0_yearStart p0 (f_X0_yearOf p0 p1)))), (3, .int (f_X0_yearOf p0 p1)), (0, .int p0), (1, .int p1), (2, .int p2)]) hx hb dX0_partOf_52 hl (by decide) rfl (fun ls hl => ?_)
              have hspec : f_X0_partOf p0 p1 p2 = pe_C p2 (ml_C p0 (f_X0_yearOf p0 p1) 14 (p1 - (f_X0_yearStart p0 (f_X0_yearOf p0 p1))) 1) := by rw [f_X0_partOf, if_neg h_2, if_neg h_4, if_neg h_5, if_pos h_6, if_neg h_8, if_neg h_9]
              have hloop : ∀ (n : Nat) (rr : Int32) (K : Nat), K ≤ 13 → 13 < K + n → ml_C p0 (f_X0_yearOf p0 p1) n rr K = ml_C p0 (f_X0_yearOf p0 p1) 14 (p1 - (f_X0_yearStart p0 (f_X0_yearOf p0 p1))) 1 → ∀ (ls : Array Slot), lv_has ls 6 [(5, .int (nI K)), (4, .int rr), (0, .int p0), (1, .int p1), (2, .int p2), (3, .int (f_X0_yearOf p0 p1))] → W p l e (headSpec wsX0_partOf ({ frames := 2, cells := 0, slots := 0, locals := 45 })).room s m [.int p0, .int p1, .int p2].toArray below meth c s.heap [] 0 0 (MQ below (vp_Si (fun r => r = f_X0_partOf p0 p1 p2)) [.int p0, .int p1, .int p2].toArray s 0 0 (fun _ => False)) (F0 m 54 ls []) := by
                intro n
                induction n with
                | zero => intro rr K h1 h3; omega
                | succ n ih =>
                  intro rr K hK hn hv ls hl
                  refine lv_iload hx hb dX0_partOf_54 (lv_at hl 0 rfl) ?_
                  refine lv_iload_n hx hb dX0_partOf_56 rfl (lv_at hl 2 rfl) ?_
                  refine vp_callSi (va_Run.run (va_runS (As := [.int p0]) (rest := [.int (nI K)]) ⟨hx, hb, hml, hown, hts⟩ (k_X0_months l p0) (va_cwS 1 hts gX0_partOf_X0_months rfl rfl rfl (by decide +kernel) ⟨Nat.le_of_ble_eq_true rfl, Nat.le_of_ble_eq_true rfl⟩) ⟨fun _ _ _ _ q => q, fun _ _ _ => ⟨rfl, trivial⟩⟩ rfl rfl hl.1 rfl (lv_room (Nat.le_of_ble_eq_true rfl)) dX0_partOf_57 ⟨Nat.le_of_ble_eq_true rfl, Nat.le_of_ble_eq_true rfl⟩)) (fun r_11 er_11 => ?_)
                  subst er_11
                  refine lv_icmp_ge (tgt := 93) hx hb dX0_partOf_60 (by decide) (fun h_12 => ?_) (fun h_12 => ?_)
                  · refine lv_iload_n hx hb dX0_partOf_93 rfl (lv_at hl 4 rfl) ?_
                    refine lv_iconst (v := 1) hx hb dX0_partOf_94 (by decide) ?_
                    refine lv_icmp_ne (tgt := 103) hx hb dX0_partOf_95 (by decide) (fun h_13 => ?_) (fun h_13 => ?_)
                    · refine lv_iload hx hb dX0_partOf_103 (lv_at hl 1 rfl) ?_
                      refine lv_iconst (v := 1) hx hb dX0_partOf_105 (by decide) ?_
                      refine lv_iadd hx hb dX0_partOf_106 ?_
                      exact W.iret (v := rr + 1) hx hb hr (fun t ht hW => ⟨_, rfl, by rw [hspec, ← hv, ml_C, if_pos h_12, pe_C, if_neg h_13], ht⟩) (fun _ h => by cases h) dX0_partOf_107
                    · refine lv_iload hx hb dX0_partOf_98 (lv_at hl 0 rfl) ?_
                      refine lv_goto (tgt := 107) hx hb dX0_partOf_100 (by decide) ?_
                      exact W.iret (v := nI K) hx hb hr (fun t ht hW => ⟨_, rfl, by rw [hspec, ← hv, ml_C, if_pos h_12, pe_C, if_pos h_13], ht⟩) (fun _ h => by cases h) dX0_partOf_107
                  · refine lv_iload hx hb dX0_partOf_63 (lv_at hl 1 rfl) ?_
                    refine lv_iload_n hx hb dX0_partOf_65 rfl (lv_at hl 2 rfl) ?_
                    refine lv_iload_n hx hb dX0_partOf_66 rfl (lv_at hl 5 rfl) ?_
                    refine lv_iload hx hb dX0_partOf_67 (lv_at hl 0 rfl) ?_
                    refine vp_callSi (va_Run.run (va_runS (As := [.int p0, .int (f_X0_yearOf p0 p1), .int (nI K)]) (rest := [.int rr]) ⟨hx, hb, hml, hown, hts⟩ (k_X0_monthDays l p0 (f_X0_yearOf p0 p1) (nI K)) (va_cwS 3 hts gX0_partOf_X0_monthDays rfl rfl rfl (by decide +kernel) ⟨Nat.le_of_ble_eq_true rfl, Nat.le_of_ble_eq_true rfl⟩) ⟨cm_blind, fun U hU hW => ⟨rfl, cm_warm hcm hU hW⟩⟩ rfl rfl hl.1 rfl (lv_room (Nat.le_of_ble_eq_true rfl)) dX0_partOf_69 ⟨Nat.le_of_ble_eq_true rfl, Nat.le_of_ble_eq_true rfl⟩)) (fun r_14 er_14 => ?_)
                    subst er_14
                    refine lv_icmp_lt (tgt := 93) hx hb dX0_partOf_72 (by decide) (fun h_15 => ?_) (fun h_15 => ?_)
                    · refine lv_iload_n hx hb dX0_partOf_93 rfl (lv_at hl 4 rfl) ?_
                      refine lv_iconst (v := 1) hx hb dX0_partOf_94 (by decide) ?_
                      refine lv_icmp_ne (tgt := 103) hx hb dX0_partOf_95 (by decide) (fun h_16 => ?_) (fun h_16 => ?_)
                      · refine lv_iload hx hb dX0_partOf_103 (lv_at hl 1 rfl) ?_
                        refine lv_iconst (v := 1) hx hb dX0_partOf_105 (by decide) ?_
                        refine lv_iadd hx hb dX0_partOf_106 ?_
                        exact W.iret (v := rr + 1) hx hb hr (fun t ht hW => ⟨_, rfl, by rw [hspec, ← hv, ml_C, if_neg h_12, if_pos h_15, pe_C, if_neg h_16], ht⟩) (fun _ h => by cases h) dX0_partOf_107
                      · refine lv_iload hx hb dX0_partOf_98 (lv_at hl 0 rfl) ?_
                        refine lv_goto (tgt := 107) hx hb dX0_partOf_100 (by decide) ?_
                        exact W.iret (v := nI K) hx hb hr (fun t ht hW => ⟨_, rfl, by rw [hspec, ← hv, ml_C, if_neg h_12, if_pos h_15, pe_C, if_pos h_16], ht⟩) (fun _ h => by cases h) dX0_partOf_107
                    · refine lv_iload hx hb dX0_partOf_75 (lv_at hl 1 rfl) ?_
                      refine lv_iload_n hx hb dX0_partOf_77 rfl (lv_at hl 2 rfl) ?_
                      refine lv_iload_n hx hb dX0_partOf_78 rfl (lv_at hl 5 rfl) ?_
                      refine lv_iload hx hb dX0_partOf_79 (lv_at hl 0 rfl) ?_
                      refine vp_callSi (va_Run.run (va_runS (As := [.int p0, .int (f_X0_yearOf p0 p1), .int (nI K)]) (rest := [.int rr]) ⟨hx, hb, hml, hown, hts⟩ (k_X0_monthDays l p0 (f_X0_yearOf p0 p1) (nI K)) (va_cwS 3 hts gX0_partOf_X0_monthDays rfl rfl rfl (by decide +kernel) ⟨Nat.le_of_ble_eq_true rfl, Nat.le_of_ble_eq_true rfl⟩) ⟨cm_blind, fun U hU hW => ⟨rfl, cm_warm hcm hU hW⟩⟩ rfl rfl hl.1 rfl (lv_room (Nat.le_of_ble_eq_true rfl)) dX0_partOf_81 ⟨Nat.le_of_ble_eq_true rfl, Nat.le_of_ble_eq_true rfl⟩)) (fun r_17 er_17 => ?_)
                      subst er_17
                      refine lv_isub hx hb dX0_partOf_84 ?_
                      refine lv_istore (lv' := [(4, .int (rr - (f_X0_monthDays p0 (f_X0_yearOf p0 p1) (nI K)))), (5, .int (nI K)), (0, .int p0), (1, .int p1), (2, .int p2), (3, .int (f_X0_yearOf p0 p1))]) hx hb dX0_partOf_85 hl (by decide) rfl (fun ls hl => ?_)
                      obtain ⟨x_18, ex_18⟩ : ∃ y : Int32, y = (nI K) + 1 := ⟨_, rfl⟩
                      refine lv_iinc (v := x_18) (lv' := [(5, .int x_18), (4, .int (rr - (f_X0_monthDays p0 (f_X0_yearOf p0 p1) (nI K)))), (0, .int p0), (1, .int p1), (2, .int p2), (3, .int (f_X0_yearOf p0 p1))]) hx hb dX0_partOf_87 hl (k := 1) rfl (by rw [ex_18]; rfl) (by decide) rfl (fun ls hl => ?_)
                      refine lv_goto (tgt := 54) hx hb dX0_partOf_90 (by decide) ?_
                      have e2 : x_18 = nI (K + 1) := by rw [ex_18, nI_1]
                      have hK1 := mo_K h_12 hK
                      rw [e2] at hl
                      exact ih _ (K + 1) (by omega) (by omega) (by rw [← hv, ml_C, if_neg h_12, if_neg h_15]) ls (lv_sub hl [0, 1, 2, 3, 4, 5] rfl)
              exact hloop 14 _ 1 (by omega) (by omega) rfl ls (lv_sub hl [0, 1, 3, 4, 5, 2] rfl)
            · refine lv_iload_n hx hb dX0_partOf_40 rfl (lv_at hl 0 rfl) ?_
              exact W.iret (v := f_X0_yearOf p0 p1) hx hb hr (fun t ht hW => ⟨_, rfl, by rw [f_X0_partOf, if_neg h_2, if_neg h_4, if_neg h_5, if_pos h_6, if_neg h_8, if_pos h_9], ht⟩) (fun _ h => by cases h) dX0_partOf_41
        · refine lv_iconst (v := (-1)) hx hb dX0_partOf_23 (by decide) ?_
          exact W.iret (v := (-1)) hx hb hr (fun t ht hW => ⟨_, rfl, by rw [f_X0_partOf, if_neg h_2, if_neg h_4, if_neg h_5, if_neg h_6], ht⟩) (fun _ h => by cases h) dX0_partOf_24

set_option maxHeartbeats 4000000 in
set_option maxRecDepth 100000 in
theorem k_X0_yearsBehind (l : Launch) (p0 p1 p2 : Int32) : Met l yX0_yearsBehind wsX0_yearsBehind ({ frames := 4, cells := 0, slots := 0, locals := 91 }) (va_Pc [.int p0, .int p1, .int p2] cm_ok) (vp_Si (fun r => r = f_X0_yearsBehind p0 p1 p2)) 0 0 (fun _ => False) := by
  refine Met.ofW (cc := cX0_yearsBehind) (maxL := 6) (ret := (some .int)) (by decide) rfl ?_
  intro p e s m args below meth c s₁ B hml hv
  obtain ⟨rfl, hcm⟩ := hv
  have hx := B.exec
  have hb := B.bytes
  have hr := B.returns
  have hts := atoms_spec (ws := wsX0_yearsBehind) B.pre
  have hown : s.vm.findClass RX0 = some m.cls := findClass_of_methodNamed B.named
  have hlocks := B.notSynchronized
  have hl := lv_entry ([.int p0, .int p1, .int p2]) (n := 6) (Nat.le_of_ble_eq_true rfl)
  rw [lg_entry_eq]
  generalize (lg_sl ([.int p0, .int p1, .int p2]) ++ List.replicate (6 - (lg_sl ([.int p0, .int p1, .int p2])).length) Slot.unset).toArray = ls at hl ⊢
  have hl : lv_has ls 6 [(0, .int p0), (1, .int p1), (2, .int p2)] := hl
  refine lv_iload_n hx hb dX0_yearsBehind_0 rfl (lv_at hl 0 rfl) ?_
  refine lv_iload_n hx hb dX0_yearsBehind_1 rfl (lv_at hl 1 rfl) ?_
  refine lv_iconst (v := 0) hx hb dX0_yearsBehind_2 (by decide) ?_
  refine vp_callSi (va_Run.run (va_runS (As := [.int p0, .int p1, .int 0]) (rest := []) ⟨hx, hb, hml, hown, hts⟩ (k_X0_partOf l p0 p1 0) (va_cwS 3 hts gX0_yearsBehind_X0_partOf rfl rfl rfl (by decide +kernel) ⟨Nat.le_of_ble_eq_true rfl, Nat.le_of_ble_eq_true rfl⟩) ⟨cm_blind, fun U hU hW => ⟨rfl, cm_warm hcm hU hW⟩⟩ rfl rfl hl.1 rfl (lv_room (Nat.le_of_ble_eq_true rfl)) dX0_yearsBehind_3 ⟨Nat.le_of_ble_eq_true rfl, Nat.le_of_ble_eq_true rfl⟩)) (fun r_1 er_1 => ?_)
  subst er_1
  refine lv_istore_n (lv' := [(3, .int (f_X0_partOf p0 p1 0)), (0, .int p0), (1, .int p1), (2, .int p2)]) hx hb dX0_yearsBehind_6 rfl hl (by decide) rfl (fun ls hl => ?_)
  refine lv_iload_n hx hb dX0_yearsBehind_7 rfl (lv_at hl 0 rfl) ?_
  refine lv_iconst (v := (-1)) hx hb dX0_yearsBehind_8 (by decide) ?_
  refine lv_icmp_eq (tgt := 22) hx hb dX0_yearsBehind_9 (by decide) (fun h_2 => ?_) (fun h_2 => ?_)
  · refine lv_iconst (v := (-1)) hx hb dX0_yearsBehind_22 (by decide) ?_
    exact W.iret (v := (-1)) hx hb hr (fun t ht hW => ⟨_, rfl, by rw [f_X0_yearsBehind, if_pos h_2], ht⟩) (fun _ h => by cases h) dX0_yearsBehind_23
  · refine lv_iload_n hx hb dX0_yearsBehind_12 rfl (lv_at hl 3 rfl) ?_
    refine lv_if_lt (tgt := 22) hx hb dX0_yearsBehind_13 (by decide) (fun h_3 => ?_) (fun h_3 => ?_)
    · refine lv_iconst (v := (-1)) hx hb dX0_yearsBehind_22 (by decide) ?_
      exact W.iret (v := (-1)) hx hb hr (fun t ht hW => ⟨_, rfl, by rw [f_X0_yearsBehind, if_neg h_2, if_pos h_3], ht⟩) (fun _ h => by cases h) dX0_yearsBehind_23
    · refine lv_iload_n hx hb dX0_yearsBehind_16 rfl (lv_at hl 3 rfl) ?_
      refine lv_bipush (v := 100) hx hb dX0_yearsBehind_17 (by decide) ?_
      refine lv_icmp_le (tgt := 24) hx hb dX0_yearsBehind_19 (by decide) (fun h_4 => ?_) (fun h_4 => ?_)
      · refine lv_iload_n hx hb dX0_yearsBehind_24 rfl (lv_at hl 1 rfl) ?_
        refine lv_iload_n hx hb dX0_yearsBehind_25 rfl (lv_at hl 2 rfl) ?_
        refine lv_iconst (v := 1) hx hb dX0_yearsBehind_26 (by decide) ?_
        refine vp_callSi (va_Run.run (va_runS (As := [.int p0, .int p1, .int 1]) (rest := []) ⟨hx, hb, hml, hown, hts⟩ (k_X0_partOf l p0 p1 1) (va_cwS 3 hts gX0_yearsBehind_X0_partOf rfl rfl rfl (by decide +kernel) ⟨Nat.le_of_ble_eq_true rfl, Nat.le_of_ble_eq_true rfl⟩) ⟨cm_blind, fun U hU hW => ⟨rfl, cm_warm hcm hU hW⟩⟩ rfl rfl hl.1 rfl (lv_room (Nat.le_of_ble_eq_true rfl)) dX0_yearsBehind_27 ⟨Nat.le_of_ble_eq_true rfl, Nat.le_of_ble_eq_true rfl⟩)) (fun r_5 er_5 => ?_)
        subst er_5
        refine lv_istore (lv' := [(4, .int (f_X0_partOf p0 p1 1)), (3, .int (f_X0_partOf p0 p1 0)), (0, .int p0), (1, .int p1), (2, .int p2)]) hx hb dX0_yearsBehind_30 hl (by decide) rfl (fun ls hl => ?_)
        refine lv_iload_n hx hb dX0_yearsBehind_32 rfl (lv_at hl 2 rfl) ?_
        refine lv_iload_n hx hb dX0_yearsBehind_33 rfl (lv_at hl 3 rfl) ?_
        refine lv_iconst (v := 2) hx hb dX0_yearsBehind_34 (by decide) ?_
        refine vp_callSi (va_Run.run (va_runS (As := [.int p0, .int p1, .int 2]) (rest := []) ⟨hx, hb, hml, hown, hts⟩ (k_X0_partOf l p0 p1 2) (va_cwS 3 hts gX0_yearsBehind_X0_partOf rfl rfl rfl (by decide +kernel) ⟨Nat.le_of_ble_eq_true rfl, Nat.le_of_ble_eq_true rfl⟩) ⟨cm_blind, fun U hU hW => ⟨rfl, cm_warm hcm hU hW⟩⟩ rfl rfl hl.1 rfl (lv_room (Nat.le_of_ble_eq_true rfl)) dX0_yearsBehind_35 ⟨Nat.le_of_ble_eq_true rfl, Nat.le_of_ble_eq_true rfl⟩)) (fun r_6 er_6 => ?_)
        subst er_6
        refine lv_istore (lv' := [(5, .int (f_X0_partOf p0 p1 2)), (4, .int (f_X0_partOf p0 p1 1)), (3, .int (f_X0_partOf p0 p1 0)), (0, .int p0), (1, .int p1), (2, .int p2)]) hx hb dX0_yearsBehind_38 hl (by decide) rfl (fun ls hl => ?_)
        refine lv_iload hx hb dX0_yearsBehind_40 (lv_at hl 1 rfl) ?_
        refine lv_iconst (v := 2) hx hb dX0_yearsBehind_42 (by decide) ?_
        refine lv_icmp_ne (tgt := 70) hx hb dX0_yearsBehind_43 (by decide) (fun h_7 => ?_) (fun h_7 => ?_)
        · refine lv_iload_n hx hb dX0_yearsBehind_70 rfl (lv_at hl 3 rfl) ?_
          refine lv_iload_n hx hb dX0_yearsBehind_71 rfl (lv_at hl 2 rfl) ?_
          refine lv_iload_n hx hb dX0_yearsBehind_72 rfl (lv_at hl 5 rfl) ?_
          refine lv_iadd hx hb dX0_yearsBehind_73 ?_
          refine lv_iload hx hb dX0_yearsBehind_74 (lv_at hl 1 rfl) ?_
          refine lv_iload hx hb dX0_yearsBehind_76 (lv_at hl 0 rfl) ?_
          refine vp_callSi (va_Run.run (va_runS (As := [.int p0, .int ((f_X0_partOf p0 p1 0) + p2), .int (f_X0_partOf p0 p1 1), .int (f_X0_partOf p0 p1 2)]) (rest := []) ⟨hx, hb, hml, hown, hts⟩ (k_X0_dayOf l p0 ((f_X0_partOf p0 p1 0) + p2) (f_X0_partOf p0 p1 1) (f_X0_partOf p0 p1 2)) (va_cwS 4 hts gX0_yearsBehind_X0_dayOf rfl rfl rfl (by decide +kernel) ⟨Nat.le_of_ble_eq_true rfl, Nat.le_of_ble_eq_true rfl⟩) ⟨cm_blind, fun U hU hW => ⟨rfl, cm_warm hcm hU hW⟩⟩ rfl rfl hl.1 rfl (lv_room (Nat.le_of_ble_eq_true rfl)) dX0_yearsBehind_78 ⟨Nat.le_of_ble_eq_true rfl, Nat.le_of_ble_eq_true rfl⟩)) (fun r_8 er_8 => ?_)
          subst er_8
          exact W.iret (v := f_X0_dayOf p0 ((f_X0_partOf p0 p1 0) + p2) (f_X0_partOf p0 p1 1) (f_X0_partOf p0 p1 2)) hx hb hr (fun t ht hW => ⟨_, rfl, by rw [f_X0_yearsBehind, if_neg h_2, if_neg h_3, if_pos h_4, if_neg h_7], ht⟩) (fun _ h => by cases h) dX0_yearsBehind_81
        · refine lv_iload hx hb dX0_yearsBehind_46 (lv_at hl 0 rfl) ?_
          refine lv_iload_n hx hb dX0_yearsBehind_48 rfl (lv_at hl 3 rfl) ?_
          refine lv_iload_n hx hb dX0_yearsBehind_49 rfl (lv_at hl 2 rfl) ?_
          refine lv_iload_n hx hb dX0_yearsBehind_50 rfl (lv_at hl 5 rfl) ?_
          refine lv_iadd hx hb dX0_yearsBehind_51 ?_
          refine lv_iload hx hb dX0_yearsBehind_52 (lv_at hl 1 rfl) ?_
          refine vp_callSi (va_Run.run (va_runS (As := [.int p0, .int ((f_X0_partOf p0 p1 0) + p2), .int (f_X0_partOf p0 p1 1)]) (rest := [.int (f_X0_partOf p0 p1 2)]) ⟨hx, hb, hml, hown, hts⟩ (k_X0_monthDays l p0 ((f_X0_partOf p0 p1 0) + p2) (f_X0_partOf p0 p1 1)) (va_cwS 3 hts gX0_yearsBehind_X0_monthDays rfl rfl rfl (by decide +kernel) ⟨Nat.le_of_ble_eq_true rfl, Nat.le_of_ble_eq_true rfl⟩) ⟨cm_blind, fun U hU hW => ⟨rfl, cm_warm hcm hU hW⟩⟩ rfl rfl hl.1 rfl (lv_room (Nat.le_of_ble_eq_true rfl)) dX0_yearsBehind_54 ⟨Nat.le_of_ble_eq_true rfl, Nat.le_of_ble_eq_true rfl⟩)) (fun r_9 er_9 => ?_)
          subst er_9
          refine lv_icmp_le (tgt := 70) hx hb dX0_yearsBehind_57 (by decide) (fun h_10 => ?_) (fun h_10 => ?_)
          · refine lv_iload_n hx hb dX0_yearsBehind_70 rfl (lv_at hl 3 rfl) ?_
            refine lv_iload_n hx hb dX0_yearsBehind_71 rfl (lv_at hl 2 rfl) ?_
            refine lv_iload_n hx hb dX0_yearsBehind_72 rfl (lv_at hl 5 rfl) ?_
            refine lv_iadd hx hb dX0_yearsBehind_73 ?_
            refine lv_iload hx hb dX0_yearsBehind_74 (lv_at hl 1 rfl) ?_
            refine lv_iload hx hb dX0_yearsBehind_76 (lv_at hl 0 rfl) ?_
            refine vp_callSi (va_Run.run (va_runS (As := [.int p0, .int ((f_X0_partOf p0 p1 0) + p2), .int (f_X0_partOf p0 p1 1), .int (f_X0_partOf p0 p1 2)]) (rest := []) ⟨hx, hb, hml, hown, hts⟩ (k_X0_dayOf l p0 ((f_X0_partOf p0 p1 0) + p2) (f_X0_partOf p0 p1 1) (f_X0_partOf p0 p1 2)) (va_cwS 4 hts gX0_yearsBehind_X0_dayOf rfl rfl rfl (by decide +kernel) ⟨Nat.le_of_ble_eq_true rfl, Nat.le_of_ble_eq_true rfl⟩) ⟨cm_blind, fun U hU hW => ⟨rfl, cm_warm hcm hU hW⟩⟩ rfl rfl hl.1 rfl (lv_room (Nat.le_of_ble_eq_true rfl)) dX0_yearsBehind_78 ⟨Nat.le_of_ble_eq_true rfl, Nat.le_of_ble_eq_true rfl⟩)) (fun r_11 er_11 => ?_)
            subst er_11
            exact W.iret (v := f_X0_dayOf p0 ((f_X0_partOf p0 p1 0) + p2) (f_X0_partOf p0 p1 1) (f_X0_partOf p0 p1 2)) hx hb hr (fun t ht hW => ⟨_, rfl, by rw [f_X0_yearsBehind, if_neg h_2, if_neg h_3, if_pos h_4, if_pos h_7, if_pos h_10], ht⟩) (fun _ h => by cases h) dX0_yearsBehind_81
          · refine lv_iload_n hx hb dX0_yearsBehind_60 rfl (lv_at hl 3 rfl) ?_
            refine lv_iload_n hx hb dX0_yearsBehind_61 rfl (lv_at hl 2 rfl) ?_
            refine lv_iload_n hx hb dX0_yearsBehind_62 rfl (lv_at hl 5 rfl) ?_
            refine lv_iadd hx hb dX0_yearsBehind_63 ?_
            refine lv_iconst (v := 3) hx hb dX0_yearsBehind_64 (by decide) ?_
            refine lv_iconst (v := 1) hx hb dX0_yearsBehind_65 (by decide) ?_
            refine vp_callSi (va_Run.run (va_runS (As := [.int p0, .int ((f_X0_partOf p0 p1 0) + p2), .int 3, .int 1]) (rest := []) ⟨hx, hb, hml, hown, hts⟩ (k_X0_dayOf l p0 ((f_X0_partOf p0 p1 0) + p2) 3 1) (va_cwS 4 hts gX0_yearsBehind_X0_dayOf rfl rfl rfl (by decide +kernel) ⟨Nat.le_of_ble_eq_true rfl, Nat.le_of_ble_eq_true rfl⟩) ⟨cm_blind, fun U hU hW => ⟨rfl, cm_warm hcm hU hW⟩⟩ rfl rfl hl.1 rfl (lv_room (Nat.le_of_ble_eq_true rfl)) dX0_yearsBehind_66 ⟨Nat.le_of_ble_eq_true rfl, Nat.le_of_ble_eq_true rfl⟩)) (fun r_12 er_12 => ?_)
            subst er_12
            exact W.iret (v := f_X0_dayOf p0 ((f_X0_partOf p0 p1 0) + p2) 3 1) hx hb hr (fun t ht hW => ⟨_, rfl, by rw [f_X0_yearsBehind, if_neg h_2, if_neg h_3, if_pos h_4, if_pos h_7, if_neg h_10], ht⟩) (fun _ h => by cases h) dX0_yearsBehind_69
      · refine lv_iconst (v := (-1)) hx hb dX0_yearsBehind_22 (by decide) ?_
        exact W.iret (v := (-1)) hx hb hr (fun t ht hW => ⟨_, rfl, by rw [f_X0_yearsBehind, if_neg h_2, if_neg h_3, if_neg h_4], ht⟩) (fun _ h => by cases h) dX0_yearsBehind_23

set_option maxHeartbeats 4000000 in
set_option maxRecDepth 100000 in
theorem k_X5_day (l : Launch) (h0 : Nat) (p0 p1 p2 p3 : Int32) : Met l yX5_day wsX5_day ({ frames := 4, cells := 0, slots := 0, locals := 91 }) (va_Pc [.ref h0, .int p0, .int p1, .int p2, .int p3] cm_ok) (vp_Si (fun r => r = f_X5_day p0 p1 p2 p3)) 0 0 (fun _ => False) := by
  refine Met.ofW (cc := cX5_day) (maxL := 5) (ret := (some .int)) (by decide) rfl ?_
  intro p e s m args below meth c s₁ B hml hv
  obtain ⟨rfl, hcm⟩ := hv
  have hx := B.exec
  have hb := B.bytes
  have hr := B.returns
  have hts := atoms_spec (ws := wsX5_day) B.pre
  have hown : s.vm.findClass RX5 = some m.cls := findClass_of_methodNamed B.named
  have hlocks := B.notSynchronized
  have hl := lv_entry ([.ref h0, .int p0, .int p1, .int p2, .int p3]) (n := 5) (Nat.le_of_ble_eq_true rfl)
  rw [lg_entry_eq]
  generalize (lg_sl ([.ref h0, .int p0, .int p1, .int p2, .int p3]) ++ List.replicate (5 - (lg_sl ([.ref h0, .int p0, .int p1, .int p2, .int p3])).length) Slot.unset).toArray = ls at hl ⊢
  have hl : lv_has ls 5 [(0, .ref h0), (1, .int p0), (2, .int p1), (3, .int p2), (4, .int p3)] := hl
  refine lv_iload_n hx hb dX5_day_0 rfl (lv_at hl 1 rfl) ?_
  refine lv_iload_n hx hb dX5_day_1 rfl (lv_at hl 2 rfl) ?_
  refine lv_iload_n hx hb dX5_day_2 rfl (lv_at hl 3 rfl) ?_
  refine lv_iload hx hb dX5_day_3 (lv_at hl 4 rfl) ?_
  refine vp_callSi (va_Run.run (va_runS (As := [.int p0, .int p1, .int p2, .int p3]) (rest := []) ⟨hx, hb, hml, hown, hts⟩ (k_X0_dayOf l p0 p1 p2 p3) (va_cwS 4 hts gX5_day_X0_dayOf rfl rfl rfl (by decide +kernel) ⟨Nat.le_of_ble_eq_true rfl, Nat.le_of_ble_eq_true rfl⟩) ⟨cm_blind, fun U hU hW => ⟨rfl, cm_warm hcm hU hW⟩⟩ rfl rfl hl.1 rfl (lv_room (Nat.le_of_ble_eq_true rfl)) dX5_day_5 ⟨Nat.le_of_ble_eq_true rfl, Nat.le_of_ble_eq_true rfl⟩)) (fun r_1 er_1 => ?_)
  subst er_1
  exact W.iret (v := f_X0_dayOf p0 p1 p2 p3) hx hb hr (fun t ht hW => ⟨_, rfl, by rw [f_X5_day], ht⟩) (fun _ h => by cases h) dX5_day_8

set_option maxHeartbeats 4000000 in
set_option maxRecDepth 100000 in
theorem k_X5_date (l : Launch) (h0 : Nat) (p0 p1 p2 : Int32) : Met l yX5_date wsX5_date ({ frames := 3, cells := 0, slots := 0, locals := 70 }) (va_Pc [.ref h0, .int p0, .int p1, .int p2] cm_ok) (vp_Si (fun r => r = f_X5_date p0 p1 p2)) 0 0 (fun _ => False) := by
  refine Met.ofW (cc := cX5_date) (maxL := 4) (ret := (some .int)) (by decide) rfl ?_
  intro p e s m args below meth c s₁ B hml hv
  obtain ⟨rfl, hcm⟩ := hv
  have hx := B.exec
  have hb := B.bytes
  have hr := B.returns
  have hts := atoms_spec (ws := wsX5_date) B.pre
  have hown : s.vm.findClass RX5 = some m.cls := findClass_of_methodNamed B.named
  have hlocks := B.notSynchronized
  have hl := lv_entry ([.ref h0, .int p0, .int p1, .int p2]) (n := 4) (Nat.le_of_ble_eq_true rfl)
  rw [lg_entry_eq]
  generalize (lg_sl ([.ref h0, .int p0, .int p1, .int p2]) ++ List.replicate (4 - (lg_sl ([.ref h0, .int p0, .int p1, .int p2])).length) Slot.unset).toArray = ls at hl ⊢
  have hl : lv_has ls 4 [(0, .ref h0), (1, .int p0), (2, .int p1), (3, .int p2)] := hl
  refine lv_iload_n hx hb dX5_date_0 rfl (lv_at hl 1 rfl) ?_
  refine lv_iload_n hx hb dX5_date_1 rfl (lv_at hl 2 rfl) ?_
  refine lv_iload_n hx hb dX5_date_2 rfl (lv_at hl 3 rfl) ?_
  refine vp_callSi (va_Run.run (va_runS (As := [.int p0, .int p1, .int p2]) (rest := []) ⟨hx, hb, hml, hown, hts⟩ (k_X0_partOf l p0 p1 p2) (va_cwS 3 hts gX5_date_X0_partOf rfl rfl rfl (by decide +kernel) ⟨Nat.le_of_ble_eq_true rfl, Nat.le_of_ble_eq_true rfl⟩) ⟨cm_blind, fun U hU hW => ⟨rfl, cm_warm hcm hU hW⟩⟩ rfl rfl hl.1 rfl (lv_room (Nat.le_of_ble_eq_true rfl)) dX5_date_3 ⟨Nat.le_of_ble_eq_true rfl, Nat.le_of_ble_eq_true rfl⟩)) (fun r_1 er_1 => ?_)
  subst er_1
  exact W.iret (v := f_X0_partOf p0 p1 p2) hx hb hr (fun t ht hW => ⟨_, rfl, by rw [f_X5_date], ht⟩) (fun _ h => by cases h) dX5_date_6

set_option maxHeartbeats 4000000 in
set_option maxRecDepth 100000 in
theorem k_X5_years (l : Launch) (h0 : Nat) (p0 p1 p2 : Int32) : Met l yX5_years wsX5_years ({ frames := 5, cells := 0, slots := 0, locals := 116 }) (va_Pc [.ref h0, .int p0, .int p1, .int p2] cm_ok) (vp_Si (fun r => r = f_X5_years p0 p1 p2)) 0 0 (fun _ => False) := by
  refine Met.ofW (cc := cX5_years) (maxL := 4) (ret := (some .int)) (by decide) rfl ?_
  intro p e s m args below meth c s₁ B hml hv
  obtain ⟨rfl, hcm⟩ := hv
  have hx := B.exec
  have hb := B.bytes
  have hr := B.returns
  have hts := atoms_spec (ws := wsX5_years) B.pre
  have hown : s.vm.findClass RX5 = some m.cls := findClass_of_methodNamed B.named
  have hlocks := B.notSynchronized
  have hl := lv_entry ([.ref h0, .int p0, .int p1, .int p2]) (n := 4) (Nat.le_of_ble_eq_true rfl)
  rw [lg_entry_eq]
  generalize (lg_sl ([.ref h0, .int p0, .int p1, .int p2]) ++ List.replicate (4 - (lg_sl ([.ref h0, .int p0, .int p1, .int p2])).length) Slot.unset).toArray = ls at hl ⊢
  have hl : lv_has ls 4 [(0, .ref h0), (1, .int p0), (2, .int p1), (3, .int p2)] := hl
  refine lv_iload_n hx hb dX5_years_0 rfl (lv_at hl 1 rfl) ?_
  refine lv_iload_n hx hb dX5_years_1 rfl (lv_at hl 2 rfl) ?_
  refine lv_iload_n hx hb dX5_years_2 rfl (lv_at hl 3 rfl) ?_
  refine vp_callSi (va_Run.run (va_runS (As := [.int p0, .int p1, .int p2]) (rest := []) ⟨hx, hb, hml, hown, hts⟩ (k_X0_yearsBehind l p0 p1 p2) (va_cwS 3 hts gX5_years_X0_yearsBehind rfl rfl rfl (by decide +kernel) ⟨Nat.le_of_ble_eq_true rfl, Nat.le_of_ble_eq_true rfl⟩) ⟨cm_blind, fun U hU hW => ⟨rfl, cm_warm hcm hU hW⟩⟩ rfl rfl hl.1 rfl (lv_room (Nat.le_of_ble_eq_true rfl)) dX5_years_3 ⟨Nat.le_of_ble_eq_true rfl, Nat.le_of_ble_eq_true rfl⟩)) (fun r_1 er_1 => ?_)
  subst er_1
  exact W.iret (v := f_X0_yearsBehind p0 p1 p2) hx hb hr (fun t ht hW => ⟨_, rfl, by rw [f_X5_years], ht⟩) (fun _ h => by cases h) dX5_years_6

set_option maxHeartbeats 4000000 in
set_option maxRecDepth 100000 in
theorem k_X5_isRowOfDays (l : Launch) (p0 p1 : Int32) : Met l yX5_isRowOfDays wsX5_isRowOfDays ({ frames := 1, cells := 0, slots := 0, locals := 20 }) (va_Pc [.int p0, .int p1] (fun _ => True)) (vp_Si (fun r => r = f_X5_isRowOfDays p0 p1)) 0 0 (fun _ => False) := by
  refine Met.ofW (cc := cX5_isRowOfDays) (maxL := 2) (ret := (some .boolean)) (by decide) rfl ?_
  intro p e s m args below meth c s₁ B hml hv
  obtain ⟨rfl, hcm⟩ := hv
  have hx := B.exec
  have hb := B.bytes
  have hr := B.returns
  have hts := atoms_spec (ws := wsX5_isRowOfDays) B.pre
  have hown : s.vm.findClass RX5 = some m.cls := findClass_of_methodNamed B.named
  have hlocks := B.notSynchronized
  have hl := lv_entry ([.int p0, .int p1]) (n := 2) (Nat.le_of_ble_eq_true rfl)
  rw [lg_entry_eq]
  generalize (lg_sl ([.int p0, .int p1]) ++ List.replicate (2 - (lg_sl ([.int p0, .int p1])).length) Slot.unset).toArray = ls at hl ⊢
  have hl : lv_has ls 2 [(0, .int p0), (1, .int p1)] := hl
  refine lv_iload_n hx hb dX5_isRowOfDays_0 rfl (lv_at hl 0 rfl) ?_
  refine vp_callSi (va_Run.run (va_runS (As := [.int p0]) (rest := []) ⟨hx, hb, hml, hown, hts⟩ (k_X5_isDay l p0) (va_cwS 1 hts gX5_isRowOfDays_X5_isDay rfl rfl rfl (by decide +kernel) ⟨Nat.le_of_ble_eq_true rfl, Nat.le_of_ble_eq_true rfl⟩) ⟨fun _ _ _ _ q => q, fun _ _ _ => ⟨rfl, trivial⟩⟩ rfl rfl hl.1 rfl (lv_room (Nat.le_of_ble_eq_true rfl)) dX5_isRowOfDays_1 ⟨Nat.le_of_ble_eq_true rfl, Nat.le_of_ble_eq_true rfl⟩)) (fun r_1 er_1 => ?_)
  subst er_1
  refine lv_if_eq (tgt := 23) hx hb dX5_isRowOfDays_4 (by decide) (fun h_2 => ?_) (fun h_2 => ?_)
  · refine lv_iconst (v := 0) hx hb dX5_isRowOfDays_23 (by decide) ?_
    exact W.zret (v := 0) hx hb hr rfl (fun t ht hW => ⟨_, rfl, by rw [f_X5_isRowOfDays, if_pos h_2], ht⟩) (fun _ h => by cases h) dX5_isRowOfDays_24
  · refine lv_iload_n hx hb dX5_isRowOfDays_7 rfl (lv_at hl 1 rfl) ?_
    refine vp_callSi (va_Run.run (va_runS (As := [.int p1]) (rest := []) ⟨hx, hb, hml, hown, hts⟩ (k_X5_isDay l p1) (va_cwS 1 hts gX5_isRowOfDays_X5_isDay rfl rfl rfl (by decide +kernel) ⟨Nat.le_of_ble_eq_true rfl, Nat.le_of_ble_eq_true rfl⟩) ⟨fun _ _ _ _ q => q, fun _ _ _ => ⟨rfl, trivial⟩⟩ rfl rfl hl.1 rfl (lv_room (Nat.le_of_ble_eq_true rfl)) dX5_isRowOfDays_8 ⟨Nat.le_of_ble_eq_true rfl, Nat.le_of_ble_eq_true rfl⟩)) (fun r_3 er_3 => ?_)
    subst er_3
    refine lv_if_eq (tgt := 23) hx hb dX5_isRowOfDays_11 (by decide) (fun h_4 => ?_) (fun h_4 => ?_)
    · refine lv_iconst (v := 0) hx hb dX5_isRowOfDays_23 (by decide) ?_
      exact W.zret (v := 0) hx hb hr rfl (fun t ht hW => ⟨_, rfl, by rw [f_X5_isRowOfDays, if_neg h_2, if_pos h_4], ht⟩) (fun _ h => by cases h) dX5_isRowOfDays_24
    · refine lv_iload_n hx hb dX5_isRowOfDays_14 rfl (lv_at hl 0 rfl) ?_
      refine lv_iload_n hx hb dX5_isRowOfDays_15 rfl (lv_at hl 1 rfl) ?_
      refine lv_icmp_gt (tgt := 23) hx hb dX5_isRowOfDays_16 (by decide) (fun h_5 => ?_) (fun h_5 => ?_)
      · refine lv_iconst (v := 0) hx hb dX5_isRowOfDays_23 (by decide) ?_
        exact W.zret (v := 0) hx hb hr rfl (fun t ht hW => ⟨_, rfl, by rw [f_X5_isRowOfDays, if_neg h_2, if_neg h_4, if_pos h_5], ht⟩) (fun _ h => by cases h) dX5_isRowOfDays_24
      · refine lv_iconst (v := 1) hx hb dX5_isRowOfDays_19 (by decide) ?_
        refine lv_goto (tgt := 24) hx hb dX5_isRowOfDays_20 (by decide) ?_
        exact W.zret (v := 1) hx hb hr rfl (fun t ht hW => ⟨_, rfl, by rw [f_X5_isRowOfDays, if_neg h_2, if_neg h_4, if_neg h_5], ht⟩) (fun _ h => by cases h) dX5_isRowOfDays_24

