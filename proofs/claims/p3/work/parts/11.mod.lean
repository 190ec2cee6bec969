set_option maxHeartbeats 4000000 in
set_option maxRecDepth 100000 in
theorem k_X6_isLeap (l : Launch) (p0 p1 : Int32) : Met l yX6_isLeap wsX6_isLeap ({ frames := 0, cells := 0, slots := 0, locals := 0 }) (va_Pc [.int p0, .int p1] (fun _ => True)) (vp_Si (fun r => r = f_X6_isLeap p0 p1)) 0 0 (fun _ => False) := by
  refine Met.ofW (cc := cX6_isLeap) (maxL := 2) (ret := (some .boolean)) (by decide) rfl ?_
  intro p e s m args below meth c s₁ B hml hv
  obtain ⟨rfl, hcm⟩ := hv
  have hx := B.exec
  have hb := B.bytes
  have hr := B.returns
  have hts := atoms_spec (ws := wsX6_isLeap) B.pre
  have hown : s.vm.findClass RX6 = some m.cls := findClass_of_methodNamed B.named
  have hlocks := B.notSynchronized
  have hl := lv_entry ([.int p0, .int p1]) (n := 2) (Nat.le_of_ble_eq_true rfl)
  rw [lg_entry_eq]
  generalize (lg_sl ([.int p0, .int p1]) ++ List.replicate (2 - (lg_sl ([.int p0, .int p1])).length) Slot.unset).toArray = ls at hl ⊢
  have hl : lv_has ls 2 [(0, .int p0), (1, .int p1)] := hl
  refine lv_iload_n hx hb dX6_isLeap_0 rfl (lv_at hl 0 rfl) ?_
  refine lv_iconst (v := 1) hx hb dX6_isLeap_1 (by decide) ?_
  refine lv_icmp_ne (tgt := 19) hx hb dX6_isLeap_2 (by decide) (fun h_1 => ?_) (fun h_1 => ?_)
  · refine lv_iload_n hx hb dX6_isLeap_19 rfl (lv_at hl 1 rfl) ?_
    refine lv_iconst (v := 4) hx hb dX6_isLeap_20 (by decide) ?_
    refine lv_irem hx hb dX6_isLeap_21 (by decide) ?_
    refine lv_if_ne (tgt := 44) hx hb dX6_isLeap_22 (by decide) (fun h_2 => ?_) (fun h_2 => ?_)
    · refine lv_iconst (v := 0) hx hb dX6_isLeap_44 (by decide) ?_
      exact W.zret (v := 0) hx hb hr rfl (fun t ht hW => ⟨_, rfl, by rw [f_X6_isLeap, if_neg h_1, if_neg h_2], ht⟩) (fun _ h => by cases h) dX6_isLeap_45
    · refine lv_iload_n hx hb dX6_isLeap_25 rfl (lv_at hl 1 rfl) ?_
      refine lv_bipush (v := 100) hx hb dX6_isLeap_26 (by decide) ?_
      refine lv_irem hx hb dX6_isLeap_28 (by decide) ?_
      refine lv_if_ne (tgt := 40) hx hb dX6_isLeap_29 (by decide) (fun h_3 => ?_) (fun h_3 => ?_)
      · refine lv_iconst (v := 1) hx hb dX6_isLeap_40 (by decide) ?_
        refine lv_goto (tgt := 45) hx hb dX6_isLeap_41 (by decide) ?_
        exact W.zret (v := 1) hx hb hr rfl (fun t ht hW => ⟨_, rfl, by rw [f_X6_isLeap, if_neg h_1, if_pos h_2, if_neg h_3], ht⟩) (fun _ h => by cases h) dX6_isLeap_45
      · refine lv_iload_n hx hb dX6_isLeap_32 rfl (lv_at hl 1 rfl) ?_
        refine lv_sipush (v := 400) hx hb dX6_isLeap_33 (by decide) ?_
        refine lv_irem hx hb dX6_isLeap_36 (by decide) ?_
        refine lv_if_ne (tgt := 44) hx hb dX6_isLeap_37 (by decide) (fun h_4 => ?_) (fun h_4 => ?_)
        · refine lv_iconst (v := 0) hx hb dX6_isLeap_44 (by decide) ?_
          exact W.zret (v := 0) hx hb hr rfl (fun t ht hW => ⟨_, rfl, by rw [f_X6_isLeap, if_neg h_1, if_pos h_2, if_pos h_3, if_neg h_4], ht⟩) (fun _ h => by cases h) dX6_isLeap_45
        · refine lv_iconst (v := 1) hx hb dX6_isLeap_40 (by decide) ?_
          refine lv_goto (tgt := 45) hx hb dX6_isLeap_41 (by decide) ?_
          exact W.zret (v := 1) hx hb hr rfl (fun t ht hW => ⟨_, rfl, by rw [f_X6_isLeap, if_neg h_1, if_pos h_2, if_pos h_3, if_pos h_4], ht⟩) (fun _ h => by cases h) dX6_isLeap_45
  · refine lv_iload_n hx hb dX6_isLeap_5 rfl (lv_at hl 1 rfl) ?_
    refine lv_iconst (v := 4) hx hb dX6_isLeap_6 (by decide) ?_
    refine lv_irem hx hb dX6_isLeap_7 (by decide) ?_
    refine lv_if_ne (tgt := 15) hx hb dX6_isLeap_8 (by decide) (fun h_5 => ?_) (fun h_5 => ?_)
    · refine lv_iconst (v := 0) hx hb dX6_isLeap_15 (by decide) ?_
      refine lv_goto (tgt := 45) hx hb dX6_isLeap_16 (by decide) ?_
      exact W.zret (v := 0) hx hb hr rfl (fun t ht hW => ⟨_, rfl, by rw [f_X6_isLeap, if_pos h_1, if_neg h_5], ht⟩) (fun _ h => by cases h) dX6_isLeap_45
    · refine lv_iconst (v := 1) hx hb dX6_isLeap_11 (by decide) ?_
      refine lv_goto (tgt := 45) hx hb dX6_isLeap_12 (by decide) ?_
      exact W.zret (v := 1) hx hb hr rfl (fun t ht hW => ⟨_, rfl, by rw [f_X6_isLeap, if_pos h_1, if_pos h_5], ht⟩) (fun _ h => by cases h) dX6_isLeap_45

set_option maxHeartbeats 4000000 in
set_option maxRecDepth 100000 in
theorem k_X6_lengthOf (l : Launch) (p0 p1 p2 : Int32) : Met l yX6_lengthOf wsX6_lengthOf ({ frames := 1, cells := 0, slots := 0, locals := 21 }) (va_Pc [.int p0, .int p1, .int p2] (fun _ => True)) (vp_Si (fun r => r = f_X6_lengthOf p0 p1 p2)) 0 0 (fun _ => False) := by
  refine Met.ofW (cc := cX6_lengthOf) (maxL := 3) (ret := (some .int)) (by decide) rfl ?_
  intro p e s m args below meth c s₁ B hml hv
  obtain ⟨rfl, hcm⟩ := hv
  have hx := B.exec
  have hb := B.bytes
  have hr := B.returns
  have hts := atoms_spec (ws := wsX6_lengthOf) B.pre
  have hown : s.vm.findClass RX6 = some m.cls := findClass_of_methodNamed B.named
  have hlocks := B.notSynchronized
  have hl := lv_entry ([.int p0, .int p1, .int p2]) (n := 3) (Nat.le_of_ble_eq_true rfl)
  rw [lg_entry_eq]
  generalize (lg_sl ([.int p0, .int p1, .int p2]) ++ List.replicate (3 - (lg_sl ([.int p0, .int p1, .int p2])).length) Slot.unset).toArray = ls at hl ⊢
  have hl : lv_has ls 3 [(0, .int p0), (1, .int p1), (2, .int p2)] := hl
  refine lv_iload_n hx hb dX6_lengthOf_0 rfl (lv_at hl 0 rfl) ?_
  refine lv_iconst (v := 2) hx hb dX6_lengthOf_1 (by decide) ?_
  refine lv_icmp_ne (tgt := 18) hx hb dX6_lengthOf_2 (by decide) (fun h_1 => ?_) (fun h_1 => ?_)
  · refine lv_iload_n hx hb dX6_lengthOf_18 rfl (lv_at hl 2 rfl) ?_
    refine lv_iconst (v := 2) hx hb dX6_lengthOf_19 (by decide) ?_
    refine lv_icmp_ne (tgt := 39) hx hb dX6_lengthOf_20 (by decide) (fun h_2 => ?_) (fun h_2 => ?_)
    · refine lv_iload_n hx hb dX6_lengthOf_39 rfl (lv_at hl 2 rfl) ?_
      refine lv_iconst (v := 4) hx hb dX6_lengthOf_40 (by decide) ?_
      refine lv_icmp_eq (tgt := 62) hx hb dX6_lengthOf_41 (by decide) (fun h_3 => ?_) (fun h_3 => ?_)
      · refine lv_bipush (v := 30) hx hb dX6_lengthOf_62 (by decide) ?_
        refine lv_goto (tgt := 69) hx hb dX6_lengthOf_64 (by decide) ?_
        exact W.iret (v := 30) hx hb hr (fun t ht hW => ⟨_, rfl, by rw [f_X6_lengthOf, if_neg h_1, if_neg h_2, if_pos h_3], ht⟩) (fun _ h => by cases h) dX6_lengthOf_69
      · refine lv_iload_n hx hb dX6_lengthOf_44 rfl (lv_at hl 2 rfl) ?_
        refine lv_bipush (v := 6) hx hb dX6_lengthOf_45 (by decide) ?_
        refine lv_icmp_eq (tgt := 62) hx hb dX6_lengthOf_47 (by decide) (fun h_4 => ?_) (fun h_4 => ?_)
        · refine lv_bipush (v := 30) hx hb dX6_lengthOf_62 (by decide) ?_
          refine lv_goto (tgt := 69) hx hb dX6_lengthOf_64 (by decide) ?_
          exact W.iret (v := 30) hx hb hr (fun t ht hW => ⟨_, rfl, by rw [f_X6_lengthOf, if_neg h_1, if_neg h_2, if_neg h_3, if_pos h_4], ht⟩) (fun _ h => by cases h) dX6_lengthOf_69
        · refine lv_iload_n hx hb dX6_lengthOf_50 rfl (lv_at hl 2 rfl) ?_
          refine lv_bipush (v := 9) hx hb dX6_lengthOf_51 (by decide) ?_
          refine lv_icmp_eq (tgt := 62) hx hb dX6_lengthOf_53 (by decide) (fun h_5 => ?_) (fun h_5 => ?_)
          · refine lv_bipush (v := 30) hx hb dX6_lengthOf_62 (by decide) ?_
            refine lv_goto (tgt := 69) hx hb dX6_lengthOf_64 (by decide) ?_
            exact W.iret (v := 30) hx hb hr (fun t ht hW => ⟨_, rfl, by rw [f_X6_lengthOf, if_neg h_1, if_neg h_2, if_neg h_3, if_neg h_4, if_pos h_5], ht⟩) (fun _ h => by cases h) dX6_lengthOf_69
          · refine lv_iload_n hx hb dX6_lengthOf_56 rfl (lv_at hl 2 rfl) ?_
            refine lv_bipush (v := 11) hx hb dX6_lengthOf_57 (by decide) ?_
            refine lv_icmp_ne (tgt := 67) hx hb dX6_lengthOf_59 (by decide) (fun h_6 => ?_) (fun h_6 => ?_)
            · refine lv_bipush (v := 31) hx hb dX6_lengthOf_67 (by decide) ?_
              exact W.iret (v := 31) hx hb hr (fun t ht hW => ⟨_, rfl, by rw [f_X6_lengthOf, if_neg h_1, if_neg h_2, if_neg h_3, if_neg h_4, if_neg h_5, if_neg h_6], ht⟩) (fun _ h => by cases h) dX6_lengthOf_69
            · refine lv_bipush (v := 30) hx hb dX6_lengthOf_62 (by decide) ?_
              refine lv_goto (tgt := 69) hx hb dX6_lengthOf_64 (by decide) ?_
              exact W.iret (v := 30) hx hb hr (fun t ht hW => ⟨_, rfl, by rw [f_X6_lengthOf, if_neg h_1, if_neg h_2, if_neg h_3, if_neg h_4, if_neg h_5, if_pos h_6], ht⟩) (fun _ h => by cases h) dX6_lengthOf_69
    · refine lv_iload_n hx hb dX6_lengthOf_23 rfl (lv_at hl 0 rfl) ?_
      refine lv_iload_n hx hb dX6_lengthOf_24 rfl (lv_at hl 1 rfl) ?_
      refine vp_callSi (va_Run.run (va_runS (As := [.int p0, .int p1]) (rest := []) ⟨hx, hb, hml, hown, hts⟩ (k_X6_isLeap l p0 p1) (va_cwS 2 hts gX6_lengthOf_X6_isLeap rfl rfl rfl (by decide +kernel) ⟨Nat.le_of_ble_eq_true rfl, Nat.le_of_ble_eq_true rfl⟩) ⟨fun _ _ _ _ q => q, fun _ _ _ => ⟨rfl, trivial⟩⟩ rfl rfl hl.1 rfl (lv_room (Nat.le_of_ble_eq_true rfl)) dX6_lengthOf_25 ⟨Nat.le_of_ble_eq_true rfl, Nat.le_of_ble_eq_true rfl⟩)) (fun r_7 er_7 => ?_)
      subst er_7
      refine lv_if_eq (tgt := 36) hx hb dX6_lengthOf_28 (by decide) (fun h_8 => ?_) (fun h_8 => ?_)
      · refine lv_bipush (v := 28) hx hb dX6_lengthOf_36 (by decide) ?_
        exact W.iret (v := 28) hx hb hr (fun t ht hW => ⟨_, rfl, by rw [f_X6_lengthOf, if_neg h_1, if_pos h_2, if_pos h_8], ht⟩) (fun _ h => by cases h) dX6_lengthOf_38
      · refine lv_bipush (v := 29) hx hb dX6_lengthOf_31 (by decide) ?_
        refine lv_goto (tgt := 38) hx hb dX6_lengthOf_33 (by decide) ?_
        exact W.iret (v := 29) hx hb hr (fun t ht hW => ⟨_, rfl, by rw [f_X6_lengthOf, if_neg h_1, if_pos h_2, if_neg h_8], ht⟩) (fun _ h => by cases h) dX6_lengthOf_38
  · refine lv_iload_n hx hb dX6_lengthOf_5 rfl (lv_at hl 2 rfl) ?_
    refine lv_bipush (v := 13) hx hb dX6_lengthOf_6 (by decide) ?_
    refine lv_icmp_ne (tgt := 15) hx hb dX6_lengthOf_8 (by decide) (fun h_9 => ?_) (fun h_9 => ?_)
    · refine lv_bipush (v := 30) hx hb dX6_lengthOf_15 (by decide) ?_
      exact W.iret (v := 30) hx hb hr (fun t ht hW => ⟨_, rfl, by rw [f_X6_lengthOf, if_pos h_1, if_neg h_9], ht⟩) (fun _ h => by cases h) dX6_lengthOf_17
    · refine lv_iconst (v := 5) hx hb dX6_lengthOf_11 (by decide) ?_
      refine lv_goto (tgt := 17) hx hb dX6_lengthOf_12 (by decide) ?_
      exact W.iret (v := 5) hx hb hr (fun t ht hW => ⟨_, rfl, by rw [f_X6_lengthOf, if_pos h_1, if_pos h_9], ht⟩) (fun _ h => by cases h) dX6_lengthOf_17

set_option maxHeartbeats 4000000 in
set_option maxRecDepth 100000 in
theorem k_X6_monthsOf (l : Launch) (p0 : Int32) : Met l yX6_monthsOf wsX6_monthsOf ({ frames := 0, cells := 0, slots := 0, locals := 0 }) (va_Pc [.int p0] (fun _ => True)) (vp_Si (fun r => r = f_X6_monthsOf p0)) 0 0 (fun _ => False) := by
  refine Met.ofW (cc := cX6_monthsOf) (maxL := 1) (ret := (some .int)) (by decide) rfl ?_
  intro p e s m args below meth c s₁ B hml hv
  obtain ⟨rfl, hcm⟩ := hv
  have hx := B.exec
  have hb := B.bytes
  have hr := B.returns
  have hts := atoms_spec (ws := wsX6_monthsOf) B.pre
  have hown : s.vm.findClass RX6 = some m.cls := findClass_of_methodNamed B.named
  have hlocks := B.notSynchronized
  have hl := lv_entry ([.int p0]) (n := 1) (Nat.le_of_ble_eq_true rfl)
  rw [lg_entry_eq]
  generalize (lg_sl ([.int p0]) ++ List.replicate (1 - (lg_sl ([.int p0])).length) Slot.unset).toArray = ls at hl ⊢
  have hl : lv_has ls 1 [(0, .int p0)] := hl
  refine lv_iload_n hx hb dX6_monthsOf_0 rfl (lv_at hl 0 rfl) ?_
  refine lv_iconst (v := 2) hx hb dX6_monthsOf_1 (by decide) ?_
  refine lv_icmp_ne (tgt := 10) hx hb dX6_monthsOf_2 (by decide) (fun h_1 => ?_) (fun h_1 => ?_)
  · refine lv_bipush (v := 12) hx hb dX6_monthsOf_10 (by decide) ?_
    exact W.iret (v := 12) hx hb hr (fun t ht hW => ⟨_, rfl, by rw [f_X6_monthsOf, if_neg h_1], ht⟩) (fun _ h => by cases h) dX6_monthsOf_12
  · refine lv_bipush (v := 13) hx hb dX6_monthsOf_5 (by decide) ?_
    refine lv_goto (tgt := 12) hx hb dX6_monthsOf_7 (by decide) ?_
    exact W.iret (v := 13) hx hb hr (fun t ht hW => ⟨_, rfl, by rw [f_X6_monthsOf, if_pos h_1], ht⟩) (fun _ h => by cases h) dX6_monthsOf_12

set_option maxHeartbeats 4000000 in
set_option maxRecDepth 100000 in
theorem k_X6_yearFrom (l : Launch) (p0 p1 : Int32) : Met l yX6_yearFrom wsX6_yearFrom ({ frames := 0, cells := 0, slots := 0, locals := 0 }) (va_Pc [.int p0, .int p1] (fun _ => True)) (vp_Si (fun r => r = f_X6_yearFrom p0 p1)) 0 0 (fun _ => False) := by
  refine Met.ofW (cc := cX6_yearFrom) (maxL := 3) (ret := (some .int)) (by decide) rfl ?_
  intro p e s m args below meth c s₁ B hml hv
  obtain ⟨rfl, hcm⟩ := hv
  have hx := B.exec
  have hb := B.bytes
  have hr := B.returns
  have hts := atoms_spec (ws := wsX6_yearFrom) B.pre
  have hown : s.vm.findClass RX6 = some m.cls := findClass_of_methodNamed B.named
  have hlocks := B.notSynchronized
  have hl := lv_entry ([.int p0, .int p1]) (n := 3) (Nat.le_of_ble_eq_true rfl)
  rw [lg_entry_eq]
  generalize (lg_sl ([.int p0, .int p1]) ++ List.replicate (3 - (lg_sl ([.int p0, .int p1])).length) Slot.unset).toArray = ls at hl ⊢
  have hl : lv_has ls 3 [(0, .int p0), (1, .int p1)] := hl
  refine lv_iload_n hx hb dX6_yearFrom_0 rfl (lv_at hl 1 rfl) ?_
  refine lv_iconst (v := 1) hx hb dX6_yearFrom_1 (by decide) ?_
  refine lv_isub hx hb dX6_yearFrom_2 ?_
  refine lv_istore_n (lv' := [(2, .int (p1 - 1)), (0, .int p0), (1, .int p1)]) hx hb dX6_yearFrom_3 rfl hl (by decide) rfl (fun ls hl => ?_)
  refine lv_iload_n hx hb dX6_yearFrom_4 rfl (lv_at hl 1 rfl) ?_
  refine lv_iconst (v := 2) hx hb dX6_yearFrom_5 (by decide) ?_
  refine lv_icmp_ne (tgt := 15) hx hb dX6_yearFrom_6 (by decide) (fun h_1 => ?_) (fun h_1 => ?_)
  · refine lv_iload_n hx hb dX6_yearFrom_15 rfl (lv_at hl 1 rfl) ?_
    refine lv_iconst (v := 1) hx hb dX6_yearFrom_16 (by decide) ?_
    refine lv_icmp_ne (tgt := 34) hx hb dX6_yearFrom_17 (by decide) (fun h_2 => ?_) (fun h_2 => ?_)
    · refine lv_sipush (v := 365) hx hb dX6_yearFrom_34 (by decide) ?_
      refine lv_iload_n hx hb dX6_yearFrom_37 rfl (lv_at hl 0 rfl) ?_
      refine lv_imul hx hb dX6_yearFrom_38 ?_
      refine lv_iload_n hx hb dX6_yearFrom_39 rfl (lv_at hl 0 rfl) ?_
      refine lv_iconst (v := 4) hx hb dX6_yearFrom_40 (by decide) ?_
      refine lv_idiv hx hb dX6_yearFrom_41 (by decide) ?_
      refine lv_iadd hx hb dX6_yearFrom_42 ?_
      refine lv_iload_n hx hb dX6_yearFrom_43 rfl (lv_at hl 0 rfl) ?_
      refine lv_bipush (v := 100) hx hb dX6_yearFrom_44 (by decide) ?_
      refine lv_idiv hx hb dX6_yearFrom_46 (by decide) ?_
      refine lv_isub hx hb dX6_yearFrom_47 ?_
      refine lv_iload_n hx hb dX6_yearFrom_48 rfl (lv_at hl 0 rfl) ?_
      refine lv_sipush (v := 400) hx hb dX6_yearFrom_49 (by decide) ?_
      refine lv_idiv hx hb dX6_yearFrom_52 (by decide) ?_
      refine lv_iadd hx hb dX6_yearFrom_53 ?_
      exact W.iret (v := (((365 * (p1 - 1)) + ((p1 - 1) / 4)) - ((p1 - 1) / 100)) + ((p1 - 1) / 400)) hx hb hr (fun t ht hW => ⟨_, rfl, by rw [f_X6_yearFrom, if_neg h_1, if_neg h_2], ht⟩) (fun _ h => by cases h) dX6_yearFrom_54
    · refine lv_sipush (v := 365) hx hb dX6_yearFrom_20 (by decide) ?_
      refine lv_iload_n hx hb dX6_yearFrom_23 rfl (lv_at hl 0 rfl) ?_
      refine lv_imul hx hb dX6_yearFrom_24 ?_
      refine lv_iload_n hx hb dX6_yearFrom_25 rfl (lv_at hl 0 rfl) ?_
      refine lv_iconst (v := 4) hx hb dX6_yearFrom_26 (by decide) ?_
      refine lv_idiv hx hb dX6_yearFrom_27 (by decide) ?_
      refine lv_iadd hx hb dX6_yearFrom_28 ?_
      refine lv_iconst (v := 2) hx hb dX6_yearFrom_29 (by decide) ?_
      refine lv_isub hx hb dX6_yearFrom_30 ?_
      refine lv_goto (tgt := 54) hx hb dX6_yearFrom_31 (by decide) ?_
      exact W.iret (v := ((365 * (p1 - 1)) + ((p1 - 1) / 4)) - 2) hx hb hr (fun t ht hW => ⟨_, rfl, by rw [f_X6_yearFrom, if_neg h_1, if_pos h_2], ht⟩) (fun _ h => by cases h) dX6_yearFrom_54
  · refine lv_sipush (v := 365) hx hb dX6_yearFrom_9 (by decide) ?_
    refine lv_iload_n hx hb dX6_yearFrom_12 rfl (lv_at hl 0 rfl) ?_
    refine lv_imul hx hb dX6_yearFrom_13 ?_
    exact W.iret (v := 365 * (p1 - 1)) hx hb hr (fun t ht hW => ⟨_, rfl, by rw [f_X6_yearFrom, if_pos h_1], ht⟩) (fun _ h => by cases h) dX6_yearFrom_14

set_option maxHeartbeats 4000000 in
set_option maxRecDepth 100000 in
theorem k_X6_isDay (l : Launch) (p0 : Int32) : Met l yX6_isDay wsX6_isDay ({ frames := 0, cells := 0, slots := 0, locals := 0 }) (va_Pc [.int p0] (fun _ => True)) (vp_Si (fun r => r = f_X6_isDay p0)) 0 0 (fun _ => False) := by
  refine Met.ofW (cc := cX6_isDay) (maxL := 1) (ret := (some .boolean)) (by decide) rfl ?_
  intro p e s m args below meth c s₁ B hml hv
  obtain ⟨rfl, hcm⟩ := hv
  have hx := B.exec
  have hb := B.bytes
  have hr := B.returns
  have hts := atoms_spec (ws := wsX6_isDay) B.pre
  have hown : s.vm.findClass RX6 = some m.cls := findClass_of_methodNamed B.named
  have hlocks := B.notSynchronized
  have hl := lv_entry ([.int p0]) (n := 1) (Nat.le_of_ble_eq_true rfl)
  rw [lg_entry_eq]
  generalize (lg_sl ([.int p0]) ++ List.replicate (1 - (lg_sl ([.int p0])).length) Slot.unset).toArray = ls at hl ⊢
  have hl : lv_has ls 1 [(0, .int p0)] := hl
  refine lv_iload_n hx hb dX6_isDay_0 rfl (lv_at hl 0 rfl) ?_
  refine lv_if_lt (tgt := 14) hx hb dX6_isDay_1 (by decide) (fun h_1 => ?_) (fun h_1 => ?_)
  · refine lv_iconst (v := 0) hx hb dX6_isDay_14 (by decide) ?_
    exact W.zret (v := 0) hx hb hr rfl (fun t ht hW => ⟨_, rfl, by rw [f_X6_isDay, if_pos h_1], ht⟩) (fun _ h => by cases h) dX6_isDay_15
  · refine lv_iload_n hx hb dX6_isDay_4 rfl (lv_at hl 0 rfl) ?_
    refine lv_ldc (own := RX6) (v := 986000) hx hb hown (hts (.constant RX6 119 (986000)) (by decide +kernel)) dX6_isDay_5 ?_
    refine lv_icmp_ge (tgt := 14) hx hb dX6_isDay_7 (by decide) (fun h_2 => ?_) (fun h_2 => ?_)
    · refine lv_iconst (v := 0) hx hb dX6_isDay_14 (by decide) ?_
      exact W.zret (v := 0) hx hb hr rfl (fun t ht hW => ⟨_, rfl, by rw [f_X6_isDay, if_neg h_1, if_pos h_2], ht⟩) (fun _ h => by cases h) dX6_isDay_15
    · refine lv_iconst (v := 1) hx hb dX6_isDay_10 (by decide) ?_
      refine lv_goto (tgt := 15) hx hb dX6_isDay_11 (by decide) ?_
      exact W.zret (v := 1) hx hb hr rfl (fun t ht hW => ⟨_, rfl, by rw [f_X6_isDay, if_neg h_1, if_neg h_2], ht⟩) (fun _ h => by cases h) dX6_isDay_15

theorem dm_M {a c : Int32} (h1 : ¬ c < 1) (h2 : ¬ f_X6_monthsOf a < c) : c.toNatClampNeg - 1 < 13 ∧ c = nI (c.toNatClampNeg - 1 + 1) := by
  have h3 : c ≤ 13 := by
    have e := Int32.not_lt.mp h2
    unfold f_X6_monthsOf at e
    split at e
    · exact e
    · exact Int32.le_trans e (by decide)
  obtain ⟨j, hj, rfl⟩ := nI_of2 (M := 13) (n := 13) rfl (fun q => h1 (Int32.lt_trans q (by decide))) h3
  have hj1 : 1 ≤ j := by
    rcases Nat.eq_zero_or_pos j with q | q
    · subst q; exact absurd (by decide) h1
    · exact q
  rw [nI_clamp (by omega)]
  exact ⟨by omega, by rw [show j - 1 + 1 = j by omega]⟩

set_option maxHeartbeats 4000000 in
set_option maxRecDepth 100000 in
theorem k_X6_dayOf (l : Launch) (p0 p1 p2 p3 : Int32) : Met l yX6_dayOf wsX6_dayOf ({ frames := 2, cells := 0, slots := 0, locals := 43 }) (va_Pc [.int p0, .int p1, .int p2, .int p3] (fun _ => True)) (vp_Si (fun r => r = f_X6_dayOf p0 p1 p2 p3)) 0 0 (fun _ => False) := by
  refine Met.ofW (cc := cX6_dayOf) (maxL := 6) (ret := (some .int)) (by decide) rfl ?_
  intro p e s m args below meth c s₁ B hml hv
  obtain ⟨rfl, hcm⟩ := hv
  have hx := B.exec
  have hb := B.bytes
  have hr := B.returns
  have hts := atoms_spec (ws := wsX6_dayOf) B.pre
  have hown : s.vm.findClass RX6 = some m.cls := findClass_of_methodNamed B.named
  have hlocks := B.notSynchronized
  have hl := lv_entry ([.int p0, .int p1, .int p2, .int p3]) (n := 6) (Nat.le_of_ble_eq_true rfl)
  rw [lg_entry_eq]
  generalize (lg_sl ([.int p0, .int p1, .int p2, .int p3]) ++ List.replicate (6 - (lg_sl ([.int p0, .int p1, .int p2, .int p3])).length) Slot.unset).toArray = ls at hl ⊢
  have hl : lv_has ls 6 [(0, .int p0), (1, .int p1), (2, .int p2), (3, .int p3)] := hl
  refine lv_iload_n hx hb dX6_dayOf_0 rfl (lv_at hl 0 rfl) ?_
  refine lv_if_lt (tgt := 49) hx hb dX6_dayOf_1 (by decide) (fun h_1 => ?_) (fun h_1 => ?_)
  · refine lv_ldc (own := RX6) (v := 2000000) hx hb hown (hts (.constant RX6 114 (2000000)) (by decide +kernel)) dX6_dayOf_49 ?_
    exact W.iret (v := 2000000) hx hb hr (fun t ht hW => ⟨_, rfl, by rw [f_X6_dayOf, if_pos h_1], ht⟩) (fun _ h => by cases h) dX6_dayOf_51
  · refine lv_iload_n hx hb dX6_dayOf_4 rfl (lv_at hl 0 rfl) ?_
    refine lv_iconst (v := 2) hx hb dX6_dayOf_5 (by decide) ?_
    refine lv_icmp_gt (tgt := 49) hx hb dX6_dayOf_6 (by decide) (fun h_2 => ?_) (fun h_2 => ?_)
    · refine lv_ldc (own := RX6) (v := 2000000) hx hb hown (hts (.constant RX6 114 (2000000)) (by decide +kernel)) dX6_dayOf_49 ?_
      exact W.iret (v := 2000000) hx hb hr (fun t ht hW => ⟨_, rfl, by rw [f_X6_dayOf, if_neg h_1, if_pos h_2], ht⟩) (fun _ h => by cases h) dX6_dayOf_51
    · refine lv_iload_n hx hb dX6_dayOf_9 rfl (lv_at hl 1 rfl) ?_
      refine lv_iconst (v := 1) hx hb dX6_dayOf_10 (by decide) ?_
      refine lv_icmp_lt (tgt := 49) hx hb dX6_dayOf_11 (by decide) (fun h_3 => ?_) (fun h_3 => ?_)
      · refine lv_ldc (own := RX6) (v := 2000000) hx hb hown (hts (.constant RX6 114 (2000000)) (by decide +kernel)) dX6_dayOf_49 ?_
        exact W.iret (v := 2000000) hx hb hr (fun t ht hW => ⟨_, rfl, by rw [f_X6_dayOf, if_neg h_1, if_neg h_2, if_pos h_3], ht⟩) (fun _ h => by cases h) dX6_dayOf_51
      · refine lv_iload_n hx hb dX6_dayOf_14 rfl (lv_at hl 1 rfl) ?_
        refine lv_sipush (v := 2699) hx hb dX6_dayOf_15 (by decide) ?_
        refine lv_icmp_gt (tgt := 49) hx hb dX6_dayOf_18 (by decide) (fun h_4 => ?_) (fun h_4 => ?_)
        · refine lv_ldc (own := RX6) (v := 2000000) hx hb hown (hts (.constant RX6 114 (2000000)) (by decide +kernel)) dX6_dayOf_49 ?_
          exact W.iret (v := 2000000) hx hb hr (fun t ht hW => ⟨_, rfl, by rw [f_X6_dayOf, if_neg h_1, if_neg h_2, if_neg h_3, if_pos h_4], ht⟩) (fun _ h => by cases h) dX6_dayOf_51
        · refine lv_iload_n hx hb dX6_dayOf_21 rfl (lv_at hl 2 rfl) ?_
          refine lv_iconst (v := 1) hx hb dX6_dayOf_22 (by decide) ?_
          refine lv_icmp_lt (tgt := 49) hx hb dX6_dayOf_23 (by decide) (fun h_5 => ?_) (fun h_5 => ?_)
          · refine lv_ldc (own := RX6) (v := 2000000) hx hb hown (hts (.constant RX6 114 (2000000)) (by decide +kernel)) dX6_dayOf_49 ?_
            exact W.iret (v := 2000000) hx hb hr (fun t ht hW => ⟨_, rfl, by rw [f_X6_dayOf, if_neg h_1, if_neg h_2, if_neg h_3, if_neg h_4, if_pos h_5], ht⟩) (fun _ h => by cases h) dX6_dayOf_51
          · refine lv_iload_n hx hb dX6_dayOf_26 rfl (lv_at hl 2 rfl) ?_
            refine lv_iload_n hx hb dX6_dayOf_27 rfl (lv_at hl 0 rfl) ?_
            refine vp_callSi (va_Run.run (va_runS (As := [.int p0]) (rest := [.int p2]) ⟨hx, hb, hml, hown, hts⟩ (k_X6_monthsOf l p0) (va_cwS 1 hts gX6_dayOf_X6_monthsOf rfl rfl rfl (by decide +kernel) ⟨Nat.le_of_ble_eq_true rfl, Nat.le_of_ble_eq_true rfl⟩) ⟨fun _ _ _ _ q => q, fun _ _ _ => ⟨rfl, trivial⟩⟩ rfl rfl hl.1 rfl (lv_room (Nat.le_of_ble_eq_true rfl)) dX6_dayOf_28 ⟨Nat.le_of_ble_eq_true rfl, Nat.le_of_ble_eq_true rfl⟩)) (fun r_6 er_6 => ?_)
            subst er_6
            refine lv_icmp_gt (tgt := 49) hx hb dX6_dayOf_31 (by decide) (fun h_7 => ?_) (fun h_7 => ?_)
            · refine lv_ldc (own := RX6) (v := 2000000) hx hb hown (hts (.constant RX6 114 (2000000)) (by decide +kernel)) dX6_dayOf_49 ?_
              exact W.iret (v := 2000000) hx hb hr (fun t ht hW => ⟨_, rfl, by rw [f_X6_dayOf, if_neg h_1, if_neg h_2, if_neg h_3, if_neg h_4, if_neg h_5, if_pos h_7], ht⟩) (fun _ h => by cases h) dX6_dayOf_51
            · refine lv_iload_n hx hb dX6_dayOf_34 rfl (lv_at hl 3 rfl) ?_
              refine lv_iconst (v := 1) hx hb dX6_dayOf_35 (by decide) ?_
              refine lv_icmp_lt (tgt := 49) hx hb dX6_dayOf_36 (by decide) (fun h_8 => ?_) (fun h_8 => ?_)
              · refine lv_ldc (own := RX6) (v := 2000000) hx hb hown (hts (.constant RX6 114 (2000000)) (by decide +kernel)) dX6_dayOf_49 ?_
                exact W.iret (v := 2000000) hx hb hr (fun t ht hW => ⟨_, rfl, by rw [f_X6_dayOf, if_neg h_1, if_neg h_2, if_neg h_3, if_neg h_4, if_neg h_5, if_neg h_7, if_pos h_8], ht⟩) (fun _ h => by cases h) dX6_dayOf_51
              · refine lv_iload_n hx hb dX6_dayOf_39 rfl (lv_at hl 3 rfl) ?_
                refine lv_iload_n hx hb dX6_dayOf_40 rfl (lv_at hl 0 rfl) ?_
                refine lv_iload_n hx hb dX6_dayOf_41 rfl (lv_at hl 1 rfl) ?_
                refine lv_iload_n hx hb dX6_dayOf_42 rfl (lv_at hl 2 rfl) ?_
                refine vp_callSi (va_Run.run (va_runS (As := [.int p0, .int p1, .int p2]) (rest := [.int p3]) ⟨hx, hb, hml, hown, hts⟩ (k_X6_lengthOf l p0 p1 p2) (va_cwS 3 hts gX6_dayOf_X6_lengthOf rfl rfl rfl (by decide +kernel) ⟨Nat.le_of_ble_eq_true rfl, Nat.le_of_ble_eq_true rfl⟩) ⟨fun _ _ _ _ q => q, fun _ _ _ => ⟨rfl, trivial⟩⟩ rfl rfl hl.1 rfl (lv_room (Nat.le_of_ble_eq_true rfl)) dX6_dayOf_43 ⟨Nat.le_of_ble_eq_true rfl, Nat.le_of_ble_eq_true rfl⟩)) (fun r_9 er_9 => ?_)
                subst er_9
                refine lv_icmp_le (tgt := 52) hx hb dX6_dayOf_46 (by decide) (fun h_10 => ?_) (fun h_10 => ?_)
                · refine lv_iload_n hx hb dX6_dayOf_52 rfl (lv_at hl 0 rfl) ?_
                  refine lv_iload_n hx hb dX6_dayOf_53 rfl (lv_at hl 1 rfl) ?_
                  refine vp_callSi (va_Run.run (va_runS (As := [.int p0, .int p1]) (rest := []) ⟨hx, hb, hml, hown, hts⟩ (k_X6_yearFrom l p0 p1) (va_cwS 2 hts gX6_dayOf_X6_yearFrom rfl rfl rfl (by decide +kernel) ⟨Nat.le_of_ble_eq_true rfl, Nat.le_of_ble_eq_true rfl⟩) ⟨fun _ _ _ _ q => q, fun _ _ _ => ⟨rfl, trivial⟩⟩ rfl rfl hl.1 rfl (lv_room (Nat.le_of_ble_eq_true rfl)) dX6_dayOf_54 ⟨Nat.le_of_ble_eq_true rfl, Nat.le_of_ble_eq_true rfl⟩)) (fun r_11 er_11 => ?_)
                  subst er_11
                  refine lv_iload_n hx hb dX6_dayOf_57 rfl (lv_at hl 3 rfl) ?_
                  refine lv_iadd hx hb dX6_dayOf_58 ?_
                  refine lv_iconst (v := 1) hx hb dX6_dayOf_59 (by decide) ?_
                  refine lv_isub hx hb dX6_dayOf_60 ?_
                  refine lv_istore (lv' := [(4, .int (((f_X6_yearFrom p0 p1) + p3) - 1)), (0, .int p0), (1, .int p1), (2, .int p2), (3, .int p3)]) hx hb dX6_dayOf_61 hl (by decide) rfl (fun ls hl => ?_)
                  refine lv_iconst (v := 1) hx hb dX6_dayOf_63 (by decide) ?_
                  refine lv_istore (lv' := [(5, .int 1), (4, .int (((f_X6_yearFrom p0 p1) + p3) - 1)), (0, .int p0), (1, .int p1), (2, .int p2), (3, .int p3)]) hx hb dX6_dayOf_64 hl (by decide) rfl (fun ls hl => ?_)
                  have hspec : f_X6_dayOf p0 p1 p2 p3 = ds_M p0 p1 (((f_X6_yearFrom p0 p1) + p3) - 1) (p2.toNatClampNeg - 1) := by rw [f_X6_dayOf, if_neg h_1, if_neg h_2, if_neg h_3, if_neg h_4, if_neg h_5, if_neg h_7, if_neg h_8, if_pos h_10]
                  obtain ⟨hM, h2⟩ := dm_M h_5 h_7
                  generalize hMM : p2.toNatClampNeg - 1 = M at hspec hM h2
                  have hloop : ∀ (n j : Nat), j ≤ M → M < j + n → ∀ (ls : Array Slot), lv_has ls 6 [(5, .int (nI (j + 1))), (4, .int (ds_M p0 p1 (((f_X6_yearFrom p0 p1) + p3) - 1) j)), (0, .int p0), (1, .int p1), (2, .int p2), (3, .int p3)] → W p l e (headSpec wsX6_dayOf ({ frames := 2, cells := 0, slots := 0, locals := 43 })).room s m [.int p0, .int p1, .int p2, .int p3].toArray below meth c s.heap [] 0 0 (MQ below (vp_Si (fun r => r = f_X6_dayOf p0 p1 p2 p3)) [.int p0, .int p1, .int p2, .int p3].toArray s 0 0 (fun _ => False)) (F0 m 66 ls []) := by
                    intro n
                    induction n with
                    | zero => intro j h1 h3; omega
                    | succ n ih =>
                      intro j hj hn ls hl
                      refine lv_iload hx hb dX6_dayOf_66 (lv_at hl 0 rfl) ?_
                      refine lv_iload_n hx hb dX6_dayOf_68 rfl (lv_at hl 4 rfl) ?_
                      refine lv_icmp_ge (tgt := 90) hx hb dX6_dayOf_69 (by decide) (fun h_12 => ?_) (fun h_12 => ?_)
                      · refine lv_iload hx hb dX6_dayOf_90 (lv_at hl 1 rfl) ?_
                        exact W.iret (v := ds_M p0 p1 (((f_X6_yearFrom p0 p1) + p3) - 1) j) hx hb hr (fun t ht hW => ⟨_, rfl, by rw [hspec, show j = M by have hh := h_12; rw [h2] at hh; have := (nI_leI (by omega) (by omega)).mp hh; omega], ht⟩) (fun _ h => by cases h) dX6_dayOf_92
                      · refine lv_iload hx hb dX6_dayOf_72 (lv_at hl 1 rfl) ?_
                        refine lv_iload_n hx hb dX6_dayOf_74 rfl (lv_at hl 2 rfl) ?_
                        refine lv_iload_n hx hb dX6_dayOf_75 rfl (lv_at hl 3 rfl) ?_
                        refine lv_iload hx hb dX6_dayOf_76 (lv_at hl 0 rfl) ?_
                        refine vp_callSi (va_Run.run (va_runS (As := [.int p0, .int p1, .int (nI (j + 1))]) (rest := [.int (ds_M p0 p1 (((f_X6_yearFrom p0 p1) + p3) - 1) j)]) ⟨hx, hb, hml, hown, hts⟩ (k_X6_lengthOf l p0 p1 (nI (j + 1))) (va_cwS 3 hts gX6_dayOf_X6_lengthOf rfl rfl rfl (by decide +kernel) ⟨Nat.le_of_ble_eq_true rfl, Nat.le_of_ble_eq_true rfl⟩) ⟨fun _ _ _ _ q => q, fun _ _ _ => ⟨rfl, trivial⟩⟩ rfl rfl hl.1 rfl (lv_room (Nat.le_of_ble_eq_true rfl)) dX6_dayOf_78 ⟨Nat.le_of_ble_eq_true rfl, Nat.le_of_ble_eq_true rfl⟩)) (fun r_13 er_13 => ?_)
                        subst er_13
                        refine lv_iadd hx hb dX6_dayOf_81 ?_
                        refine lv_istore (lv' := [(4, .int ((ds_M p0 p1 (((f_X6_yearFrom p0 p1) + p3) - 1) j) + (f_X6_lengthOf p0 p1 (nI (j + 1))))), (5, .int (nI (j + 1))), (0, .int p0), (1, .int p1), (2, .int p2), (3, .int p3)]) hx hb dX6_dayOf_82 hl (by decide) rfl (fun ls hl => ?_)
                        obtain ⟨x_14, ex_14⟩ : ∃ y : Int32, y = (nI (j + 1)) + 1 := ⟨_, rfl⟩
                        refine lv_iinc (v := x_14) (lv' := [(5, .int x_14), (4, .int ((ds_M p0 p1 (((f_X6_yearFrom p0 p1) + p3) - 1) j) + (f_X6_lengthOf p0 p1 (nI (j + 1))))), (0, .int p0), (1, .int p1), (2, .int p2), (3, .int p3)]) hx hb dX6_dayOf_84 hl (k := 1) rfl (by rw [ex_14]; rfl) (by decide) rfl (fun ls hl => ?_)
                        refine lv_goto (tgt := 66) hx hb dX6_dayOf_87 (by decide) ?_
                        have hjM : ¬ M ≤ j := fun q => h_12 (by rw [h2]; exact nI_le (by omega) (by omega))
                        have e4 : x_14 = nI (j + 1 + 1) := by rw [ex_14, nI_1]
                        rw [e4] at hl
                        exact ih (j + 1) (by omega) (by omega) ls (lv_sub hl [0, 1, 2, 3, 4, 5] rfl)
                  exact hloop (M + 1) 0 (Nat.zero_le _) (by omega) ls (lv_sub hl [0, 1, 2, 3, 4, 5] rfl)
                · refine lv_ldc (own := RX6) (v := 2000000) hx hb hown (hts (.constant RX6 114 (2000000)) (by decide +kernel)) dX6_dayOf_49 ?_
                  exact W.iret (v := 2000000) hx hb hr (fun t ht hW => ⟨_, rfl, by rw [f_X6_dayOf, if_neg h_1, if_neg h_2, if_neg h_3, if_neg h_4, if_neg h_5, if_neg h_7, if_neg h_8, if_neg h_10], ht⟩) (fun _ h => by cases h) dX6_dayOf_51

