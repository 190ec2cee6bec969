set_option maxHeartbeats 4000000 in
set_option maxRecDepth 100000 in
theorem k_X5_addReign (l : Launch) (dC : Nat → ClassId) (dI : Nat → Nat → Nat) (cI cS cP cA : ClassId) (L : List Nat) (tg : Nat → Nat) (f : Nat → va_E) (hN : L.Nodup) (hT : ∀ a : Nat, a ∈ L → tg a < 13) (hI : PI cI cS cP cA L tg f) (h0 : Nat) (hm_h0 : h0 ∈ L) (ht_h0 : tg h0 = 6) (a1 : Nat) (hm_a1 : a1 ∈ L) (ht_a1 : tg a1 = 1) (p1 : Int32) (p2 : Int32) : Met l yX5_addReign wsX5_addReign ({ frames := 5, cells := 0, slots := 0, locals := 116 }) (va_Pc [.ref h0, .ref a1, .int p1, .int p2] (tPre dC dI cI cS cP cA L f)) (va_Qv (fun (f' : Nat → va_E) => PI cI cS cP cA L tg f' ∧ Fr L tg (fun t => t == 1 || t == 2) f f') (fun (f' : Nat → va_E) t => va_P (dC, dI) vwCl (va_pl L f') t.heap) (fun q : Nat => q ∈ L)) 0 0 (fun q : Nat => q ∈ L) := by
  refine Met.ofW (cc := cX5_addReign) (maxL := 6) (ret := none) (by decide) rfl ?_
  intro p e s m args below meth c s₁ B hml hv
  obtain ⟨rfl, hP, hK, hcm⟩ := hv
  have hx := B.exec
  have hb := B.bytes
  have hr := B.returns
  have hts := atoms_spec (ws := wsX5_addReign) B.pre
  have hown : s.vm.findClass RX5 = some m.cls := findClass_of_methodNamed B.named
  have hlocks := B.notSynchronized
  have hin_X5 : ∀ w ∈ u_ws RX5 TX5 11, w ∈ wsX5_addReign := by decide +kernel
  have hl := lv_entry ([.ref h0, .ref a1, .int p1, .int p2]) (n := 6) (Nat.le_of_ble_eq_true rfl)
  rw [lg_entry_eq]
  generalize (lg_sl ([.ref h0, .ref a1, .int p1, .int p2]) ++ List.replicate (6 - (lg_sl ([.ref h0, .ref a1, .int p1, .int p2])).length) Slot.unset).toArray = ls at hl ⊢
  have hl : lv_has ls 6 [(0, .ref h0), (1, .ref a1), (2, .int p1), (3, .int p2)] := hl
  generalize hQ : MQ below (va_Qv (fun (f' : Nat → va_E) => PI cI cS cP cA L tg f' ∧ Fr L tg (fun t => t == 1 || t == 2) f f') (fun (f' : Nat → va_E) t => va_P (dC, dI) vwCl (va_pl L f') t.heap) (fun q : Nat => q ∈ L)) [.ref h0, .ref a1, .int p1, .int p2].toArray s 0 0 (fun q : Nat => q ∈ L) = Q
  obtain ⟨f0, hf0⟩ : ∃ g : Nat → va_E, g = f := ⟨_, rfl⟩
  have hw : PW dC dI cI cS cP cA L tg (fun t => t == 1 || t == 2) f0 s.heap f s.heap [] := by rw [hf0]; exact PW.start hP hI
  clear hP
  refine lv_iload_n hx hb dX5_addReign_0 rfl (lv_at hl 2 rfl) ?_
  refine lv_if_lt (tgt := 23) hx hb dX5_addReign_1 (by decide) (fun h_1 => ?_) (fun h_1 => ?_)
  · subst hQ
    have hI9 := hw.2.1
    have hF9 := hw.2.2.1
    have hS9 := hw.2.2.2
    rw [hf0] at hF9
    exact W.vret hx hb hr (fun t ht hW => ⟨⟨_, rfl, ⟨hI9, hF9⟩, hw.at ht⟩, hS9.F ht⟩) hS9.2.2 dX5_addReign_23
  · refine lv_iload_n hx hb dX5_addReign_4 rfl (lv_at hl 2 rfl) ?_
    refine lv_aload_n hx hb dX5_addReign_5 rfl (lv_at hl 0 rfl) ?_
    refine tp_get (ci := 4) (C := RX5) (T := TX5) (N := 11) hx hb hts hin_X5 hown hK hw hm_h0 6 ht_h0 (fun _ => rfl) rfl 3 (by decide) rfl (hts (.fieldLink RX5 59 "DayBench" "kings" "I") (by decide +kernel)) (fun _ h9 => h9) dX5_addReign_6 (fun v_2 hf_3 hv_4 => ?_)
    obtain ⟨k_5, ek_5, hk_k_5⟩ := hv_4
    subst ek_5
    clear hf_3
    refine lv_icmp_ge (tgt := 23) hx hb dX5_addReign_9 (by decide) (fun h_6 => ?_) (fun h_6 => ?_)
    · subst hQ
      have hI9 := hw.2.1
      have hF9 := hw.2.2.1
      have hS9 := hw.2.2.2
      rw [hf0] at hF9
      exact W.vret hx hb hr (fun t ht hW => ⟨⟨_, rfl, ⟨hI9, hF9⟩, hw.at ht⟩, hS9.F ht⟩) hS9.2.2 dX5_addReign_23
    · refine lv_iload_n hx hb dX5_addReign_12 rfl (lv_at hl 3 rfl) ?_
      refine lv_iconst (v := 1) hx hb dX5_addReign_13 (by decide) ?_
      refine lv_icmp_lt (tgt := 23) hx hb dX5_addReign_14 (by decide) (fun h_7 => ?_) (fun h_7 => ?_)
      · subst hQ
        have hI9 := hw.2.1
        have hF9 := hw.2.2.1
        have hS9 := hw.2.2.2
        rw [hf0] at hF9
        exact W.vret hx hb hr (fun t ht hW => ⟨⟨_, rfl, ⟨hI9, hF9⟩, hw.at ht⟩, hS9.F ht⟩) hS9.2.2 dX5_addReign_23
      · refine lv_iload_n hx hb dX5_addReign_17 rfl (lv_at hl 3 rfl) ?_
        refine lv_bipush (v := 60) hx hb dX5_addReign_18 (by decide) ?_
        refine lv_icmp_le (tgt := 24) hx hb dX5_addReign_20 (by decide) (fun h_8 => ?_) (fun h_8 => ?_)
        · obtain ⟨k_9, hk_9, ek_9⟩ := lt_nI (M := 6) h_1 h_6 (by omega) (by omega)
          rw [ek_9] at hl
          refine lv_aload_n hx hb dX5_addReign_24 rfl (lv_at hl 0 rfl) ?_
          refine tp_get (ci := 4) (C := RX5) (T := TX5) (N := 11) hx hb hts hin_X5 hown hK hw hm_h0 6 ht_h0 (fun _ => rfl) rfl 0 (by decide) rfl (hts (.fieldLink RX5 9 "DayBench" "kingCalendar" "[I") (by decide +kernel)) (fun _ h9 => h9) dX5_addReign_25 (fun v_10 hf_11 hv_12 => ?_)
          obtain ⟨b_13, eb_13, hm_b_13, ht_b_13⟩ := hv_12
          subst eb_13
          refine lv_iload_n hx hb dX5_addReign_28 rfl (lv_at hl 2 rfl) ?_
          refine tp_iald hx hb hK hw hm_b_13 3 ht_b_13 (n := 6) (fun _ => rfl) (vp_in_nI (by omega) (by omega)) dX5_addReign_29 (fun y_14 => ?_)
          refine lv_aload_n hx hb dX5_addReign_30 rfl (lv_at hl 0 rfl) ?_
          refine tp_get (ci := 4) (C := RX5) (T := TX5) (N := 11) hx hb hts hin_X5 hown hK hw hm_h0 6 ht_h0 (fun _ => rfl) rfl 1 (by decide) rfl (hts (.fieldLink RX5 13 "DayBench" "kingFrom" "[I") (by decide +kernel)) (fun _ h9 => h9) dX5_addReign_31 (fun v_15 hf_16 hv_17 => ?_)
          obtain ⟨b_18, eb_18, hm_b_18, ht_b_18⟩ := hv_17
          subst eb_18
          refine lv_iload_n hx hb dX5_addReign_34 rfl (lv_at hl 2 rfl) ?_
          refine tp_iald hx hb hK hw hm_b_18 3 ht_b_18 (n := 6) (fun _ => rfl) (vp_in_nI (by omega) (by omega)) dX5_addReign_35 (fun y_19 => ?_)
          refine lv_iload_n hx hb dX5_addReign_36 rfl (lv_at hl 3 rfl) ?_
          refine lv_iconst (v := 1) hx hb dX5_addReign_37 (by decide) ?_
          refine lv_isub hx hb dX5_addReign_38 ?_
          refine vp_callSi (va_Run.run (va_runS (As := [.int y_14, .int y_19, .int (p2 - 1)]) (rest := []) ⟨hx, hb, hml, hown, hts⟩ (k_X0_yearsBehind l y_14 y_19 (p2 - 1)) (va_cwS 3 hts gX5_addReign_X0_yearsBehind rfl rfl rfl (by decide +kernel) ⟨Nat.le_of_ble_eq_true rfl, Nat.le_of_ble_eq_true rfl⟩) ⟨cm_blind, fun U hU hW => ⟨rfl, cm_law hcm hw.2.2.2 hU hW⟩⟩ rfl rfl hl.1 rfl (lv_room (Nat.le_of_ble_eq_true rfl)) dX5_addReign_39 ⟨Nat.le_of_ble_eq_true rfl, Nat.le_of_ble_eq_true rfl⟩)) (fun r_20 er_20 => ?_)
          refine lv_istore (lv' := [(4, .int r_20), (0, .ref h0), (1, .ref a1), (2, .int (nI k_9)), (3, .int p2)]) hx hb dX5_addReign_42 hl (by decide) rfl (fun ls hl => ?_)
          refine lv_aload_n hx hb dX5_addReign_44 rfl (lv_at hl 1 rfl) ?_
          refine tp_getK (ci := 4) (C := RX5) (T := TX5) (N := 11) hx hb hts hin_X5 hown hK hw hm_h0 6 ht_h0 (fun _ => rfl) rfl 0 (by decide) hf_11 (hts (.fieldLink RX5 9 "DayBench" "kingCalendar" "[I") (by decide +kernel)) (fun _ h9 => h9) dX5_addReign_45 ?_
          refine lv_iload_n hx hb dX5_addReign_48 rfl (lv_at hl 3 rfl) ?_
          refine tp_iald hx hb hK hw hm_b_13 3 ht_b_13 (n := 6) (fun _ => rfl) (vp_in_nI (by omega) (by omega)) dX5_addReign_49 (fun y_21 => ?_)
          refine lv_aload_n hx hb dX5_addReign_50 rfl (lv_at hl 1 rfl) ?_
          refine tp_get (ci := 4) (C := RX5) (T := TX5) (N := 11) hx hb hts hin_X5 hown hK hw hm_h0 6 ht_h0 (fun _ => rfl) rfl 2 (by decide) rfl (hts (.fieldLink RX5 16 "DayBench" "kingTo" "[I") (by decide +kernel)) (fun _ h9 => h9) dX5_addReign_51 (fun v_22 hf_23 hv_24 => ?_)
          obtain ⟨b_25, eb_25, hm_b_25, ht_b_25⟩ := hv_24
          subst eb_25
          refine lv_iload_n hx hb dX5_addReign_54 rfl (lv_at hl 3 rfl) ?_
          refine tp_iald hx hb hK hw hm_b_25 3 ht_b_25 (n := 6) (fun _ => rfl) (vp_in_nI (by omega) (by omega)) dX5_addReign_55 (fun y_26 => ?_)
          refine lv_iload_n hx hb dX5_addReign_56 rfl (lv_at hl 4 rfl) ?_
          refine vp_callSi (va_Run.run (va_runS (As := [.int y_21, .int y_26, .int p2]) (rest := []) ⟨hx, hb, hml, hown, hts⟩ (k_X0_yearsBehind l y_21 y_26 p2) (va_cwS 3 hts gX5_addReign_X0_yearsBehind rfl rfl rfl (by decide +kernel) ⟨Nat.le_of_ble_eq_true rfl, Nat.le_of_ble_eq_true rfl⟩) ⟨cm_blind, fun U hU hW => ⟨rfl, cm_law hcm hw.2.2.2 hU hW⟩⟩ rfl rfl hl.1 rfl (lv_room (Nat.le_of_ble_eq_true rfl)) dX5_addReign_57 ⟨Nat.le_of_ble_eq_true rfl, Nat.le_of_ble_eq_true rfl⟩)) (fun r_27 er_27 => ?_)
          refine lv_istore (lv' := [(5, .int r_27), (4, .int r_20), (0, .ref h0), (1, .ref a1), (2, .int (nI k_9)), (3, .int p2)]) hx hb dX5_addReign_60 hl (by decide) rfl (fun ls hl => ?_)
          refine lv_iload hx hb dX5_addReign_62 (lv_at hl 1 rfl) ?_
          refine lv_iconst (v := (-1)) hx hb dX5_addReign_64 (by decide) ?_
          refine lv_icmp_eq (tgt := 84) hx hb dX5_addReign_65 (by decide) (fun h_28 => ?_) (fun h_28 => ?_)
          · subst hQ
            have hI9 := hw.2.1
            have hF9 := hw.2.2.1
            have hS9 := hw.2.2.2
            rw [hf0] at hF9
            exact W.vret hx hb hr (fun t ht hW => ⟨⟨_, rfl, ⟨hI9, hF9⟩, hw.at ht⟩, hS9.F ht⟩) hS9.2.2 dX5_addReign_84
          · refine lv_iload hx hb dX5_addReign_68 (lv_at hl 0 rfl) ?_
            refine lv_iconst (v := (-1)) hx hb dX5_addReign_70 (by decide) ?_
            refine lv_icmp_eq (tgt := 84) hx hb dX5_addReign_71 (by decide) (fun h_29 => ?_) (fun h_29 => ?_)
            · subst hQ
              have hI9 := hw.2.1
              have hF9 := hw.2.2.1
              have hS9 := hw.2.2.2
              rw [hf0] at hF9
              exact W.vret hx hb hr (fun t ht hW => ⟨⟨_, rfl, ⟨hI9, hF9⟩, hw.at ht⟩, hS9.F ht⟩) hS9.2.2 dX5_addReign_84
            · refine lv_aload_n hx hb dX5_addReign_74 rfl (lv_at hl 3 rfl) ?_
              refine lv_iload hx hb dX5_addReign_75 (lv_at hl 1 rfl) ?_
              refine lv_iload hx hb dX5_addReign_77 (lv_at hl 0 rfl) ?_
              refine lv_iconst (v := 1) hx hb dX5_addReign_79 (by decide) ?_
              refine lv_isub hx hb dX5_addReign_80 ?_
              refine va_callv (va_runV (As := [.int r_20, .int (r_27 - 1)]) (rest := []) ⟨hx, hb, hml, hown, hts⟩ (k_X4_add l dC dI cI cS cP cA L tg f hN hT hw.2.1 a1 hm_a1 ht_a1 r_20 (r_27 - 1)) (cwV 2 hts gX5_addReign_X4_add rfl rfl rfl (by decide +kernel) ⟨Nat.le_of_ble_eq_true rfl, Nat.le_of_ble_eq_true rfl⟩) ⟨tPre_blind, tp_recv hK hw hm_a1 1 ht_a1 (ci := 3) (fun _ => rfl) rfl, fun U hU hW => ⟨rfl, tPre_at hw hK hcm hU hW⟩⟩ rfl rfl hl.1 rfl (lv_room (Nat.le_of_ble_eq_true rfl)) dX5_addReign_81 ⟨Nat.le_of_ble_eq_true rfl, Nat.le_of_ble_eq_true rfl⟩) hw.2.2.2 (fun q _ h => h) (fun q h => h) (fun f t H locs ht hvm hp hB hz1 hk1 hS1 => ?_)
              obtain ⟨hI1, hF1⟩ := hp
              have hw := hw.back (S' := (fun t => t == 1 || t == 2)) (by decide) hT hI1 hF1 hB ht hS1
              have hf_11 : fld (f h0) 0 = some (.ref b_13) := by rw [hF1 h0 hm_h0 (by rw [ht_h0]; rfl)]; exact hf_11
              have hf_16 : fld (f h0) 1 = some (.ref b_18) := by rw [hF1 h0 hm_h0 (by rw [ht_h0]; rfl)]; exact hf_16
              have hf_23 : fld (f h0) 2 = some (.ref b_25) := by rw [hF1 h0 hm_h0 (by rw [ht_h0]; rfl)]; exact hf_23
              clear hI1 hF1 hB ht hz1 hk1 hS1 hvm
              subst hQ
              have hI9 := hw.2.1
              have hF9 := hw.2.2.1
              have hS9 := hw.2.2.2
              rw [hf0] at hF9
              exact W.vret hx hb hr (fun t ht hW => ⟨⟨_, rfl, ⟨hI9, hF9⟩, hw.at ht⟩, hS9.F ht⟩) hS9.2.2 dX5_addReign_84
        · subst hQ
          have hI9 := hw.2.1
          have hF9 := hw.2.2.1
          have hS9 := hw.2.2.2
          rw [hf0] at hF9
          exact W.vret hx hb hr (fun t ht hW => ⟨⟨_, rfl, ⟨hI9, hF9⟩, hw.at ht⟩, hS9.F ht⟩) hS9.2.2 dX5_addReign_23

set_option maxHeartbeats 4000000 in
set_option maxRecDepth 100000 in
theorem k_X5_fillSpans (l : Launch) (dC : Nat → ClassId) (dI : Nat → Nat → Nat) (cI cS cP cA : ClassId) (L : List Nat) (tg : Nat → Nat) (f : Nat → va_E) (hN : L.Nodup) (hT : ∀ a : Nat, a ∈ L → tg a < 13) (hI : PI cI cS cP cA L tg f) (h0 : Nat) (hm_h0 : h0 ∈ L) (ht_h0 : tg h0 = 6) (a1 : Nat) (hm_a1 : a1 ∈ L) (ht_a1 : tg a1 = 1) (p1 : Int32) (p2 : Int32) (p3 : Int32) (p4 : Int32) : Met l yX5_fillSpans wsX5_fillSpans ({ frames := 6, cells := 0, slots := 0, locals := 141 }) (va_Pc [.ref h0, .ref a1, .int p1, .int p2, .int p3, .int p4] (tPre dC dI cI cS cP cA L f)) (va_Qv (fun (f' : Nat → va_E) => PI cI cS cP cA L tg f' ∧ Fr L tg (fun t => t == 1 || t == 2) f f') (fun (f' : Nat → va_E) t => va_P (dC, dI) vwCl (va_pl L f') t.heap) (fun q : Nat => q ∈ L)) 0 0 (fun q : Nat => q ∈ L) := by
  refine Met.ofW (cc := cX5_fillSpans) (maxL := 7) (ret := none) (by decide) rfl ?_
  intro p e s m args below meth c s₁ B hml hv
  obtain ⟨rfl, hP, hK, hcm⟩ := hv
  have hx := B.exec
  have hb := B.bytes
  have hr := B.returns
  have hts := atoms_spec (ws := wsX5_fillSpans) B.pre
  have hown : s.vm.findClass RX5 = some m.cls := findClass_of_methodNamed B.named
  have hlocks := B.notSynchronized
  have hl := lv_entry ([.ref h0, .ref a1, .int p1, .int p2, .int p3, .int p4]) (n := 7) (Nat.le_of_ble_eq_true rfl)
  rw [lg_entry_eq]
  generalize (lg_sl ([.ref h0, .ref a1, .int p1, .int p2, .int p3, .int p4]) ++ List.replicate (7 - (lg_sl ([.ref h0, .ref a1, .int p1, .int p2, .int p3, .int p4])).length) Slot.unset).toArray = ls at hl ⊢
  have hl : lv_has ls 7 [(0, .ref h0), (1, .ref a1), (2, .int p1), (3, .int p2), (4, .int p3), (5, .int p4)] := hl
  generalize hQ : MQ below (va_Qv (fun (f' : Nat → va_E) => PI cI cS cP cA L tg f' ∧ Fr L tg (fun t => t == 1 || t == 2) f f') (fun (f' : Nat → va_E) t => va_P (dC, dI) vwCl (va_pl L f') t.heap) (fun q : Nat => q ∈ L)) [.ref h0, .ref a1, .int p1, .int p2, .int p3, .int p4].toArray s 0 0 (fun q : Nat => q ∈ L) = Q
  obtain ⟨f0, hf0⟩ : ∃ g : Nat → va_E, g = f := ⟨_, rfl⟩
  have hw : PW dC dI cI cS cP cA L tg (fun t => t == 1 || t == 2) f0 s.heap f s.heap [] := by rw [hf0]; exact PW.start hP hI
  clear hP
  refine lv_iload_n hx hb dX5_fillSpans_0 rfl (lv_at hl 2 rfl) ?_
  by_cases h_1 : p1 = 0
  · refine lv_tableIn (tgt := 40) hx hb dX5_fillSpans_1 (by rw [h_1]; decide) (by rw [h_1]; decide) (by rw [h_1]; rfl) (by decide) ?_
    refine lv_iload_n hx hb dX5_fillSpans_40 rfl (lv_at hl 3 rfl) ?_
    refine lv_iload hx hb dX5_fillSpans_41 (lv_at hl 4 rfl) ?_
    refine vp_callSi (va_Run.run (va_runS (As := [.int p2, .int p3]) (rest := []) ⟨hx, hb, hml, hown, hts⟩ (k_X5_isRowOfDays l p2 p3) (va_cwS 2 hts gX5_fillSpans_X5_isRowOfDays rfl rfl rfl (by decide +kernel) ⟨Nat.le_of_ble_eq_true rfl, Nat.le_of_ble_eq_true rfl⟩) ⟨fun _ _ _ _ q => q, fun _ _ _ => ⟨rfl, trivial⟩⟩ rfl rfl hl.1 rfl (lv_room (Nat.le_of_ble_eq_true rfl)) dX5_fillSpans_43 ⟨Nat.le_of_ble_eq_true rfl, Nat.le_of_ble_eq_true rfl⟩)) (fun r_2 er_2 => ?_)
    refine lv_if_eq (tgt := 188) hx hb dX5_fillSpans_46 (by decide) (fun h_3 => ?_) (fun h_3 => ?_)
    · subst hQ
      have hI9 := hw.2.1
      have hF9 := hw.2.2.1
      have hS9 := hw.2.2.2
      rw [hf0] at hF9
      exact W.vret hx hb hr (fun t ht hW => ⟨⟨_, rfl, ⟨hI9, hF9⟩, hw.at ht⟩, hS9.F ht⟩) hS9.2.2 dX5_fillSpans_188
    · refine lv_aload_n hx hb dX5_fillSpans_49 rfl (lv_at hl 1 rfl) ?_
      refine lv_iload_n hx hb dX5_fillSpans_50 rfl (lv_at hl 3 rfl) ?_
      refine lv_iload hx hb dX5_fillSpans_51 (lv_at hl 4 rfl) ?_
      refine va_callv (va_runV (As := [.int p2, .int p3]) (rest := []) ⟨hx, hb, hml, hown, hts⟩ (k_X4_add l dC dI cI cS cP cA L tg f hN hT hw.2.1 a1 hm_a1 ht_a1 p2 p3) (cwV 2 hts gX5_fillSpans_X4_add rfl rfl rfl (by decide +kernel) ⟨Nat.le_of_ble_eq_true rfl, Nat.le_of_ble_eq_true rfl⟩) ⟨tPre_blind, tp_recv hK hw hm_a1 1 ht_a1 (ci := 3) (fun _ => rfl) rfl, fun U hU hW => ⟨rfl, tPre_at hw hK hcm hU hW⟩⟩ rfl rfl hl.1 rfl (lv_room (Nat.le_of_ble_eq_true rfl)) dX5_fillSpans_53 ⟨Nat.le_of_ble_eq_true rfl, Nat.le_of_ble_eq_true rfl⟩) hw.2.2.2 (fun q _ h => h) (fun q h => h) (fun f t H locs ht hvm hp hB hz1 hk1 hS1 => ?_)
      obtain ⟨hI1, hF1⟩ := hp
      have hw := hw.back (S' := (fun t => t == 1 || t == 2)) (by decide) hT hI1 hF1 hB ht hS1
      clear hI1 hF1 hB ht hz1 hk1 hS1 hvm
      refine lv_goto (tgt := 188) hx hb dX5_fillSpans_56 (by decide) ?_
      subst hQ
      have hI9 := hw.2.1
      have hF9 := hw.2.2.1
      have hS9 := hw.2.2.2
      rw [hf0] at hF9
      exact W.vret hx hb hr (fun t ht hW => ⟨⟨_, rfl, ⟨hI9, hF9⟩, hw.at ht⟩, hS9.F ht⟩) hS9.2.2 dX5_fillSpans_188
  by_cases h_5 : p1 = 1
  · refine lv_tableIn (tgt := 59) hx hb dX5_fillSpans_1 (by rw [h_5]; decide) (by rw [h_5]; decide) (by rw [h_5]; rfl) (by decide) ?_
    refine lv_aload_n hx hb dX5_fillSpans_59 rfl (lv_at hl 1 rfl) ?_
    refine lv_iload_n hx hb dX5_fillSpans_60 rfl (lv_at hl 3 rfl) ?_
    refine lv_iload hx hb dX5_fillSpans_61 (lv_at hl 4 rfl) ?_
    refine lv_iload hx hb dX5_fillSpans_63 (lv_at hl 5 rfl) ?_
    refine va_callv (va_runS (As := [.ref a1, .int p2, .int p3, .int p4]) (rest := []) ⟨hx, hb, hml, hown, hts⟩ (k_X5_addDate l dC dI cI cS cP cA L tg f hN hT hw.2.1 a1 hm_a1 ht_a1 p2 p3 p4) (va_cwS 4 hts gX5_fillSpans_X5_addDate rfl rfl rfl (by decide +kernel) ⟨Nat.le_of_ble_eq_true rfl, Nat.le_of_ble_eq_true rfl⟩) ⟨tPre_blind, fun U hU hW => ⟨rfl, tPre_at hw hK hcm hU hW⟩⟩ rfl rfl hl.1 rfl (lv_room (Nat.le_of_ble_eq_true rfl)) dX5_fillSpans_65 ⟨Nat.le_of_ble_eq_true rfl, Nat.le_of_ble_eq_true rfl⟩) hw.2.2.2 (fun q _ h => h) (fun q h => h) (fun f t H locs ht hvm hp hB hz1 hk1 hS1 => ?_)
    obtain ⟨hI1, hF1⟩ := hp
    have hw := hw.back (S' := (fun t => t == 1 || t == 2)) (by decide) hT hI1 hF1 hB ht hS1
    clear hI1 hF1 hB ht hz1 hk1 hS1 hvm
    refine lv_goto (tgt := 188) hx hb dX5_fillSpans_68 (by decide) ?_
    subst hQ
    have hI9 := hw.2.1
    have hF9 := hw.2.2.1
    have hS9 := hw.2.2.2
    rw [hf0] at hF9
    exact W.vret hx hb hr (fun t ht hW => ⟨⟨_, rfl, ⟨hI9, hF9⟩, hw.at ht⟩, hS9.F ht⟩) hS9.2.2 dX5_fillSpans_188
  by_cases h_7 : p1 = 2
  · refine lv_tableIn (tgt := 71) hx hb dX5_fillSpans_1 (by rw [h_7]; decide) (by rw [h_7]; decide) (by rw [h_7]; rfl) (by decide) ?_
    refine lv_iload_n hx hb dX5_fillSpans_71 rfl (lv_at hl 3 rfl) ?_
    refine lv_iload hx hb dX5_fillSpans_72 (lv_at hl 4 rfl) ?_
    refine lv_iload hx hb dX5_fillSpans_74 (lv_at hl 5 rfl) ?_
    refine vp_callSi (va_Run.run (va_runS (As := [.int p2, .int p3, .int p4]) (rest := []) ⟨hx, hb, hml, hown, hts⟩ (k_X0_isMonth l p2 p3 p4) (va_cwS 3 hts gX5_fillSpans_X0_isMonth rfl rfl rfl (by decide +kernel) ⟨Nat.le_of_ble_eq_true rfl, Nat.le_of_ble_eq_true rfl⟩) ⟨fun _ _ _ _ q => q, fun _ _ _ => ⟨rfl, trivial⟩⟩ rfl rfl hl.1 rfl (lv_room (Nat.le_of_ble_eq_true rfl)) dX5_fillSpans_76 ⟨Nat.le_of_ble_eq_true rfl, Nat.le_of_ble_eq_true rfl⟩)) (fun r_8 er_8 => ?_)
    refine lv_if_eq (tgt := 188) hx hb dX5_fillSpans_79 (by decide) (fun h_9 => ?_) (fun h_9 => ?_)
    · subst hQ
      have hI9 := hw.2.1
      have hF9 := hw.2.2.1
      have hS9 := hw.2.2.2
      rw [hf0] at hF9
      exact W.vret hx hb hr (fun t ht hW => ⟨⟨_, rfl, ⟨hI9, hF9⟩, hw.at ht⟩, hS9.F ht⟩) hS9.2.2 dX5_fillSpans_188
    · refine lv_iload_n hx hb dX5_fillSpans_82 rfl (lv_at hl 3 rfl) ?_
      refine lv_iload hx hb dX5_fillSpans_83 (lv_at hl 4 rfl) ?_
      refine lv_iload hx hb dX5_fillSpans_85 (lv_at hl 5 rfl) ?_
      refine vp_callSi (va_Run.run (va_runS (As := [.int p2, .int p3, .int p4]) (rest := []) ⟨hx, hb, hml, hown, hts⟩ (k_X0_monthStart l p2 p3 p4 (p4.toNatClampNeg - 1) (im_M (show ¬ f_X0_isMonth p2 p3 p4 = 0 from er_8 ▸ h_9)).1 (im_M (show ¬ f_X0_isMonth p2 p3 p4 = 0 from er_8 ▸ h_9)).2) (va_cwS 3 hts gX5_fillSpans_X0_monthStart rfl rfl rfl (by decide +kernel) ⟨Nat.le_of_ble_eq_true rfl, Nat.le_of_ble_eq_true rfl⟩) ⟨cm_blind, fun U hU hW => ⟨rfl, cm_law hcm hw.2.2.2 hU hW⟩⟩ rfl rfl hl.1 rfl (lv_room (Nat.le_of_ble_eq_true rfl)) dX5_fillSpans_87 ⟨Nat.le_of_ble_eq_true rfl, Nat.le_of_ble_eq_true rfl⟩)) (fun r_10 er_10 => ?_)
      refine lv_istore (lv' := [(6, .int r_10), (0, .ref h0), (1, .ref a1), (2, .int p1), (3, .int p2), (4, .int p3), (5, .int p4)]) hx hb dX5_fillSpans_90 hl (by decide) rfl (fun ls hl => ?_)
      refine lv_aload_n hx hb dX5_fillSpans_92 rfl (lv_at hl 2 rfl) ?_
      refine lv_iload hx hb dX5_fillSpans_93 (lv_at hl 0 rfl) ?_
      refine lv_iload hx hb dX5_fillSpans_95 (lv_at hl 0 rfl) ?_
      refine lv_iload_n hx hb dX5_fillSpans_97 rfl (lv_at hl 4 rfl) ?_
      refine lv_iload hx hb dX5_fillSpans_98 (lv_at hl 5 rfl) ?_
      refine lv_iload hx hb dX5_fillSpans_100 (lv_at hl 6 rfl) ?_
      refine vp_callSi (va_Run.run (va_runS (As := [.int p2, .int p3, .int p4]) (rest := [.int r_10, .int r_10, .ref a1]) ⟨hx, hb, hml, hown, hts⟩ (k_X0_monthDays l p2 p3 p4) (va_cwS 3 hts gX5_fillSpans_X0_monthDays rfl rfl rfl (by decide +kernel) ⟨Nat.le_of_ble_eq_true rfl, Nat.le_of_ble_eq_true rfl⟩) ⟨cm_blind, fun U hU hW => ⟨rfl, cm_law hcm hw.2.2.2 hU hW⟩⟩ rfl rfl hl.1 rfl (lv_room (Nat.le_of_ble_eq_true rfl)) dX5_fillSpans_102 ⟨Nat.le_of_ble_eq_true rfl, Nat.le_of_ble_eq_true rfl⟩)) (fun r_11 er_11 => ?_)
      refine lv_iadd hx hb dX5_fillSpans_105 ?_
      refine lv_iconst (v := 1) hx hb dX5_fillSpans_106 (by decide) ?_
      refine lv_isub hx hb dX5_fillSpans_107 ?_
      refine va_callv (va_runV (As := [.int r_10, .int ((r_10 + r_11) - 1)]) (rest := []) ⟨hx, hb, hml, hown, hts⟩ (k_X4_add l dC dI cI cS cP cA L tg f hN hT hw.2.1 a1 hm_a1 ht_a1 r_10 ((r_10 + r_11) - 1)) (cwV 2 hts gX5_fillSpans_X4_add rfl rfl rfl (by decide +kernel) ⟨Nat.le_of_ble_eq_true rfl, Nat.le_of_ble_eq_true rfl⟩) ⟨tPre_blind, tp_recv hK hw hm_a1 1 ht_a1 (ci := 3) (fun _ => rfl) rfl, fun U hU hW => ⟨rfl, tPre_at hw hK hcm hU hW⟩⟩ rfl rfl hl.1 rfl (lv_room (Nat.le_of_ble_eq_true rfl)) dX5_fillSpans_108 ⟨Nat.le_of_ble_eq_true rfl, Nat.le_of_ble_eq_true rfl⟩) hw.2.2.2 (fun q _ h => h) (fun q h => h) (fun f t H locs ht hvm hp hB hz1 hk1 hS1 => ?_)
      obtain ⟨hI1, hF1⟩ := hp
      have hw := hw.back (S' := (fun t => t == 1 || t == 2)) (by decide) hT hI1 hF1 hB ht hS1
      clear hI1 hF1 hB ht hz1 hk1 hS1 hvm
      refine lv_goto (tgt := 188) hx hb dX5_fillSpans_111 (by decide) ?_
      subst hQ
      have hI9 := hw.2.1
      have hF9 := hw.2.2.1
      have hS9 := hw.2.2.2
      rw [hf0] at hF9
      exact W.vret hx hb hr (fun t ht hW => ⟨⟨_, rfl, ⟨hI9, hF9⟩, hw.at ht⟩, hS9.F ht⟩) hS9.2.2 dX5_fillSpans_188
  by_cases h_13 : p1 = 3
  · refine lv_tableIn (tgt := 114) hx hb dX5_fillSpans_1 (by rw [h_13]; decide) (by rw [h_13]; decide) (by rw [h_13]; rfl) (by decide) ?_
    refine lv_iload_n hx hb dX5_fillSpans_114 rfl (lv_at hl 3 rfl) ?_
    refine lv_iload hx hb dX5_fillSpans_115 (lv_at hl 4 rfl) ?_
    refine vp_callSi (va_Run.run (va_runS (As := [.int p2, .int p3]) (rest := []) ⟨hx, hb, hml, hown, hts⟩ (k_X0_isYear l p2 p3) (va_cwS 2 hts gX5_fillSpans_X0_isYear rfl rfl rfl (by decide +kernel) ⟨Nat.le_of_ble_eq_true rfl, Nat.le_of_ble_eq_true rfl⟩) ⟨fun _ _ _ _ q => q, fun _ _ _ => ⟨rfl, trivial⟩⟩ rfl rfl hl.1 rfl (lv_room (Nat.le_of_ble_eq_true rfl)) dX5_fillSpans_117 ⟨Nat.le_of_ble_eq_true rfl, Nat.le_of_ble_eq_true rfl⟩)) (fun r_14 er_14 => ?_)
    refine lv_if_eq (tgt := 188) hx hb dX5_fillSpans_120 (by decide) (fun h_15 => ?_) (fun h_15 => ?_)
    · subst hQ
      have hI9 := hw.2.1
      have hF9 := hw.2.2.1
      have hS9 := hw.2.2.2
      rw [hf0] at hF9
      exact W.vret hx hb hr (fun t ht hW => ⟨⟨_, rfl, ⟨hI9, hF9⟩, hw.at ht⟩, hS9.F ht⟩) hS9.2.2 dX5_fillSpans_188
    · refine lv_aload_n hx hb dX5_fillSpans_123 rfl (lv_at hl 1 rfl) ?_
      refine lv_iload_n hx hb dX5_fillSpans_124 rfl (lv_at hl 3 rfl) ?_
      refine lv_iload hx hb dX5_fillSpans_125 (lv_at hl 4 rfl) ?_
      refine vp_callSi (va_Run.run (va_runS (As := [.int p2, .int p3]) (rest := [.ref a1]) ⟨hx, hb, hml, hown, hts⟩ (k_X0_yearStart l p2 p3) (va_cwS 2 hts gX5_fillSpans_X0_yearStart rfl rfl rfl (by decide +kernel) ⟨Nat.le_of_ble_eq_true rfl, Nat.le_of_ble_eq_true rfl⟩) ⟨fun _ _ _ _ q => q, fun _ _ _ => ⟨rfl, trivial⟩⟩ rfl rfl hl.1 rfl (lv_room (Nat.le_of_ble_eq_true rfl)) dX5_fillSpans_127 ⟨Nat.le_of_ble_eq_true rfl, Nat.le_of_ble_eq_true rfl⟩)) (fun r_16 er_16 => ?_)
      refine lv_iload_n hx hb dX5_fillSpans_130 rfl (lv_at hl 3 rfl) ?_
      refine lv_iload hx hb dX5_fillSpans_131 (lv_at hl 4 rfl) ?_
      refine lv_iconst (v := 1) hx hb dX5_fillSpans_133 (by decide) ?_
      refine lv_iadd hx hb dX5_fillSpans_134 ?_
      refine vp_callSi (va_Run.run (va_runS (As := [.int p2, .int (p3 + 1)]) (rest := [.int r_16, .ref a1]) ⟨hx, hb, hml, hown, hts⟩ (k_X0_yearStart l p2 (p3 + 1)) (va_cwS 2 hts gX5_fillSpans_X0_yearStart rfl rfl rfl (by decide +kernel) ⟨Nat.le_of_ble_eq_true rfl, Nat.le_of_ble_eq_true rfl⟩) ⟨fun _ _ _ _ q => q, fun _ _ _ => ⟨rfl, trivial⟩⟩ rfl rfl hl.1 rfl (lv_room (Nat.le_of_ble_eq_true rfl)) dX5_fillSpans_135 ⟨Nat.le_of_ble_eq_true rfl, Nat.le_of_ble_eq_true rfl⟩)) (fun r_17 er_17 => ?_)
      refine lv_iconst (v := 1) hx hb dX5_fillSpans_138 (by decide) ?_
      refine lv_isub hx hb dX5_fillSpans_139 ?_
      refine va_callv (va_runV (As := [.int r_16, .int (r_17 - 1)]) (rest := []) ⟨hx, hb, hml, hown, hts⟩ (k_X4_add l dC dI cI cS cP cA L tg f hN hT hw.2.1 a1 hm_a1 ht_a1 r_16 (r_17 - 1)) (cwV 2 hts gX5_fillSpans_X4_add rfl rfl rfl (by decide +kernel) ⟨Nat.le_of_ble_eq_true rfl, Nat.le_of_ble_eq_true rfl⟩) ⟨tPre_blind, tp_recv hK hw hm_a1 1 ht_a1 (ci := 3) (fun _ => rfl) rfl, fun U hU hW => ⟨rfl, tPre_at hw hK hcm hU hW⟩⟩ rfl rfl hl.1 rfl (lv_room (Nat.le_of_ble_eq_true rfl)) dX5_fillSpans_140 ⟨Nat.le_of_ble_eq_true rfl, Nat.le_of_ble_eq_true rfl⟩) hw.2.2.2 (fun q _ h => h) (fun q h => h) (fun f t H locs ht hvm hp hB hz1 hk1 hS1 => ?_)
      obtain ⟨hI1, hF1⟩ := hp
      have hw := hw.back (S' := (fun t => t == 1 || t == 2)) (by decide) hT hI1 hF1 hB ht hS1
      clear hI1 hF1 hB ht hz1 hk1 hS1 hvm
      refine lv_goto (tgt := 188) hx hb dX5_fillSpans_143 (by decide) ?_
      subst hQ
      have hI9 := hw.2.1
      have hF9 := hw.2.2.1
      have hS9 := hw.2.2.2
      rw [hf0] at hF9
      exact W.vret hx hb hr (fun t ht hW => ⟨⟨_, rfl, ⟨hI9, hF9⟩, hw.at ht⟩, hS9.F ht⟩) hS9.2.2 dX5_fillSpans_188
  by_cases h_19 : p1 = 4
  · refine lv_tableIn (tgt := 146) hx hb dX5_fillSpans_1 (by rw [h_19]; decide) (by rw [h_19]; decide) (by rw [h_19]; rfl) (by decide) ?_
    refine lv_aload_n hx hb dX5_fillSpans_146 rfl (lv_at hl 0 rfl) ?_
    refine lv_aload_n hx hb dX5_fillSpans_147 rfl (lv_at hl 1 rfl) ?_
    refine lv_iload_n hx hb dX5_fillSpans_148 rfl (lv_at hl 3 rfl) ?_
    refine lv_iload hx hb dX5_fillSpans_149 (lv_at hl 4 rfl) ?_
    refine va_callv (va_runV (As := [.ref a1, .int p2, .int p3]) (rest := []) ⟨hx, hb, hml, hown, hts⟩ (k_X5_addReign l dC dI cI cS cP cA L tg f hN hT hw.2.1 h0 hm_h0 ht_h0 a1 hm_a1 ht_a1 p2 p3) (cwV 3 hts gX5_fillSpans_X5_addReign rfl rfl rfl (by decide +kernel) ⟨Nat.le_of_ble_eq_true rfl, Nat.le_of_ble_eq_true rfl⟩) ⟨tPre_blind, tp_recv hK hw hm_h0 6 ht_h0 (ci := 4) (fun _ => rfl) rfl, fun U hU hW => ⟨rfl, tPre_at hw hK hcm hU hW⟩⟩ rfl rfl hl.1 rfl (lv_room (Nat.le_of_ble_eq_true rfl)) dX5_fillSpans_151 ⟨Nat.le_of_ble_eq_true rfl, Nat.le_of_ble_eq_true rfl⟩) hw.2.2.2 (fun q _ h => h) (fun q h => h) (fun f t H locs ht hvm hp hB hz1 hk1 hS1 => ?_)
    obtain ⟨hI1, hF1⟩ := hp
    have hw := hw.back (S' := (fun t => t == 1 || t == 2)) (by decide) hT hI1 hF1 hB ht hS1
    clear hI1 hF1 hB ht hz1 hk1 hS1 hvm
    refine lv_goto (tgt := 188) hx hb dX5_fillSpans_154 (by decide) ?_
    subst hQ
    have hI9 := hw.2.1
    have hF9 := hw.2.2.1
    have hS9 := hw.2.2.2
    rw [hf0] at hF9
    exact W.vret hx hb hr (fun t ht hW => ⟨⟨_, rfl, ⟨hI9, hF9⟩, hw.at ht⟩, hS9.F ht⟩) hS9.2.2 dX5_fillSpans_188
  by_cases h_21 : p1 = 5
  · refine lv_tableIn (tgt := 157) hx hb dX5_fillSpans_1 (by rw [h_21]; decide) (by rw [h_21]; decide) (by rw [h_21]; rfl) (by decide) ?_
    refine lv_iconst (v := 0) hx hb dX5_fillSpans_157 (by decide) ?_
    refine lv_istore (lv' := [(6, .int 0), (0, .ref h0), (1, .ref a1), (2, .int p1), (3, .int p2), (4, .int p3), (5, .int p4)]) hx hb dX5_fillSpans_158 hl (by decide) rfl (fun ls hl => ?_)
    have hl_160 : ∀ (fu : Nat) (i : Nat), 10 - i < fu → (i ≤ 10) → ∀ (f : Nat → va_E) (H : Heap) (locs : List Loc) (ls : Array Slot), PW dC dI cI cS cP cA L tg (fun t => t == 1 || t == 2) f0 s.heap f H locs → lv_has ls 7 [(6, .int (nI i)), (0, .ref h0), (1, .ref a1), (2, .int p1), (3, .int p2), (4, .int p3), (5, .int p4)] → W p l e (headSpec wsX5_fillSpans ({ frames := 6, cells := 0, slots := 0, locals := 141 })).room s m [.ref h0, .ref a1, .int p1, .int p2, .int p3, .int p4].toArray below meth c H locs 0 0 Q (F0 m 160 ls []) := by
      intro fu
      induction fu with
      | zero => intro i hm9; exact absurd hm9 (Nat.not_lt_zero _)
      | succ fu ih_160 =>
        intro i hm_160 h_i f H locs ls hw hl
        refine lv_iload hx hb dX5_fillSpans_160 (lv_at hl 0 rfl) ?_
        refine lv_bipush (v := 10) hx hb dX5_fillSpans_162 (by decide) ?_
        refine lv_icmp_ge (tgt := 185) hx hb dX5_fillSpans_164 (by decide) (fun h_22 => ?_) (fun h_22 => ?_)
        · have nh_22 : 10 ≤ i := (nI_leI (a := 10) (b := i) (by omega) (by omega)).mp h_22
          refine lv_goto (tgt := 188) hx hb dX5_fillSpans_185 (by decide) ?_
          subst hQ
          have hI9 := hw.2.1
          have hF9 := hw.2.2.1
          have hS9 := hw.2.2.2
          rw [hf0] at hF9
          exact W.vret hx hb hr (fun t ht hW => ⟨⟨_, rfl, ⟨hI9, hF9⟩, hw.at ht⟩, hS9.F ht⟩) hS9.2.2 dX5_fillSpans_188
        · have nh_22 : ¬ 10 ≤ i := fun q9 => h_22 ((nI_leI (a := 10) (b := i) (by omega) (by omega)).mpr q9)
          refine lv_aload_n hx hb dX5_fillSpans_167 rfl (lv_at hl 2 rfl) ?_
          refine lv_iload_n hx hb dX5_fillSpans_168 rfl (lv_at hl 4 rfl) ?_
          refine lv_iload hx hb dX5_fillSpans_169 (lv_at hl 5 rfl) ?_
          refine lv_iload hx hb dX5_fillSpans_171 (lv_at hl 0 rfl) ?_
          refine lv_iadd hx hb dX5_fillSpans_173 ?_
          refine lv_iload hx hb dX5_fillSpans_174 (lv_at hl 6 rfl) ?_
          refine va_callv (va_runS (As := [.ref a1, .int p2, .int (p3 + (nI i)), .int p4]) (rest := []) ⟨hx, hb, hml, hown, hts⟩ (k_X5_addDate l dC dI cI cS cP cA L tg f hN hT hw.2.1 a1 hm_a1 ht_a1 p2 (p3 + (nI i)) p4) (va_cwS 4 hts gX5_fillSpans_X5_addDate rfl rfl rfl (by decide +kernel) ⟨Nat.le_of_ble_eq_true rfl, Nat.le_of_ble_eq_true rfl⟩) ⟨tPre_blind, fun U hU hW => ⟨rfl, tPre_at hw hK hcm hU hW⟩⟩ rfl rfl hl.1 rfl (lv_room (Nat.le_of_ble_eq_true rfl)) dX5_fillSpans_176 ⟨Nat.le_of_ble_eq_true rfl, Nat.le_of_ble_eq_true rfl⟩) hw.2.2.2 (fun q _ h => h) (fun q h => h) (fun f t H locs ht hvm hp hB hz1 hk1 hS1 => ?_)
          obtain ⟨hI1, hF1⟩ := hp
          have hw := hw.back (S' := (fun t => t == 1 || t == 2)) (by decide) hT hI1 hF1 hB ht hS1
          clear hI1 hF1 hB ht hz1 hk1 hS1 hvm
          refine lv_iinc (v := nI (i + 1)) (lv' := [(6, .int (nI (i + 1))), (0, .ref h0), (1, .ref a1), (2, .int p1), (3, .int p2), (4, .int p3), (5, .int p4)]) hx hb dX5_fillSpans_179 hl (k := 0) rfl (nI_1 _) (by decide) rfl (fun ls hl => ?_)
          refine lv_goto (tgt := 160) hx hb dX5_fillSpans_182 (by decide) ?_
          exact ih_160 ((i + 1)) (by omega) (by omega) _ _ _ ls hw (lv_sub hl [0, 1, 2, 3, 4, 5, 6] rfl)
    exact hl_160 _ 0 (Nat.lt_succ_self _) (by omega) _ _ _ ls hw (lv_sub hl [0, 1, 2, 3, 4, 5, 6] rfl)
  refine lv_tableOut (tgt := 188) hx hb dX5_fillSpans_1 (sw_out6 h_1 h_5 h_7 h_13 h_19 h_21) (by decide) ?_
  subst hQ
  have hI9 := hw.2.1
  have hF9 := hw.2.2.1
  have hS9 := hw.2.2.2
  rw [hf0] at hF9
  exact W.vret hx hb hr (fun t ht hW => ⟨⟨_, rfl, ⟨hI9, hF9⟩, hw.at ht⟩, hS9.F ht⟩) hS9.2.2 dX5_fillSpans_188

set_option maxHeartbeats 4000000 in
set_option maxRecDepth 100000 in
theorem k_X5_king (l : Launch) (dC : Nat → ClassId) (dI : Nat → Nat → Nat) (cI cS cP cA : ClassId) (L : List Nat) (tg : Nat → Nat) (f : Nat → va_E) (hN : L.Nodup) (hT : ∀ a : Nat, a ∈ L → tg a < 13) (hI : PI cI cS cP cA L tg f) (h0 : Nat) (hm_h0 : h0 ∈ L) (ht_h0 : tg h0 = 6) (p0 : Int32) (p1 : Int32) (p2 : Int32) (nk : Nat) (hnk : nk ≤ 6) (v4 : Value) (hq3 : fld (f h0) 3 = some (.int (nI nk))) (hq4 : fld (f h0) 4 = some v4) : Met l yX5_king wsX5_king ({ frames := 2, cells := 0, slots := 0, locals := 41 }) (va_Pc [.ref h0, .int p0, .int p1, .int p2] (tPre dC dI cI cS cP cA L f)) (va_Qi (fun (r : Int32) (f' : Nat → va_E) => PI cI cS cP cA L tg f' ∧ Fr L tg (fun t => t == 3 || t == 6) f f' ∧ (r = kg_c p0 p1 p2 nk ∧ fld (f' h0) 3 = some (.int (nI (kg_m p0 p1 p2 nk))) ∧ fld (f' h0) 4 = some v4)) (fun (f' : Nat → va_E) t => va_P (dC, dI) vwCl (va_pl L f') t.heap) (fun q : Nat => q ∈ L)) 0 0 (fun q : Nat => q ∈ L) := by
  refine Met.ofW (cc := cX5_king) (maxL := 4) (ret := (some .int)) (by decide) rfl ?_
  intro p e s m args below meth c s₁ B hml hv
  obtain ⟨rfl, hP, hK, hcm⟩ := hv
  have hx := B.exec
  have hb := B.bytes
  have hr := B.returns
  have hts := atoms_spec (ws := wsX5_king) B.pre
  have hown : s.vm.findClass RX5 = some m.cls := findClass_of_methodNamed B.named
  have hlocks := B.notSynchronized
  have hin_X5 : ∀ w ∈ u_ws RX5 TX5 11, w ∈ wsX5_king := by decide +kernel
  have hl := lv_entry ([.ref h0, .int p0, .int p1, .int p2]) (n := 4) (Nat.le_of_ble_eq_true rfl)
  rw [lg_entry_eq]
  generalize (lg_sl ([.ref h0, .int p0, .int p1, .int p2]) ++ List.replicate (4 - (lg_sl ([.ref h0, .int p0, .int p1, .int p2])).length) Slot.unset).toArray = ls at hl ⊢
  have hl : lv_has ls 4 [(0, .ref h0), (1, .int p0), (2, .int p1), (3, .int p2)] := hl
  generalize hQ : MQ below (va_Qi (fun (r : Int32) (f' : Nat → va_E) => PI cI cS cP cA L tg f' ∧ Fr L tg (fun t => t == 3 || t == 6) f f' ∧ (r = kg_c p0 p1 p2 nk ∧ fld (f' h0) 3 = some (.int (nI (kg_m p0 p1 p2 nk))) ∧ fld (f' h0) 4 = some v4)) (fun (f' : Nat → va_E) t => va_P (dC, dI) vwCl (va_pl L f') t.heap) (fun q : Nat => q ∈ L)) [.ref h0, .int p0, .int p1, .int p2].toArray s 0 0 (fun q : Nat => q ∈ L) = Q
  obtain ⟨f0, hf0⟩ : ∃ g : Nat → va_E, g = f := ⟨_, rfl⟩
  have hw : PW dC dI cI cS cP cA L tg (fun t => t == 3 || t == 6) f0 s.heap f s.heap [] := by rw [hf0]; exact PW.start hP hI
  clear hP
  refine lv_aload_n hx hb dX5_king_0 rfl (lv_at hl 0 rfl) ?_
  refine tp_getK (ci := 4) (C := RX5) (T := TX5) (N := 11) hx hb hts hin_X5 hown hK hw hm_h0 6 ht_h0 (fun _ => rfl) rfl 3 (by decide) hq3 (hts (.fieldLink RX5 59 "DayBench" "kings" "I") (by decide +kernel)) (fun _ h9 => h9) dX5_king_1 ?_
  refine lv_bipush (v := 6) hx hb dX5_king_4 (by decide) ?_
  refine lv_icmp_ge (tgt := 24) hx hb dX5_king_6 (by decide) (fun h_1 => ?_) (fun h_1 => ?_)
  · have nh_1 : 6 ≤ nk := (nI_leI (a := 6) (b := nk) (by omega) (by omega)).mp h_1
    refine lv_iconst (v := (-1)) hx hb dX5_king_24 (by decide) ?_
    subst hQ
    have hI9 := hw.2.1
    have hF9 := hw.2.2.1
    have hS9 := hw.2.2.2
    rw [hf0] at hF9
    exact W.iret (v := (-1)) hx hb hr (fun t ht hW => ⟨⟨_, _, rfl, ⟨hI9, hF9, ⟨by rw [kg_c, if_pos nh_1], by rw [kg_m, if_pos nh_1]; exact hq3, hq4⟩⟩, hw.at ht⟩, hS9.F ht⟩) hS9.2.2 dX5_king_25
  · have nh_1 : ¬ 6 ≤ nk := fun q9 => h_1 ((nI_leI (a := 6) (b := nk) (by omega) (by omega)).mpr q9)
    refine lv_iload_n hx hb dX5_king_9 rfl (lv_at hl 1 rfl) ?_
    refine vp_callSi (va_Run.run (va_runS (As := [.int p0]) (rest := []) ⟨hx, hb, hml, hown, hts⟩ (k_X0_isCalendar l p0) (va_cwS 1 hts gX5_king_X0_isCalendar rfl rfl rfl (by decide +kernel) ⟨Nat.le_of_ble_eq_true rfl, Nat.le_of_ble_eq_true rfl⟩) ⟨fun _ _ _ _ q => q, fun _ _ _ => ⟨rfl, trivial⟩⟩ rfl rfl hl.1 rfl (lv_room (Nat.le_of_ble_eq_true rfl)) dX5_king_10 ⟨Nat.le_of_ble_eq_true rfl, Nat.le_of_ble_eq_true rfl⟩)) (fun r_2 er_2 => ?_)
    refine lv_if_eq (tgt := 24) hx hb dX5_king_13 (by decide) (fun h_3 => ?_) (fun h_3 => ?_)
    · refine lv_iconst (v := (-1)) hx hb dX5_king_24 (by decide) ?_
      subst hQ
      have hI9 := hw.2.1
      have hF9 := hw.2.2.1
      have hS9 := hw.2.2.2
      rw [hf0] at hF9
      exact W.iret (v := (-1)) hx hb hr (fun t ht hW => ⟨⟨_, _, rfl, ⟨hI9, hF9, ⟨by rw [kg_c, if_neg nh_1, if_pos (show f_X0_isCalendar p0 = 0 from er_2 ▸ h_3)], by rw [kg_m, if_neg nh_1, if_pos (show f_X0_isCalendar p0 = 0 from er_2 ▸ h_3)]; exact hq3, hq4⟩⟩, hw.at ht⟩, hS9.F ht⟩) hS9.2.2 dX5_king_25
    · refine lv_iload_n hx hb dX5_king_16 rfl (lv_at hl 2 rfl) ?_
      refine lv_iload_n hx hb dX5_king_17 rfl (lv_at hl 3 rfl) ?_
      refine vp_callSi (va_Run.run (va_runS (As := [.int p1, .int p2]) (rest := []) ⟨hx, hb, hml, hown, hts⟩ (k_X5_isRowOfDays l p1 p2) (va_cwS 2 hts gX5_king_X5_isRowOfDays rfl rfl rfl (by decide +kernel) ⟨Nat.le_of_ble_eq_true rfl, Nat.le_of_ble_eq_true rfl⟩) ⟨fun _ _ _ _ q => q, fun _ _ _ => ⟨rfl, trivial⟩⟩ rfl rfl hl.1 rfl (lv_room (Nat.le_of_ble_eq_true rfl)) dX5_king_18 ⟨Nat.le_of_ble_eq_true rfl, Nat.le_of_ble_eq_true rfl⟩)) (fun r_4 er_4 => ?_)
      refine lv_if_ne (tgt := 26) hx hb dX5_king_21 (by decide) (fun h_5 => ?_) (fun h_5 => ?_)
      · refine lv_aload_n hx hb dX5_king_26 rfl (lv_at hl 0 rfl) ?_
        refine tp_get (ci := 4) (C := RX5) (T := TX5) (N := 11) hx hb hts hin_X5 hown hK hw hm_h0 6 ht_h0 (fun _ => rfl) rfl 0 (by decide) rfl (hts (.fieldLink RX5 9 "DayBench" "kingCalendar" "[I") (by decide +kernel)) (fun _ h9 => h9) dX5_king_27 (fun v_6 hf_7 hv_8 => ?_)
        obtain ⟨b_9, eb_9, hm_b_9, ht_b_9⟩ := hv_8
        subst eb_9
        refine lv_aload_n hx hb dX5_king_30 rfl (lv_at hl 0 rfl) ?_
        refine tp_getK (ci := 4) (C := RX5) (T := TX5) (N := 11) hx hb hts hin_X5 hown hK hw hm_h0 6 ht_h0 (fun _ => rfl) rfl 3 (by decide) hq3 (hts (.fieldLink RX5 59 "DayBench" "kings" "I") (by decide +kernel)) (fun _ h9 => h9) dX5_king_31 ?_
        refine lv_iload_n hx hb dX5_king_34 rfl (lv_at hl 1 rfl) ?_
        refine tp_iast hx hb hN hK hw hm_b_9 3 ht_b_9 rfl (n := 6) (fun _ => rfl) (vp_in_nI (by omega) (by omega)) dX5_king_35 (fun H locs f hw ho_10 => ?_)
        have hq3 : fld (f h0) 3 = some (.int (nI nk)) := by rw [ho_10 h0 (tne ht_h0 ht_b_9 (by decide))]; exact hq3
        have hq4 : fld (f h0) 4 = some (v4) := by rw [ho_10 h0 (tne ht_h0 ht_b_9 (by decide))]; exact hq4
        have hf_7 : fld (f h0) 0 = some (.ref b_9) := by rw [ho_10 h0 (tne ht_h0 ht_b_9 (by decide))]; exact hf_7
        clear ho_10
        refine lv_aload_n hx hb dX5_king_36 rfl (lv_at hl 0 rfl) ?_
        refine tp_get (ci := 4) (C := RX5) (T := TX5) (N := 11) hx hb hts hin_X5 hown hK hw hm_h0 6 ht_h0 (fun _ => rfl) rfl 1 (by decide) rfl (hts (.fieldLink RX5 13 "DayBench" "kingFrom" "[I") (by decide +kernel)) (fun _ h9 => h9) dX5_king_37 (fun v_11 hf_12 hv_13 => ?_)
        obtain ⟨b_14, eb_14, hm_b_14, ht_b_14⟩ := hv_13
        subst eb_14
        refine lv_aload_n hx hb dX5_king_40 rfl (lv_at hl 0 rfl) ?_
        refine tp_getK (ci := 4) (C := RX5) (T := TX5) (N := 11) hx hb hts hin_X5 hown hK hw hm_h0 6 ht_h0 (fun _ => rfl) rfl 3 (by decide) hq3 (hts (.fieldLink RX5 59 "DayBench" "kings" "I") (by decide +kernel)) (fun _ h9 => h9) dX5_king_41 ?_
        refine lv_iload_n hx hb dX5_king_44 rfl (lv_at hl 2 rfl) ?_
        refine tp_iast hx hb hN hK hw hm_b_14 3 ht_b_14 rfl (n := 6) (fun _ => rfl) (vp_in_nI (by omega) (by omega)) dX5_king_45 (fun H locs f hw ho_15 => ?_)
        have hq3 : fld (f h0) 3 = some (.int (nI nk)) := by rw [ho_15 h0 (tne ht_h0 ht_b_14 (by decide))]; exact hq3
        have hq4 : fld (f h0) 4 = some (v4) := by rw [ho_15 h0 (tne ht_h0 ht_b_14 (by decide))]; exact hq4
        have hf_7 : fld (f h0) 0 = some (.ref b_9) := by rw [ho_15 h0 (tne ht_h0 ht_b_14 (by decide))]; exact hf_7
        have hf_12 : fld (f h0) 1 = some (.ref b_14) := by rw [ho_15 h0 (tne ht_h0 ht_b_14 (by decide))]; exact hf_12
        clear ho_15
        refine lv_aload_n hx hb dX5_king_46 rfl (lv_at hl 0 rfl) ?_
        refine tp_get (ci := 4) (C := RX5) (T := TX5) (N := 11) hx hb hts hin_X5 hown hK hw hm_h0 6 ht_h0 (fun _ => rfl) rfl 2 (by decide) rfl (hts (.fieldLink RX5 16 "DayBench" "kingTo" "[I") (by decide +kernel)) (fun _ h9 => h9) dX5_king_47 (fun v_16 hf_17 hv_18 => ?_)
        obtain ⟨b_19, eb_19, hm_b_19, ht_b_19⟩ := hv_18
        subst eb_19
        refine lv_aload_n hx hb dX5_king_50 rfl (lv_at hl 0 rfl) ?_
        refine tp_getK (ci := 4) (C := RX5) (T := TX5) (N := 11) hx hb hts hin_X5 hown hK hw hm_h0 6 ht_h0 (fun _ => rfl) rfl 3 (by decide) hq3 (hts (.fieldLink RX5 59 "DayBench" "kings" "I") (by decide +kernel)) (fun _ h9 => h9) dX5_king_51 ?_
        refine lv_iload_n hx hb dX5_king_54 rfl (lv_at hl 3 rfl) ?_
        refine tp_iast hx hb hN hK hw hm_b_19 3 ht_b_19 rfl (n := 6) (fun _ => rfl) (vp_in_nI (by omega) (by omega)) dX5_king_55 (fun H locs f hw ho_20 => ?_)
        have hq3 : fld (f h0) 3 = some (.int (nI nk)) := by rw [ho_20 h0 (tne ht_h0 ht_b_19 (by decide))]; exact hq3
        have hq4 : fld (f h0) 4 = some (v4) := by rw [ho_20 h0 (tne ht_h0 ht_b_19 (by decide))]; exact hq4
        have hf_7 : fld (f h0) 0 = some (.ref b_9) := by rw [ho_20 h0 (tne ht_h0 ht_b_19 (by decide))]; exact hf_7
        have hf_12 : fld (f h0) 1 = some (.ref b_14) := by rw [ho_20 h0 (tne ht_h0 ht_b_19 (by decide))]; exact hf_12
        have hf_17 : fld (f h0) 2 = some (.ref b_19) := by rw [ho_20 h0 (tne ht_h0 ht_b_19 (by decide))]; exact hf_17
        clear ho_20
        refine lv_aload_n hx hb dX5_king_56 rfl (lv_at hl 0 rfl) ?_
        refine lv_dup hx hb dX5_king_57 rfl ?_
        refine tp_getK (ci := 4) (C := RX5) (T := TX5) (N := 11) hx hb hts hin_X5 hown hK hw hm_h0 6 ht_h0 (fun _ => rfl) rfl 3 (by decide) hq3 (hts (.fieldLink RX5 59 "DayBench" "kings" "I") (by decide +kernel)) (fun _ h9 => h9) dX5_king_58 ?_
        refine lv_iconst (v := 1) hx hb dX5_king_61 (by decide) ?_
        refine lv_iadd hx hb dX5_king_62 ?_
        refine lv_topi (fun x_21 ex_21 => ?_)
        have ex_21 : x_21 = nI (nk + 1) := ex_21.trans (nI_1 _)
        subst ex_21
        refine tp_put (ci := 4) (C := RX5) (T := TX5) (N := 11) (v := .int (nI (nk + 1))) (ty := .int) hx hb hts hin_X5 tyX5 tyX5_ok nmX5 hown hN hK hw hm_h0 6 ht_h0 rfl (fun _ => rfl) rfl 3 (by decide) rfl (hts (.fieldLink RX5 59 "DayBench" "kings" "I") (by decide +kernel)) (fun _ h9 => h9) rfl (by decide +kernel) rfl rfl ⟨(nk + 1), rfl, by omega⟩ dX5_king_63 (fun H locs f hw ho_22 hn_23 hs_24 => ?_)
        have hq4 := (hs_24 4 (by decide)).trans hq4
        have hf_7 := (hs_24 0 (by decide)).trans hf_7
        have hf_12 := (hs_24 1 (by decide)).trans hf_12
        have hf_17 := (hs_24 2 (by decide)).trans hf_17
        clear ho_22 hs_24
        refine lv_aload_n hx hb dX5_king_66 rfl (lv_at hl 0 rfl) ?_
        refine tp_getK (ci := 4) (C := RX5) (T := TX5) (N := 11) hx hb hts hin_X5 hown hK hw hm_h0 6 ht_h0 (fun _ => rfl) rfl 3 (by decide) hn_23 (hts (.fieldLink RX5 59 "DayBench" "kings" "I") (by decide +kernel)) (fun _ h9 => h9) dX5_king_67 ?_
        refine lv_iconst (v := 1) hx hb dX5_king_70 (by decide) ?_
        refine lv_isub hx hb dX5_king_71 ?_
        refine lv_topi (fun x_25 ex_25 => ?_)
        have ex_25 : x_25 = nI nk := ex_25.trans (nI_pred _)
        subst ex_25
        subst hQ
        have hI9 := hw.2.1
        have hF9 := hw.2.2.1
        have hS9 := hw.2.2.2
        rw [hf0] at hF9
        exact W.iret (v := nI nk) hx hb hr (fun t ht hW => ⟨⟨_, _, rfl, ⟨hI9, hF9, ⟨by rw [kg_c, if_neg nh_1, if_neg (show ¬ f_X0_isCalendar p0 = 0 from er_2 ▸ h_3), if_neg (show ¬ f_X5_isRowOfDays p1 p2 = 0 from er_4 ▸ h_5)], by rw [kg_m, if_neg nh_1, if_neg (show ¬ f_X0_isCalendar p0 = 0 from er_2 ▸ h_3), if_neg (show ¬ f_X5_isRowOfDays p1 p2 = 0 from er_4 ▸ h_5)]; exact hn_23, hq4⟩⟩, hw.at ht⟩, hS9.F ht⟩) hS9.2.2 dX5_king_72
      · refine lv_iconst (v := (-1)) hx hb dX5_king_24 (by decide) ?_
        subst hQ
        have hI9 := hw.2.1
        have hF9 := hw.2.2.1
        have hS9 := hw.2.2.2
        rw [hf0] at hF9
        exact W.iret (v := (-1)) hx hb hr (fun t ht hW => ⟨⟨_, _, rfl, ⟨hI9, hF9, ⟨by rw [kg_c, if_neg nh_1, if_neg (show ¬ f_X0_isCalendar p0 = 0 from er_2 ▸ h_3), if_pos (show f_X5_isRowOfDays p1 p2 = 0 from er_4 ▸ h_5)], by rw [kg_m, if_neg nh_1, if_neg (show ¬ f_X0_isCalendar p0 = 0 from er_2 ▸ h_3), if_pos (show f_X5_isRowOfDays p1 p2 = 0 from er_4 ▸ h_5)]; exact hq3, hq4⟩⟩, hw.at ht⟩, hS9.F ht⟩) hS9.2.2 dX5_king_25

set_option maxHeartbeats 4000000 in
set_option maxRecDepth 100000 in
theorem k_X5_event (l : Launch) (dC : Nat → ClassId) (dI : Nat → Nat → Nat) (cI cS cP cA : ClassId) (L : List Nat) (tg : Nat → Nat) (f : Nat → va_E) (hN : L.Nodup) (hT : ∀ a : Nat, a ∈ L → tg a < 13) (hI : PI cI cS cP cA L tg f) (h0 : Nat) (hm_h0 : h0 ∈ L) (ht_h0 : tg h0 = 6) (ne : Nat) (hne : ne ≤ 6) (v3 : Value) (hq4 : fld (f h0) 4 = some (.int (nI ne))) (hq3 : fld (f h0) 3 = some v3) : Met l yX5_event wsX5_event ({ frames := 0, cells := 0, slots := 0, locals := 0 }) (va_Pc [.ref h0] (tPre dC dI cI cS cP cA L f)) (va_Qi (fun (r : Int32) (f' : Nat → va_E) => PI cI cS cP cA L tg f' ∧ Fr L tg (fun t => t == 6) f f' ∧ (r = ev_r ne ∧ fld (f' h0) 4 = some (.int (nI (ev_n ne))) ∧ fld (f' h0) 3 = some v3)) (fun (f' : Nat → va_E) t => va_P (dC, dI) vwCl (va_pl L f') t.heap) (fun q : Nat => q ∈ L)) 0 0 (fun q : Nat => q ∈ L) := by
  refine Met.ofW (cc := cX5_event) (maxL := 1) (ret := (some .int)) (by decide) rfl ?_
  intro p e s m args below meth c s₁ B hml hv
  obtain ⟨rfl, hP, hK, hcm⟩ := hv
  have hx := B.exec
  have hb := B.bytes
  have hr := B.returns
  have hts := atoms_spec (ws := wsX5_event) B.pre
  have hown : s.vm.findClass RX5 = some m.cls := findClass_of_methodNamed B.named
  have hlocks := B.notSynchronized
  have hin_X5 : ∀ w ∈ u_ws RX5 TX5 11, w ∈ wsX5_event := by decide +kernel
  have hl := lv_entry ([.ref h0]) (n := 1) (Nat.le_of_ble_eq_true rfl)
  rw [lg_entry_eq]
  generalize (lg_sl ([.ref h0]) ++ List.replicate (1 - (lg_sl ([.ref h0])).length) Slot.unset).toArray = ls at hl ⊢
  have hl : lv_has ls 1 [(0, .ref h0)] := hl
  generalize hQ : MQ below (va_Qi (fun (r : Int32) (f' : Nat → va_E) => PI cI cS cP cA L tg f' ∧ Fr L tg (fun t => t == 6) f f' ∧ (r = ev_r ne ∧ fld (f' h0) 4 = some (.int (nI (ev_n ne))) ∧ fld (f' h0) 3 = some v3)) (fun (f' : Nat → va_E) t => va_P (dC, dI) vwCl (va_pl L f') t.heap) (fun q : Nat => q ∈ L)) [.ref h0].toArray s 0 0 (fun q : Nat => q ∈ L) = Q
  obtain ⟨f0, hf0⟩ : ∃ g : Nat → va_E, g = f := ⟨_, rfl⟩
  have hw : PW dC dI cI cS cP cA L tg (fun t => t == 6) f0 s.heap f s.heap [] := by rw [hf0]; exact PW.start hP hI
  clear hP
  refine lv_aload_n hx hb dX5_event_0 rfl (lv_at hl 0 rfl) ?_
  refine tp_getK (ci := 4) (C := RX5) (T := TX5) (N := 11) hx hb hts hin_X5 hown hK hw hm_h0 6 ht_h0 (fun _ => rfl) rfl 4 (by decide) hq4 (hts (.fieldLink RX5 71 "DayBench" "events" "I") (by decide +kernel)) (fun _ h9 => h9) dX5_event_1 ?_
  refine lv_bipush (v := 6) hx hb dX5_event_4 (by decide) ?_
  refine lv_icmp_lt (tgt := 11) hx hb dX5_event_6 (by decide) (fun h_1 => ?_) (fun h_1 => ?_)
  · have nh_1 : ne < 6 := (nI_ltI (a := ne) (b := 6) (by omega) (by omega)).mp h_1
    refine lv_aload_n hx hb dX5_event_11 rfl (lv_at hl 0 rfl) ?_
    refine lv_dup hx hb dX5_event_12 rfl ?_
    refine tp_getK (ci := 4) (C := RX5) (T := TX5) (N := 11) hx hb hts hin_X5 hown hK hw hm_h0 6 ht_h0 (fun _ => rfl) rfl 4 (by decide) hq4 (hts (.fieldLink RX5 71 "DayBench" "events" "I") (by decide +kernel)) (fun _ h9 => h9) dX5_event_13 ?_
    refine lv_iconst (v := 1) hx hb dX5_event_16 (by decide) ?_
    refine lv_iadd hx hb dX5_event_17 ?_
    refine lv_topi (fun x_2 ex_2 => ?_)
    have ex_2 : x_2 = nI (ne + 1) := ex_2.trans (nI_1 _)
    subst ex_2
    refine tp_put (ci := 4) (C := RX5) (T := TX5) (N := 11) (v := .int (nI (ne + 1))) (ty := .int) hx hb hts hin_X5 tyX5 tyX5_ok nmX5 hown hN hK hw hm_h0 6 ht_h0 rfl (fun _ => rfl) rfl 4 (by decide) rfl (hts (.fieldLink RX5 71 "DayBench" "events" "I") (by decide +kernel)) (fun _ h9 => h9) rfl (by decide +kernel) rfl rfl ⟨(ne + 1), rfl, by omega⟩ dX5_event_18 (fun H locs f hw ho_3 hn_4 hs_5 => ?_)
    have hq3 := (hs_5 3 (by decide)).trans hq3
    clear ho_3 hs_5
    refine lv_aload_n hx hb dX5_event_21 rfl (lv_at hl 0 rfl) ?_
    refine tp_getK (ci := 4) (C := RX5) (T := TX5) (N := 11) hx hb hts hin_X5 hown hK hw hm_h0 6 ht_h0 (fun _ => rfl) rfl 4 (by decide) hn_4 (hts (.fieldLink RX5 71 "DayBench" "events" "I") (by decide +kernel)) (fun _ h9 => h9) dX5_event_22 ?_
    refine lv_iconst (v := 1) hx hb dX5_event_25 (by decide) ?_
    refine lv_isub hx hb dX5_event_26 ?_
    refine lv_topi (fun x_6 ex_6 => ?_)
    have ex_6 : x_6 = nI ne := ex_6.trans (nI_pred _)
    subst ex_6
    subst hQ
    have hI9 := hw.2.1
    have hF9 := hw.2.2.1
    have hS9 := hw.2.2.2
    rw [hf0] at hF9
    exact W.iret (v := nI ne) hx hb hr (fun t ht hW => ⟨⟨_, _, rfl, ⟨hI9, hF9, ⟨by rw [ev_r, if_neg (by omega)], by rw [ev_n, if_neg (by omega)]; exact hn_4, hq3⟩⟩, hw.at ht⟩, hS9.F ht⟩) hS9.2.2 dX5_event_27
  · have nh_1 : ¬ ne < 6 := fun q9 => h_1 ((nI_ltI (a := ne) (b := 6) (by omega) (by omega)).mpr q9)
    refine lv_iconst (v := (-1)) hx hb dX5_event_9 (by decide) ?_
    subst hQ
    have hI9 := hw.2.1
    have hF9 := hw.2.2.1
    have hS9 := hw.2.2.2
    rw [hf0] at hF9
    exact W.iret (v := (-1)) hx hb hr (fun t ht hW => ⟨⟨_, _, rfl, ⟨hI9, hF9, ⟨by rw [ev_r, if_pos (by omega)], by rw [ev_n, if_pos (by omega), ← show ne = 6 by omega]; exact hq4, hq3⟩⟩, hw.at ht⟩, hS9.F ht⟩) hS9.2.2 dX5_event_10

set_option maxHeartbeats 4000000 in
set_option maxRecDepth 100000 in
theorem k_X5_say (l : Launch) (dC : Nat → ClassId) (dI : Nat → Nat → Nat) (cI cS cP cA : ClassId) (L : List Nat) (tg : Nat → Nat) (f : Nat → va_E) (hN : L.Nodup) (hT : ∀ a : Nat, a ∈ L → tg a < 13) (hI : PI cI cS cP cA L tg f) (h0 : Nat) (hm_h0 : h0 ∈ L) (ht_h0 : tg h0 = 6) (p0 : Int32) (p1 : Int32) (p2 : Int32) (p3 : Int32) (p4 : Int32) (p5 : Int32) (v3 : Value) (v4 : Value) (hq3 : fld (f h0) 3 = some v3) (hq4 : fld (f h0) 4 = some v4) : Met l yX5_say wsX5_say ({ frames := 7, cells := 0, slots := 0, locals := 167 }) (va_Pc [.ref h0, .int p0, .int p1, .int p2, .int p3, .int p4, .int p5] (tPre dC dI cI cS cP cA L f)) (va_Qi (fun (r : Int32) (f' : Nat → va_E) => PI cI cS cP cA L tg f' ∧ Fr L tg (fun t => t == 0 || t == 1 || t == 2 || t == 6) f f' ∧ (fld (f' h0) 3 = some v3 ∧ fld (f' h0) 4 = some v4)) (fun (f' : Nat → va_E) t => va_P (dC, dI) vwCl (va_pl L f') t.heap) (fun q : Nat => q ∈ L)) 0 0 (fun q : Nat => q ∈ L) := by
  refine Met.ofW (cc := cX5_say) (maxL := 8) (ret := (some .int)) (by decide) rfl ?_
  intro p e s m args below meth c s₁ B hml hv
  obtain ⟨rfl, hP, hK, hcm⟩ := hv
  have hx := B.exec
  have hb := B.bytes
  have hr := B.returns
  have hts := atoms_spec (ws := wsX5_say) B.pre
  have hown : s.vm.findClass RX5 = some m.cls := findClass_of_methodNamed B.named
  have hlocks := B.notSynchronized
  have hin_X5 : ∀ w ∈ u_ws RX5 TX5 11, w ∈ wsX5_say := by decide +kernel
  have hin_X1 : ∀ w ∈ u_ws RX1 TX1 9, w ∈ wsX5_say := by decide +kernel
  have hin_X4 : ∀ w ∈ u_ws RX4 TX4 3, w ∈ wsX5_say := by decide +kernel
  have hl := lv_entry ([.ref h0, .int p0, .int p1, .int p2, .int p3, .int p4, .int p5]) (n := 8) (Nat.le_of_ble_eq_true rfl)
  rw [lg_entry_eq]
  generalize (lg_sl ([.ref h0, .int p0, .int p1, .int p2, .int p3, .int p4, .int p5]) ++ List.replicate (8 - (lg_sl ([.ref h0, .int p0, .int p1, .int p2, .int p3, .int p4, .int p5])).length) Slot.unset).toArray = ls at hl ⊢
  have hl : lv_has ls 8 [(0, .ref h0), (1, .int p0), (2, .int p1), (3, .int p2), (4, .int p3), (5, .int p4), (6, .int p5)] := hl
  generalize hQ : MQ below (va_Qi (fun (r : Int32) (f' : Nat → va_E) => PI cI cS cP cA L tg f' ∧ Fr L tg (fun t => t == 0 || t == 1 || t == 2 || t == 6) f f' ∧ (fld (f' h0) 3 = some v3 ∧ fld (f' h0) 4 = some v4)) (fun (f' : Nat → va_E) t => va_P (dC, dI) vwCl (va_pl L f') t.heap) (fun q : Nat => q ∈ L)) [.ref h0, .int p0, .int p1, .int p2, .int p3, .int p4, .int p5].toArray s 0 0 (fun q : Nat => q ∈ L) = Q
  obtain ⟨f0, hf0⟩ : ∃ g : Nat → va_E, g = f := ⟨_, rfl⟩
  have hw : PW dC dI cI cS cP cA L tg (fun t => t == 0 || t == 1 || t == 2 || t == 6) f0 s.heap f s.heap [] := by rw [hf0]; exact PW.start hP hI
  clear hP
  refine lv_aload_n hx hb dX5_say_0 rfl (lv_at hl 0 rfl) ?_
  refine tp_get (ci := 4) (C := RX5) (T := TX5) (N := 11) hx hb hts hin_X5 hown hK hw hm_h0 6 ht_h0 (fun _ => rfl) rfl 6 (by decide) rfl (hts (.fieldLink RX5 74 "DayBench" "sayingsMade" "I") (by decide +kernel)) (fun _ h9 => h9) dX5_say_1 (fun v_1 hf_2 hv_3 => ?_)
  obtain ⟨k_4, ek_4, hk_k_4⟩ := hv_3
  subst ek_4
  refine lv_bipush (v := 12) hx hb dX5_say_4 (by decide) ?_
  refine lv_icmp_ge (tgt := 30) hx hb dX5_say_6 (by decide) (fun h_5 => ?_) (fun h_5 => ?_)
  · have nh_5 : 12 ≤ k_4 := (nI_leI (a := 12) (b := k_4) (by omega) (by omega)).mp h_5
    refine lv_iconst (v := (-1)) hx hb dX5_say_30 (by decide) ?_
    subst hQ
    have hI9 := hw.2.1
    have hF9 := hw.2.2.1
    have hS9 := hw.2.2.2
    rw [hf0] at hF9
    exact W.iret (v := (-1)) hx hb hr (fun t ht hW => ⟨⟨_, _, rfl, ⟨hI9, hF9, ⟨hq3, hq4⟩⟩, hw.at ht⟩, hS9.F ht⟩) hS9.2.2 dX5_say_31
  · have nh_5 : ¬ 12 ≤ k_4 := fun q9 => h_5 ((nI_leI (a := 12) (b := k_4) (by omega) (by omega)).mpr q9)
    refine lv_aload_n hx hb dX5_say_9 rfl (lv_at hl 0 rfl) ?_
    refine lv_iload_n hx hb dX5_say_10 rfl (lv_at hl 1 rfl) ?_
    refine vp_callSi (va_Run.run (va_runV (As := [.int p0]) (rest := []) ⟨hx, hb, hml, hown, hts⟩ (k_X5_isEvent l dC dI cI cS cP cA L tg f hN hT hw.2.1 h0 hm_h0 ht_h0 p0) (cwV 1 hts gX5_say_X5_isEvent rfl rfl rfl (by decide +kernel) ⟨Nat.le_of_ble_eq_true rfl, Nat.le_of_ble_eq_true rfl⟩) ⟨tPre_blind, tp_recv hK hw hm_h0 6 ht_h0 (ci := 4) (fun _ => rfl) rfl, fun U hU hW => ⟨rfl, tPre_at hw hK hcm hU hW⟩⟩ rfl rfl hl.1 rfl (lv_room (Nat.le_of_ble_eq_true rfl)) dX5_say_11 ⟨Nat.le_of_ble_eq_true rfl, Nat.le_of_ble_eq_true rfl⟩)) (fun r_6 hr_6 => ?_)
    rcases hr_6 with er_6 | ⟨er_6, k_7, hk_7, ek_7⟩
    · subst er_6
      refine lv_if_eq (tgt := 30) hx hb dX5_say_14 (by decide) (fun h_8 => ?_) (fun h_8 => ?_)
      · refine lv_iconst (v := (-1)) hx hb dX5_say_30 (by decide) ?_
        subst hQ
        have hI9 := hw.2.1
        have hF9 := hw.2.2.1
        have hS9 := hw.2.2.2
        rw [hf0] at hF9
        exact W.iret (v := (-1)) hx hb hr (fun t ht hW => ⟨⟨_, _, rfl, ⟨hI9, hF9, ⟨hq3, hq4⟩⟩, hw.at ht⟩, hS9.F ht⟩) hS9.2.2 dX5_say_31
      · exact (by first | exact absurd h_8 (by decide) | exact absurd (by decide) h_8)
    · subst er_6
      rw [ek_7] at hl
      refine lv_if_eq (tgt := 30) hx hb dX5_say_14 (by decide) (fun h_9 => ?_) (fun h_9 => ?_)
      · exact (by first | exact absurd h_9 (by decide) | exact absurd (by decide) h_9)
      · refine lv_iload hx hb dX5_say_17 (lv_at hl 6 rfl) ?_
        refine lv_iconst (v := 1) hx hb dX5_say_19 (by decide) ?_
        refine lv_icmp_lt (tgt := 30) hx hb dX5_say_20 (by decide) (fun h_10 => ?_) (fun h_10 => ?_)
        · refine lv_iconst (v := (-1)) hx hb dX5_say_30 (by decide) ?_
          subst hQ
          have hI9 := hw.2.1
          have hF9 := hw.2.2.1
          have hS9 := hw.2.2.2
          rw [hf0] at hF9
          exact W.iret (v := (-1)) hx hb hr (fun t ht hW => ⟨⟨_, _, rfl, ⟨hI9, hF9, ⟨hq3, hq4⟩⟩, hw.at ht⟩, hS9.F ht⟩) hS9.2.2 dX5_say_31
        · refine lv_iload hx hb dX5_say_23 (lv_at hl 6 rfl) ?_
          refine lv_bipush (v := 100) hx hb dX5_say_25 (by decide) ?_
          refine lv_icmp_le (tgt := 32) hx hb dX5_say_27 (by decide) (fun h_11 => ?_) (fun h_11 => ?_)
          · refine lv_aload_n hx hb dX5_say_32 rfl (lv_at hl 0 rfl) ?_
            refine tp_get (ci := 4) (C := RX5) (T := TX5) (N := 11) hx hb hts hin_X5 hown hK hw hm_h0 6 ht_h0 (fun _ => rfl) rfl 5 (by decide) rfl (hts (.fieldLink RX5 21 "DayBench" "sayings" "[LDayBench$Saying;") (by decide +kernel)) (fun _ h9 => h9) dX5_say_33 (fun v_12 hf_13 hv_14 => ?_)
            obtain ⟨b_15, eb_15, hm_b_15, ht_b_15⟩ := hv_14
            subst eb_15
            refine lv_aload_n hx hb dX5_say_36 rfl (lv_at hl 0 rfl) ?_
            refine tp_getK (ci := 4) (C := RX5) (T := TX5) (N := 11) hx hb hts hin_X5 hown hK hw hm_h0 6 ht_h0 (fun _ => rfl) rfl 6 (by decide) hf_2 (hts (.fieldLink RX5 74 "DayBench" "sayingsMade" "I") (by decide +kernel)) (fun _ h9 => h9) dX5_say_37 ?_
            refine tp_aald hx hb hK hw hm_b_15 9 ht_b_15 1 (n := 12) (t' := 0) (fun _ => rfl) rfl rfl (vp_in_nI (by omega) (by omega)) dX5_say_40 (fun b_16 hf_17 hm_b_16 ht_b_16 => ?_)
            clear hf_17
            refine lv_astore (lv' := [(7, .ref b_16), (0, .ref h0), (1, .int (nI k_7)), (2, .int p1), (3, .int p2), (4, .int p3), (5, .int p4), (6, .int p5)]) hx hb dX5_say_41 hl (by decide) rfl (fun ls hl => ?_)
            refine lv_aload hx hb dX5_say_43 (lv_at hl 0 rfl) ?_
            refine tp_get (ci := 0) (C := RX1) (T := TX1) (N := 9) hx hb hts hin_X1 hown hK hw hm_b_16 0 ht_b_16 (fun _ => rfl) rfl 0 (by decide) rfl (hts (.fieldLink RX5 80 "DayBench$Saying" "spans" "LDayBench$Spans;") (by decide +kernel)) (fun _ h9 => h9) dX5_say_45 (fun v_18 hf_19 hv_20 => ?_)
            obtain ⟨b_21, eb_21, hm_b_21, ht_b_21⟩ := hv_20
            subst eb_21
            refine va_callv (va_runV (As := []) (rest := []) ⟨hx, hb, hml, hown, hts⟩ (k_X4_clear l dC dI cI cS cP cA L tg f hN hT hw.2.1 b_21 hm_b_21 ht_b_21) (cwV 0 hts gX5_say_X4_clear rfl rfl rfl (by decide +kernel) ⟨Nat.le_of_ble_eq_true rfl, Nat.le_of_ble_eq_true rfl⟩) ⟨tPre_blind, tp_recv hK hw hm_b_21 1 ht_b_21 (ci := 3) (fun _ => rfl) rfl, fun U hU hW => ⟨rfl, tPre_at hw hK hcm hU hW⟩⟩ rfl rfl hl.1 rfl (lv_room (Nat.le_of_ble_eq_true rfl)) dX5_say_48 ⟨Nat.le_of_ble_eq_true rfl, Nat.le_of_ble_eq_true rfl⟩) hw.2.2.2 (fun q _ h => h) (fun q h => h) (fun f t H locs ht hvm hp hB hz1 hk1 hS1 => ?_)
            obtain ⟨hI1, hF1⟩ := hp
            have hw := hw.back (S' := (fun t => t == 1)) (by decide) hT hI1 hF1 hB ht hS1
            have hq3 : fld (f h0) 3 = some (v3) := by rw [hF1 h0 hm_h0 (by rw [ht_h0]; rfl)]; exact hq3
            have hq4 : fld (f h0) 4 = some (v4) := by rw [hF1 h0 hm_h0 (by rw [ht_h0]; rfl)]; exact hq4
            have hf_2 : fld (f h0) 6 = some (.int (nI k_4)) := by rw [hF1 h0 hm_h0 (by rw [ht_h0]; rfl)]; exact hf_2
            have hf_13 : fld (f h0) 5 = some (.ref b_15) := by rw [hF1 h0 hm_h0 (by rw [ht_h0]; rfl)]; exact hf_13
            have hf_19 : fld (f b_16) 0 = some (.ref b_21) := by rw [hF1 b_16 hm_b_16 (by rw [ht_b_16]; rfl)]; exact hf_19
            clear hI1 hF1 hB ht hz1 hk1 hS1 hvm
            refine lv_iload_n hx hb dX5_say_51 rfl (lv_at hl 3 rfl) ?_
            refine lv_bipush (v := 6) hx hb dX5_say_52 (by decide) ?_
            refine lv_icmp_ne (tgt := 85) hx hb dX5_say_54 (by decide) (fun h_23 => ?_) (fun h_23 => ?_)
            · refine lv_aload_n hx hb dX5_say_85 rfl (lv_at hl 1 rfl) ?_
              refine lv_aload hx hb dX5_say_86 (lv_at hl 0 rfl) ?_
              refine tp_getK (ci := 0) (C := RX1) (T := TX1) (N := 9) hx hb hts hin_X1 hown hK hw hm_b_16 0 ht_b_16 (fun _ => rfl) rfl 0 (by decide) hf_19 (hts (.fieldLink RX5 80 "DayBench$Saying" "spans" "LDayBench$Spans;") (by decide +kernel)) (fun _ h9 => h9) dX5_say_88 ?_
              refine lv_iload_n hx hb dX5_say_91 rfl (lv_at hl 3 rfl) ?_
              refine lv_iload_n hx hb dX5_say_92 rfl (lv_at hl 4 rfl) ?_
              refine lv_iload hx hb dX5_say_93 (lv_at hl 5 rfl) ?_
              refine lv_iload hx hb dX5_say_95 (lv_at hl 6 rfl) ?_
              refine va_callv (va_runV (As := [.ref b_21, .int p1, .int p2, .int p3, .int p4]) (rest := []) ⟨hx, hb, hml, hown, hts⟩ (k_X5_fillSpans l dC dI cI cS cP cA L tg f hN hT hw.2.1 h0 hm_h0 ht_h0 b_21 hm_b_21 ht_b_21 p1 p2 p3 p4) (cwV 5 hts gX5_say_X5_fillSpans rfl rfl rfl (by decide +kernel) ⟨Nat.le_of_ble_eq_true rfl, Nat.le_of_ble_eq_true rfl⟩) ⟨tPre_blind, tp_recv hK hw hm_h0 6 ht_h0 (ci := 4) (fun _ => rfl) rfl, fun U hU hW => ⟨rfl, tPre_at hw hK hcm hU hW⟩⟩ rfl rfl hl.1 rfl (lv_room (Nat.le_of_ble_eq_true rfl)) dX5_say_97 ⟨Nat.le_of_ble_eq_true rfl, Nat.le_of_ble_eq_true rfl⟩) hw.2.2.2 (fun q _ h => h) (fun q h => h) (fun f t H locs ht hvm hp hB hz1 hk1 hS1 => ?_)
              obtain ⟨hI1, hF1⟩ := hp
              have hw := hw.back (S' := (fun t => t == 1 || t == 2)) (by decide) hT hI1 hF1 hB ht hS1
              have hq3 : fld (f h0) 3 = some (v3) := by rw [hF1 h0 hm_h0 (by rw [ht_h0]; rfl)]; exact hq3
              have hq4 : fld (f h0) 4 = some (v4) := by rw [hF1 h0 hm_h0 (by rw [ht_h0]; rfl)]; exact hq4
              have hf_2 : fld (f h0) 6 = some (.int (nI k_4)) := by rw [hF1 h0 hm_h0 (by rw [ht_h0]; rfl)]; exact hf_2
              have hf_13 : fld (f h0) 5 = some (.ref b_15) := by rw [hF1 h0 hm_h0 (by rw [ht_h0]; rfl)]; exact hf_13
              have hf_19 : fld (f b_16) 0 = some (.ref b_21) := by rw [hF1 b_16 hm_b_16 (by rw [ht_b_16]; rfl)]; exact hf_19
              clear hI1 hF1 hB ht hz1 hk1 hS1 hvm
              refine lv_aload hx hb dX5_say_100 (lv_at hl 0 rfl) ?_
              refine tp_getK (ci := 0) (C := RX1) (T := TX1) (N := 9) hx hb hts hin_X1 hown hK hw hm_b_16 0 ht_b_16 (fun _ => rfl) rfl 0 (by decide) hf_19 (hts (.fieldLink RX5 80 "DayBench$Saying" "spans" "LDayBench$Spans;") (by decide +kernel)) (fun _ h9 => h9) dX5_say_102 ?_
              refine tp_get (ci := 3) (C := RX4) (T := TX4) (N := 3) hx hb hts hin_X4 hown hK hw hm_b_21 1 ht_b_21 (fun _ => rfl) rfl 2 (by decide) rfl (hts (.fieldLink RX5 101 "DayBench$Spans" "size" "I") (by decide +kernel)) (fun _ h9 => h9) dX5_say_105 (fun v_25 hf_26 hv_27 => ?_)
              obtain ⟨k_28, ek_28, hk_k_28⟩ := hv_27
              subst ek_28
              clear hf_26
              refine lv_if_ne (tgt := 113) hx hb dX5_say_108 (by decide) (fun h_29 => ?_) (fun h_29 => ?_)
              · have nh_29 : ¬ k_28 = 0 := fun q9 => h_29 ((nI_eq (a := k_28) (b := 0) (by omega) (by omega)).mpr q9)
                refine lv_aload hx hb dX5_say_113 (lv_at hl 0 rfl) ?_
                refine lv_iload_n hx hb dX5_say_115 rfl (lv_at hl 2 rfl) ?_
                refine lv_iload_n hx hb dX5_say_116 rfl (lv_at hl 3 rfl) ?_
                refine lv_iload hx hb dX5_say_117 (lv_at hl 7 rfl) ?_
                refine va_callv (va_runV (As := [.int (nI k_7), .int p1, .int p5]) (rest := []) ⟨hx, hb, hml, hown, hts⟩ (k_X1_begin l dC dI cI cS cP cA L tg f hN hT hw.2.1 b_16 hm_b_16 ht_b_16 k_7 (by first | omega | decide) p1 p5) (cwV 3 hts gX5_say_X1_begin rfl rfl rfl (by decide +kernel) ⟨Nat.le_of_ble_eq_true rfl, Nat.le_of_ble_eq_true rfl⟩) ⟨tPre_blind, tp_recv hK hw hm_b_16 0 ht_b_16 (ci := 0) (fun _ => rfl) rfl, fun U hU hW => ⟨rfl, tPre_at hw hK hcm hU hW⟩⟩ rfl rfl hl.1 rfl (lv_room (Nat.le_of_ble_eq_true rfl)) dX5_say_119 ⟨Nat.le_of_ble_eq_true rfl, Nat.le_of_ble_eq_true rfl⟩) hw.2.2.2 (fun q _ h => h) (fun q h => h) (fun f t H locs ht hvm hp hB hz1 hk1 hS1 => ?_)
                obtain ⟨hI1, hF1⟩ := hp
                have hw := hw.back (S' := (fun t => t == 0)) (by decide) hT hI1 hF1 hB ht hS1
                have hq3 : fld (f h0) 3 = some (v3) := by rw [hF1 h0 hm_h0 (by rw [ht_h0]; rfl)]; exact hq3
                have hq4 : fld (f h0) 4 = some (v4) := by rw [hF1 h0 hm_h0 (by rw [ht_h0]; rfl)]; exact hq4
                have hf_2 : fld (f h0) 6 = some (.int (nI k_4)) := by rw [hF1 h0 hm_h0 (by rw [ht_h0]; rfl)]; exact hf_2
                have hf_13 : fld (f h0) 5 = some (.ref b_15) := by rw [hF1 h0 hm_h0 (by rw [ht_h0]; rfl)]; exact hf_13
                clear hI1 hF1 hB ht hz1 hk1 hS1 hvm
                refine lv_aload_n hx hb dX5_say_122 rfl (lv_at hl 1 rfl) ?_
                refine lv_dup hx hb dX5_say_123 rfl ?_
                refine tp_getK (ci := 4) (C := RX5) (T := TX5) (N := 11) hx hb hts hin_X5 hown hK hw hm_h0 6 ht_h0 (fun _ => rfl) rfl 6 (by decide) hf_2 (hts (.fieldLink RX5 74 "DayBench" "sayingsMade" "I") (by decide +kernel)) (fun _ h9 => h9) dX5_say_124 ?_
                refine lv_iconst (v := 1) hx hb dX5_say_127 (by decide) ?_
                refine lv_iadd hx hb dX5_say_128 ?_
                refine lv_topi (fun x_31 ex_31 => ?_)
                have ex_31 : x_31 = nI (k_4 + 1) := ex_31.trans (nI_1 _)
                subst ex_31
                refine tp_put (ci := 4) (C := RX5) (T := TX5) (N := 11) (v := .int (nI (k_4 + 1))) (ty := .int) hx hb hts hin_X5 tyX5 tyX5_ok nmX5 hown hN hK hw hm_h0 6 ht_h0 rfl (fun _ => rfl) rfl 6 (by decide) rfl (hts (.fieldLink RX5 74 "DayBench" "sayingsMade" "I") (by decide +kernel)) (fun _ h9 => h9) rfl (by decide +kernel) rfl rfl ⟨(k_4 + 1), rfl, by omega⟩ dX5_say_129 (fun H locs f hw ho_32 hn_33 hs_34 => ?_)
                have hq3 := (hs_34 3 (by decide)).trans hq3
                have hq4 := (hs_34 4 (by decide)).trans hq4
                have hf_13 := (hs_34 5 (by decide)).trans hf_13
                clear ho_32 hs_34
                refine lv_aload_n hx hb dX5_say_132 rfl (lv_at hl 1 rfl) ?_
                refine tp_getK (ci := 4) (C := RX5) (T := TX5) (N := 11) hx hb hts hin_X5 hown hK hw hm_h0 6 ht_h0 (fun _ => rfl) rfl 6 (by decide) hn_33 (hts (.fieldLink RX5 74 "DayBench" "sayingsMade" "I") (by decide +kernel)) (fun _ h9 => h9) dX5_say_133 ?_
                refine lv_iconst (v := 1) hx hb dX5_say_136 (by decide) ?_
                refine lv_isub hx hb dX5_say_137 ?_
                refine lv_topi (fun x_35 ex_35 => ?_)
                have ex_35 : x_35 = nI k_4 := ex_35.trans (nI_pred _)
                subst ex_35
                subst hQ
                have hI9 := hw.2.1
                have hF9 := hw.2.2.1
                have hS9 := hw.2.2.2
                rw [hf0] at hF9
                exact W.iret (v := nI k_4) hx hb hr (fun t ht hW => ⟨⟨_, _, rfl, ⟨hI9, hF9, ⟨hq3, hq4⟩⟩, hw.at ht⟩, hS9.F ht⟩) hS9.2.2 dX5_say_138
              · have nh_29 : k_28 = 0 := (nI_eq (a := k_28) (b := 0) (by omega) (by omega)).mp h_29
                refine lv_iconst (v := (-1)) hx hb dX5_say_111 (by decide) ?_
                subst hQ
                have hI9 := hw.2.1
                have hF9 := hw.2.2.1
                have hS9 := hw.2.2.2
                rw [hf0] at hF9
                exact W.iret (v := (-1)) hx hb hr (fun t ht hW => ⟨⟨_, _, rfl, ⟨hI9, hF9, ⟨hq3, hq4⟩⟩, hw.at ht⟩, hS9.F ht⟩) hS9.2.2 dX5_say_112
            · refine lv_aload_n hx hb dX5_say_57 rfl (lv_at hl 1 rfl) ?_
              refine lv_iload_n hx hb dX5_say_58 rfl (lv_at hl 2 rfl) ?_
              refine lv_iload_n hx hb dX5_say_59 rfl (lv_at hl 4 rfl) ?_
              refine lv_iload hx hb dX5_say_60 (lv_at hl 5 rfl) ?_
              refine lv_iload hx hb dX5_say_62 (lv_at hl 6 rfl) ?_
              refine vp_callSi (va_Run.run (va_runV (As := [.int (nI k_7), .int p2, .int p3, .int p4]) (rest := []) ⟨hx, hb, hml, hown, hts⟩ (k_X5_isBehind l dC dI cI cS cP cA L tg f hN hT hw.2.1 h0 hm_h0 ht_h0 (nI k_7) p2 p3 p4) (cwV 4 hts gX5_say_X5_isBehind rfl rfl rfl (by decide +kernel) ⟨Nat.le_of_ble_eq_true rfl, Nat.le_of_ble_eq_true rfl⟩) ⟨tPre_blind, tp_recv hK hw hm_h0 6 ht_h0 (ci := 4) (fun _ => rfl) rfl, fun U hU hW => ⟨rfl, tPre_at hw hK hcm hU hW⟩⟩ rfl rfl hl.1 rfl (lv_room (Nat.le_of_ble_eq_true rfl)) dX5_say_64 ⟨Nat.le_of_ble_eq_true rfl, Nat.le_of_ble_eq_true rfl⟩)) (fun r_36 hr_36 => ?_)
              rcases hr_36 with er_36 | ⟨er_36, k_37, hk_37, ek_37⟩
              · subst er_36
                refine lv_if_ne (tgt := 72) hx hb dX5_say_67 (by decide) (fun h_38 => ?_) (fun h_38 => ?_)
                · exact (by first | exact absurd h_38 (by decide) | exact absurd (by decide) h_38)
                · refine lv_iconst (v := (-1)) hx hb dX5_say_70 (by decide) ?_
                  subst hQ
                  have hI9 := hw.2.1
                  have hF9 := hw.2.2.1
                  have hS9 := hw.2.2.2
                  rw [hf0] at hF9
                  exact W.iret (v := (-1)) hx hb hr (fun t ht hW => ⟨⟨_, _, rfl, ⟨hI9, hF9, ⟨hq3, hq4⟩⟩, hw.at ht⟩, hS9.F ht⟩) hS9.2.2 dX5_say_71
              · subst er_36
                rw [ek_37] at hl
                refine lv_if_ne (tgt := 72) hx hb dX5_say_67 (by decide) (fun h_39 => ?_) (fun h_39 => ?_)
                · refine lv_aload hx hb dX5_say_72 (lv_at hl 0 rfl) ?_
                  refine lv_iload_n hx hb dX5_say_74 rfl (lv_at hl 4 rfl) ?_
                  refine lv_iload hx hb dX5_say_75 (lv_at hl 5 rfl) ?_
                  refine lv_iload hx hb dX5_say_77 (lv_at hl 6 rfl) ?_
                  refine va_callv (va_runV (As := [.int p2, .int p3, .int (nI k_37)]) (rest := []) ⟨hx, hb, hml, hown, hts⟩ (k_X1_setBehind l dC dI cI cS cP cA L tg f hN hT hw.2.1 b_16 hm_b_16 ht_b_16 p2 p3 k_37 (by first | omega | decide)) (cwV 3 hts gX5_say_X1_setBehind rfl rfl rfl (by decide +kernel) ⟨Nat.le_of_ble_eq_true rfl, Nat.le_of_ble_eq_true rfl⟩) ⟨tPre_blind, tp_recv hK hw hm_b_16 0 ht_b_16 (ci := 0) (fun _ => rfl) rfl, fun U hU hW => ⟨rfl, tPre_at hw hK hcm hU hW⟩⟩ rfl rfl hl.1 rfl (lv_room (Nat.le_of_ble_eq_true rfl)) dX5_say_79 ⟨Nat.le_of_ble_eq_true rfl, Nat.le_of_ble_eq_true rfl⟩) hw.2.2.2 (fun q _ h => h) (fun q h => h) (fun f t H locs ht hvm hp hB hz1 hk1 hS1 => ?_)
                  obtain ⟨hI1, hF1⟩ := hp
                  have hw := hw.back (S' := (fun t => t == 0)) (by decide) hT hI1 hF1 hB ht hS1
                  have hq3 : fld (f h0) 3 = some (v3) := by rw [hF1 h0 hm_h0 (by rw [ht_h0]; rfl)]; exact hq3
                  have hq4 : fld (f h0) 4 = some (v4) := by rw [hF1 h0 hm_h0 (by rw [ht_h0]; rfl)]; exact hq4
                  have hf_2 : fld (f h0) 6 = some (.int (nI k_4)) := by rw [hF1 h0 hm_h0 (by rw [ht_h0]; rfl)]; exact hf_2
                  have hf_13 : fld (f h0) 5 = some (.ref b_15) := by rw [hF1 h0 hm_h0 (by rw [ht_h0]; rfl)]; exact hf_13
                  clear hI1 hF1 hB ht hz1 hk1 hS1 hvm
                  refine lv_goto (tgt := 113) hx hb dX5_say_82 (by decide) ?_
                  refine lv_aload hx hb dX5_say_113 (lv_at hl 0 rfl) ?_
                  refine lv_iload_n hx hb dX5_say_115 rfl (lv_at hl 2 rfl) ?_
                  refine lv_iload_n hx hb dX5_say_116 rfl (lv_at hl 3 rfl) ?_
                  refine lv_iload hx hb dX5_say_117 (lv_at hl 7 rfl) ?_
                  refine va_callv (va_runV (As := [.int (nI k_7), .int p1, .int p5]) (rest := []) ⟨hx, hb, hml, hown, hts⟩ (k_X1_begin l dC dI cI cS cP cA L tg f hN hT hw.2.1 b_16 hm_b_16 ht_b_16 k_7 (by first | omega | decide) p1 p5) (cwV 3 hts gX5_say_X1_begin rfl rfl rfl (by decide +kernel) ⟨Nat.le_of_ble_eq_true rfl, Nat.le_of_ble_eq_true rfl⟩) ⟨tPre_blind, tp_recv hK hw hm_b_16 0 ht_b_16 (ci := 0) (fun _ => rfl) rfl, fun U hU hW => ⟨rfl, tPre_at hw hK hcm hU hW⟩⟩ rfl rfl hl.1 rfl (lv_room (Nat.le_of_ble_eq_true rfl)) dX5_say_119 ⟨Nat.le_of_ble_eq_true rfl, Nat.le_of_ble_eq_true rfl⟩) hw.2.2.2 (fun q _ h => h) (fun q h => h) (fun f t H locs ht hvm hp hB hz1 hk1 hS1 => ?_)
                  obtain ⟨hI1, hF1⟩ := hp
                  have hw := hw.back (S' := (fun t => t == 0)) (by decide) hT hI1 hF1 hB ht hS1
                  have hq3 : fld (f h0) 3 = some (v3) := by rw [hF1 h0 hm_h0 (by rw [ht_h0]; rfl)]; exact hq3
                  have hq4 : fld (f h0) 4 = some (v4) := by rw [hF1 h0 hm_h0 (by rw [ht_h0]; rfl)]; exact hq4
                  have hf_2 : fld (f h0) 6 = some (.int (nI k_4)) := by rw [hF1 h0 hm_h0 (by rw [ht_h0]; rfl)]; exact hf_2
                  have hf_13 : fld (f h0) 5 = some (.ref b_15) := by rw [hF1 h0 hm_h0 (by rw [ht_h0]; rfl)]; exact hf_13
                  clear hI1 hF1 hB ht hz1 hk1 hS1 hvm
                  refine lv_aload_n hx hb dX5_say_122 rfl (lv_at hl 1 rfl) ?_
                  refine lv_dup hx hb dX5_say_123 rfl ?_
                  refine tp_getK (ci := 4) (C := RX5) (T := TX5) (N := 11) hx hb hts hin_X5 hown hK hw hm_h0 6 ht_h0 (fun _ => rfl) rfl 6 (by decide) hf_2 (hts (.fieldLink RX5 74 "DayBench" "sayingsMade" "I") (by decide +kernel)) (fun _ h9 => h9) dX5_say_124 ?_
                  refine lv_iconst (v := 1) hx hb dX5_say_127 (by decide) ?_
                  refine lv_iadd hx hb dX5_say_128 ?_
                  refine lv_topi (fun x_42 ex_42 => ?_)
                  have ex_42 : x_42 = nI (k_4 + 1) := ex_42.trans (nI_1 _)
                  subst ex_42
                  refine tp_put (ci := 4) (C := RX5) (T := TX5) (N := 11) (v := .int (nI (k_4 + 1))) (ty := .int) hx hb hts hin_X5 tyX5 tyX5_ok nmX5 hown hN hK hw hm_h0 6 ht_h0 rfl (fun _ => rfl) rfl 6 (by decide) rfl (hts (.fieldLink RX5 74 "DayBench" "sayingsMade" "I") (by decide +kernel)) (fun _ h9 => h9) rfl (by decide +kernel) rfl rfl ⟨(k_4 + 1), rfl, by omega⟩ dX5_say_129 (fun H locs f hw ho_43 hn_44 hs_45 => ?_)
                  have hq3 := (hs_45 3 (by decide)).trans hq3
                  have hq4 := (hs_45 4 (by decide)).trans hq4
                  have hf_13 := (hs_45 5 (by decide)).trans hf_13
                  clear ho_43 hs_45
                  refine lv_aload_n hx hb dX5_say_132 rfl (lv_at hl 1 rfl) ?_
                  refine tp_getK (ci := 4) (C := RX5) (T := TX5) (N := 11) hx hb hts hin_X5 hown hK hw hm_h0 6 ht_h0 (fun _ => rfl) rfl 6 (by decide) hn_44 (hts (.fieldLink RX5 74 "DayBench" "sayingsMade" "I") (by decide +kernel)) (fun _ h9 => h9) dX5_say_133 ?_
                  refine lv_iconst (v := 1) hx hb dX5_say_136 (by decide) ?_
                  refine lv_isub hx hb dX5_say_137 ?_
                  refine lv_topi (fun x_46 ex_46 => ?_)
                  have ex_46 : x_46 = nI k_4 := ex_46.trans (nI_pred _)
                  subst ex_46
                  subst hQ
                  have hI9 := hw.2.1
                  have hF9 := hw.2.2.1
                  have hS9 := hw.2.2.2
                  rw [hf0] at hF9
                  exact W.iret (v := nI k_4) hx hb hr (fun t ht hW => ⟨⟨_, _, rfl, ⟨hI9, hF9, ⟨hq3, hq4⟩⟩, hw.at ht⟩, hS9.F ht⟩) hS9.2.2 dX5_say_138
                · exact (by first | exact absurd h_39 (by decide) | exact absurd (by decide) h_39)
          · refine lv_iconst (v := (-1)) hx hb dX5_say_30 (by decide) ?_
            subst hQ
            have hI9 := hw.2.1
            have hF9 := hw.2.2.1
            have hS9 := hw.2.2.2
            rw [hf0] at hF9
            exact W.iret (v := (-1)) hx hb hr (fun t ht hW => ⟨⟨_, _, rfl, ⟨hI9, hF9, ⟨hq3, hq4⟩⟩, hw.at ht⟩, hS9.F ht⟩) hS9.2.2 dX5_say_31

