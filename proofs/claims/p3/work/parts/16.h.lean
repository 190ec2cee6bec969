set_option maxHeartbeats 4000000 in
set_option maxRecDepth 100000 in
theorem k_X5_copy (l : Launch) (dC : Nat → ClassId) (dI : Nat → Nat → Nat) (cI cS cP cA : ClassId) (L : List Nat) (tg : Nat → Nat) (f : Nat → va_E) (hN : L.Nodup) (hT : ∀ a : Nat, a ∈ L → tg a < 13) (hI : PI cI cS cP cA L tg f) (h0 : Nat) (hm_h0 : h0 ∈ L) (ht_h0 : tg h0 = 6) (p0 : Int32) (p1 : Int32) : Met l yX5_copy wsX5_copy ({ frames := 1, cells := 0, slots := 0, locals := 21 }) (va_Pc [.ref h0, .int p0, .int p1] (tPre dC dI cI cS cP cA L f)) (va_Qi (fun (r : Int32) (f' : Nat → va_E) => PI cI cS cP cA L tg f' ∧ Fr L tg (fun t => t == 0) f f') (fun (f' : Nat → va_E) t => va_P (dC, dI) vwCl (va_pl L f') t.heap) (fun q : Nat => q ∈ L)) 0 0 (fun q : Nat => q ∈ L) := by
  refine Met.ofW (cc := cX5_copy) (maxL := 3) (ret := (some .boolean)) (by decide) rfl ?_
  intro p e s m args below meth c s₁ B hml hv
  obtain ⟨rfl, hP, hK, hcm⟩ := hv
  have hx := B.exec
  have hb := B.bytes
  have hr := B.returns
  have hts := atoms_spec (ws := wsX5_copy) B.pre
  have hown : s.vm.findClass RX5 = some m.cls := findClass_of_methodNamed B.named
  have hlocks := B.notSynchronized
  have hin_X5 : ∀ w ∈ u_ws RX5 TX5 11, w ∈ wsX5_copy := by decide +kernel
  have hin_X1 : ∀ w ∈ u_ws RX1 TX1 9, w ∈ wsX5_copy := by decide +kernel
  have hl := lv_entry ([.ref h0, .int p0, .int p1]) (n := 3) (Nat.le_of_ble_eq_true rfl)
  rw [lg_entry_eq]
  generalize (lg_sl ([.ref h0, .int p0, .int p1]) ++ List.replicate (3 - (lg_sl ([.ref h0, .int p0, .int p1])).length) Slot.unset).toArray = ls at hl ⊢
  have hl : lv_has ls 3 [(0, .ref h0), (1, .int p0), (2, .int p1)] := hl
  generalize hQ : MQ below (va_Qi (fun (r : Int32) (f' : Nat → va_E) => PI cI cS cP cA L tg f' ∧ Fr L tg (fun t => t == 0) f f') (fun (f' : Nat → va_E) t => va_P (dC, dI) vwCl (va_pl L f') t.heap) (fun q : Nat => q ∈ L)) [.ref h0, .int p0, .int p1].toArray s 0 0 (fun q : Nat => q ∈ L) = Q
  obtain ⟨f0, hf0⟩ : ∃ g : Nat → va_E, g = f := ⟨_, rfl⟩
  have hw : PW dC dI cI cS cP cA L tg (fun t => t == 0) f0 s.heap f s.heap [] := by rw [hf0]; exact PW.start hP hI
  clear hP
  refine lv_aload_n hx hb dX5_copy_0 rfl (lv_at hl 0 rfl) ?_
  refine lv_iload_n hx hb dX5_copy_1 rfl (lv_at hl 1 rfl) ?_
  refine vp_callSi (va_Run.run (va_runV (As := [.int p0]) (rest := []) ⟨hx, hb, hml, hown, hts⟩ (k_X5_isSaying l dC dI cI cS cP cA L tg f hN hT hw.2.1 h0 hm_h0 ht_h0 p0) (cwV 1 hts gX5_copy_X5_isSaying rfl rfl rfl (by decide +kernel) ⟨Nat.le_of_ble_eq_true rfl, Nat.le_of_ble_eq_true rfl⟩) ⟨tPre_blind, tp_recv hK hw hm_h0 6 ht_h0 (ci := 4) (fun _ => rfl) rfl, fun U hU hW => ⟨rfl, tPre_at hw hK hcm hU hW⟩⟩ rfl rfl hl.1 rfl (lv_room (Nat.le_of_ble_eq_true rfl)) dX5_copy_2 ⟨Nat.le_of_ble_eq_true rfl, Nat.le_of_ble_eq_true rfl⟩)) (fun r_1 hr_1 => ?_)
  rcases hr_1 with er_1 | ⟨er_1, k_2, hk_2, ek_2⟩
  · subst er_1
    refine lv_if_eq (tgt := 34) hx hb dX5_copy_5 (by decide) (fun h_3 => ?_) (fun h_3 => ?_)
    · refine lv_iconst (v := 0) hx hb dX5_copy_34 (by decide) ?_
      subst hQ
      have hI9 := hw.2.1
      have hF9 := hw.2.2.1
      have hS9 := hw.2.2.2
      rw [hf0] at hF9
      exact W.zret (v := 0) hx hb hr rfl (fun t ht hW => ⟨⟨_, _, rfl, ⟨hI9, hF9⟩, hw.at ht⟩, hS9.F ht⟩) hS9.2.2 dX5_copy_35
    · exact (by first | exact absurd h_3 (by decide) | exact absurd (by decide) h_3)
  · subst er_1
    rw [ek_2] at hl
    refine lv_if_eq (tgt := 34) hx hb dX5_copy_5 (by decide) (fun h_4 => ?_) (fun h_4 => ?_)
    · exact (by first | exact absurd h_4 (by decide) | exact absurd (by decide) h_4)
    · refine lv_aload_n hx hb dX5_copy_8 rfl (lv_at hl 0 rfl) ?_
      refine lv_iload_n hx hb dX5_copy_9 rfl (lv_at hl 2 rfl) ?_
      refine vp_callSi (va_Run.run (va_runV (As := [.int p1]) (rest := []) ⟨hx, hb, hml, hown, hts⟩ (k_X5_isSaying l dC dI cI cS cP cA L tg f hN hT hw.2.1 h0 hm_h0 ht_h0 p1) (cwV 1 hts gX5_copy_X5_isSaying rfl rfl rfl (by decide +kernel) ⟨Nat.le_of_ble_eq_true rfl, Nat.le_of_ble_eq_true rfl⟩) ⟨tPre_blind, tp_recv hK hw hm_h0 6 ht_h0 (ci := 4) (fun _ => rfl) rfl, fun U hU hW => ⟨rfl, tPre_at hw hK hcm hU hW⟩⟩ rfl rfl hl.1 rfl (lv_room (Nat.le_of_ble_eq_true rfl)) dX5_copy_10 ⟨Nat.le_of_ble_eq_true rfl, Nat.le_of_ble_eq_true rfl⟩)) (fun r_5 hr_5 => ?_)
      rcases hr_5 with er_5 | ⟨er_5, k_6, hk_6, ek_6⟩
      · subst er_5
        refine lv_if_eq (tgt := 34) hx hb dX5_copy_13 (by decide) (fun h_7 => ?_) (fun h_7 => ?_)
        · refine lv_iconst (v := 0) hx hb dX5_copy_34 (by decide) ?_
          subst hQ
          have hI9 := hw.2.1
          have hF9 := hw.2.2.1
          have hS9 := hw.2.2.2
          rw [hf0] at hF9
          exact W.zret (v := 0) hx hb hr rfl (fun t ht hW => ⟨⟨_, _, rfl, ⟨hI9, hF9⟩, hw.at ht⟩, hS9.F ht⟩) hS9.2.2 dX5_copy_35
        · exact (by first | exact absurd h_7 (by decide) | exact absurd (by decide) h_7)
      · subst er_5
        rw [ek_6] at hl
        refine lv_if_eq (tgt := 34) hx hb dX5_copy_13 (by decide) (fun h_8 => ?_) (fun h_8 => ?_)
        · exact (by first | exact absurd h_8 (by decide) | exact absurd (by decide) h_8)
        · refine lv_iload_n hx hb dX5_copy_16 rfl (lv_at hl 2 rfl) ?_
          refine lv_iload_n hx hb dX5_copy_17 rfl (lv_at hl 1 rfl) ?_
          refine lv_icmp_ge (tgt := 34) hx hb dX5_copy_18 (by decide) (fun h_9 => ?_) (fun h_9 => ?_)
          · have nh_9 : k_2 ≤ k_6 := (nI_leI (a := k_2) (b := k_6) (by omega) (by omega)).mp h_9
            refine lv_iconst (v := 0) hx hb dX5_copy_34 (by decide) ?_
            subst hQ
            have hI9 := hw.2.1
            have hF9 := hw.2.2.1
            have hS9 := hw.2.2.2
            rw [hf0] at hF9
            exact W.zret (v := 0) hx hb hr rfl (fun t ht hW => ⟨⟨_, _, rfl, ⟨hI9, hF9⟩, hw.at ht⟩, hS9.F ht⟩) hS9.2.2 dX5_copy_35
          · have nh_9 : ¬ k_2 ≤ k_6 := fun q9 => h_9 ((nI_leI (a := k_2) (b := k_6) (by omega) (by omega)).mpr q9)
            refine lv_aload_n hx hb dX5_copy_21 rfl (lv_at hl 0 rfl) ?_
            refine tp_get (ci := 4) (C := RX5) (T := TX5) (N := 11) hx hb hts hin_X5 hown hK hw hm_h0 6 ht_h0 (fun _ => rfl) rfl 5 (by decide) rfl (hts (.fieldLink RX5 21 "DayBench" "sayings" "[LDayBench$Saying;") (by decide +kernel)) (fun _ h9 => h9) dX5_copy_22 (fun v_10 hf_11 hv_12 => ?_)
            obtain ⟨b_13, eb_13, hm_b_13, ht_b_13⟩ := hv_12
            subst eb_13
            refine lv_iload_n hx hb dX5_copy_25 rfl (lv_at hl 1 rfl) ?_
            refine tp_aald hx hb hK hw hm_b_13 9 ht_b_13 1 (n := 12) (t' := 0) (fun _ => rfl) rfl rfl (vp_in_nI (by omega) (by omega)) dX5_copy_26 (fun b_14 hf_15 hm_b_14 ht_b_14 => ?_)
            clear hf_15
            refine tp_get (ci := 0) (C := RX1) (T := TX1) (N := 9) hx hb hts hin_X1 hown hK hw hm_b_14 0 ht_b_14 (fun _ => rfl) rfl 5 (by decide) rfl (hts (.fieldLink RX5 110 "DayBench$Saying" "copyOf" "I") (by decide +kernel)) (fun _ h9 => h9) dX5_copy_27 (fun v_16 hf_17 hv_18 => ?_)
            obtain ⟨y_19, ey_19, hb_y_19⟩ := hv_18
            subst ey_19
            clear hf_17
            refine lv_iconst (v := (-1)) hx hb dX5_copy_30 (by decide) ?_
            refine lv_icmp_eq (tgt := 36) hx hb dX5_copy_31 (by decide) (fun h_20 => ?_) (fun h_20 => ?_)
            · refine lv_aload_n hx hb dX5_copy_36 rfl (lv_at hl 0 rfl) ?_
              refine tp_getK (ci := 4) (C := RX5) (T := TX5) (N := 11) hx hb hts hin_X5 hown hK hw hm_h0 6 ht_h0 (fun _ => rfl) rfl 5 (by decide) hf_11 (hts (.fieldLink RX5 21 "DayBench" "sayings" "[LDayBench$Saying;") (by decide +kernel)) (fun _ h9 => h9) dX5_copy_37 ?_
              refine lv_iload_n hx hb dX5_copy_40 rfl (lv_at hl 1 rfl) ?_
              refine tp_aald hx hb hK hw hm_b_13 9 ht_b_13 1 (n := 12) (t' := 0) (fun _ => rfl) rfl rfl (vp_in_nI (by omega) (by omega)) dX5_copy_41 (fun b_21 hf_22 hm_b_21 ht_b_21 => ?_)
              clear hf_22
              refine lv_iload_n hx hb dX5_copy_42 rfl (lv_at hl 2 rfl) ?_
              refine tp_put (ci := 0) (C := RX1) (T := TX1) (N := 9) (v := .int (nI k_6)) (ty := .int) hx hb hts hin_X1 tyX1 tyX1_ok nmX1 hown hN hK hw hm_b_21 0 ht_b_21 rfl (fun _ => rfl) rfl 5 (by decide) rfl (hts (.fieldLink RX5 110 "DayBench$Saying" "copyOf" "I") (by decide +kernel)) (fun _ h9 => h9) rfl (by decide +kernel) rfl rfl ⟨_, rfl, Or.inr ⟨k_6, by omega, rfl⟩⟩ dX5_copy_43 (fun H locs f hw ho_23 hn_24 hs_25 => ?_)
              have hf_11 : fld (f h0) 5 = some (.ref b_13) := by rw [ho_23 h0 (tne ht_h0 ht_b_21 (by decide))]; exact hf_11
              clear ho_23 hs_25 hn_24
              refine lv_iconst (v := 1) hx hb dX5_copy_46 (by decide) ?_
              subst hQ
              have hI9 := hw.2.1
              have hF9 := hw.2.2.1
              have hS9 := hw.2.2.2
              rw [hf0] at hF9
              exact W.zret (v := 1) hx hb hr rfl (fun t ht hW => ⟨⟨_, _, rfl, ⟨hI9, hF9⟩, hw.at ht⟩, hS9.F ht⟩) hS9.2.2 dX5_copy_47
            · refine lv_iconst (v := 0) hx hb dX5_copy_34 (by decide) ?_
              subst hQ
              have hI9 := hw.2.1
              have hF9 := hw.2.2.1
              have hS9 := hw.2.2.2
              rw [hf0] at hF9
              exact W.zret (v := 0) hx hb hr rfl (fun t ht hW => ⟨⟨_, _, rfl, ⟨hI9, hF9⟩, hw.at ht⟩, hS9.F ht⟩) hS9.2.2 dX5_copy_35

set_option maxHeartbeats 4000000 in
set_option maxRecDepth 100000 in
theorem k_X5_take (l : Launch) (dC : Nat → ClassId) (dI : Nat → Nat → Nat) (cI cS cP cA : ClassId) (L : List Nat) (tg : Nat → Nat) (f : Nat → va_E) (hN : L.Nodup) (hT : ∀ a : Nat, a ∈ L → tg a < 13) (hI : PI cI cS cP cA L tg f) (h0 : Nat) (hm_h0 : h0 ∈ L) (ht_h0 : tg h0 = 6) (p0 : Int32) (p1 : Int32) (h_p1 : p1 = 0 ∨ p1 = 1) : Met l yX5_take wsX5_take ({ frames := 1, cells := 0, slots := 0, locals := 21 }) (va_Pc [.ref h0, .int p0, .int p1] (tPre dC dI cI cS cP cA L f)) (va_Qi (fun (r : Int32) (f' : Nat → va_E) => PI cI cS cP cA L tg f' ∧ Fr L tg (fun t => t == 0) f f') (fun (f' : Nat → va_E) t => va_P (dC, dI) vwCl (va_pl L f') t.heap) (fun q : Nat => q ∈ L)) 0 0 (fun q : Nat => q ∈ L) := by
  refine Met.ofW (cc := cX5_take) (maxL := 3) (ret := (some .boolean)) (by decide) rfl ?_
  intro p e s m args below meth c s₁ B hml hv
  obtain ⟨rfl, hP, hK, hcm⟩ := hv
  have hx := B.exec
  have hb := B.bytes
  have hr := B.returns
  have hts := atoms_spec (ws := wsX5_take) B.pre
  have hown : s.vm.findClass RX5 = some m.cls := findClass_of_methodNamed B.named
  have hlocks := B.notSynchronized
  have hin_X5 : ∀ w ∈ u_ws RX5 TX5 11, w ∈ wsX5_take := by decide +kernel
  have hin_X1 : ∀ w ∈ u_ws RX1 TX1 9, w ∈ wsX5_take := by decide +kernel
  have hl := lv_entry ([.ref h0, .int p0, .int p1]) (n := 3) (Nat.le_of_ble_eq_true rfl)
  rw [lg_entry_eq]
  generalize (lg_sl ([.ref h0, .int p0, .int p1]) ++ List.replicate (3 - (lg_sl ([.ref h0, .int p0, .int p1])).length) Slot.unset).toArray = ls at hl ⊢
  have hl : lv_has ls 3 [(0, .ref h0), (1, .int p0), (2, .int p1)] := hl
  generalize hQ : MQ below (va_Qi (fun (r : Int32) (f' : Nat → va_E) => PI cI cS cP cA L tg f' ∧ Fr L tg (fun t => t == 0) f f') (fun (f' : Nat → va_E) t => va_P (dC, dI) vwCl (va_pl L f') t.heap) (fun q : Nat => q ∈ L)) [.ref h0, .int p0, .int p1].toArray s 0 0 (fun q : Nat => q ∈ L) = Q
  obtain ⟨f0, hf0⟩ : ∃ g : Nat → va_E, g = f := ⟨_, rfl⟩
  have hw : PW dC dI cI cS cP cA L tg (fun t => t == 0) f0 s.heap f s.heap [] := by rw [hf0]; exact PW.start hP hI
  clear hP
  refine lv_aload_n hx hb dX5_take_0 rfl (lv_at hl 0 rfl) ?_
  refine lv_iload_n hx hb dX5_take_1 rfl (lv_at hl 1 rfl) ?_
  refine vp_callSi (va_Run.run (va_runV (As := [.int p0]) (rest := []) ⟨hx, hb, hml, hown, hts⟩ (k_X5_isSaying l dC dI cI cS cP cA L tg f hN hT hw.2.1 h0 hm_h0 ht_h0 p0) (cwV 1 hts gX5_take_X5_isSaying rfl rfl rfl (by decide +kernel) ⟨Nat.le_of_ble_eq_true rfl, Nat.le_of_ble_eq_true rfl⟩) ⟨tPre_blind, tp_recv hK hw hm_h0 6 ht_h0 (ci := 4) (fun _ => rfl) rfl, fun U hU hW => ⟨rfl, tPre_at hw hK hcm hU hW⟩⟩ rfl rfl hl.1 rfl (lv_room (Nat.le_of_ble_eq_true rfl)) dX5_take_2 ⟨Nat.le_of_ble_eq_true rfl, Nat.le_of_ble_eq_true rfl⟩)) (fun r_1 hr_1 => ?_)
  rcases hr_1 with er_1 | ⟨er_1, k_2, hk_2, ek_2⟩
  · subst er_1
    refine lv_if_eq (tgt := 21) hx hb dX5_take_5 (by decide) (fun h_3 => ?_) (fun h_3 => ?_)
    · refine lv_iconst (v := 0) hx hb dX5_take_21 (by decide) ?_
      subst hQ
      have hI9 := hw.2.1
      have hF9 := hw.2.2.1
      have hS9 := hw.2.2.2
      rw [hf0] at hF9
      exact W.zret (v := 0) hx hb hr rfl (fun t ht hW => ⟨⟨_, _, rfl, ⟨hI9, hF9⟩, hw.at ht⟩, hS9.F ht⟩) hS9.2.2 dX5_take_22
    · exact (by first | exact absurd h_3 (by decide) | exact absurd (by decide) h_3)
  · subst er_1
    rw [ek_2] at hl
    refine lv_if_eq (tgt := 21) hx hb dX5_take_5 (by decide) (fun h_4 => ?_) (fun h_4 => ?_)
    · exact (by first | exact absurd h_4 (by decide) | exact absurd (by decide) h_4)
    · refine lv_aload_n hx hb dX5_take_8 rfl (lv_at hl 0 rfl) ?_
      refine tp_get (ci := 4) (C := RX5) (T := TX5) (N := 11) hx hb hts hin_X5 hown hK hw hm_h0 6 ht_h0 (fun _ => rfl) rfl 5 (by decide) rfl (hts (.fieldLink RX5 21 "DayBench" "sayings" "[LDayBench$Saying;") (by decide +kernel)) (fun _ h9 => h9) dX5_take_9 (fun v_5 hf_6 hv_7 => ?_)
      obtain ⟨b_8, eb_8, hm_b_8, ht_b_8⟩ := hv_7
      subst eb_8
      refine lv_iload_n hx hb dX5_take_12 rfl (lv_at hl 1 rfl) ?_
      refine tp_aald hx hb hK hw hm_b_8 9 ht_b_8 1 (n := 12) (t' := 0) (fun _ => rfl) rfl rfl (vp_in_nI (by omega) (by omega)) dX5_take_13 (fun b_9 hf_10 hm_b_9 ht_b_9 => ?_)
      clear hf_10
      refine tp_get (ci := 0) (C := RX1) (T := TX1) (N := 9) hx hb hts hin_X1 hown hK hw hm_b_9 0 ht_b_9 (fun _ => rfl) rfl 4 (by decide) rfl (hts (.fieldLink RX5 113 "DayBench$Saying" "taken" "Z") (by decide +kernel)) (fun _ h9 => h9) dX5_take_14 (fun v_11 hf_12 hv_13 => ?_)
      obtain ⟨y_14, ey_14, hb_y_14⟩ := hv_13
      subst ey_14
      clear hf_12
      refine lv_iload_n hx hb dX5_take_17 rfl (lv_at hl 2 rfl) ?_
      refine lv_icmp_ne (tgt := 23) hx hb dX5_take_18 (by decide) (fun h_15 => ?_) (fun h_15 => ?_)
      · refine lv_aload_n hx hb dX5_take_23 rfl (lv_at hl 0 rfl) ?_
        refine tp_getK (ci := 4) (C := RX5) (T := TX5) (N := 11) hx hb hts hin_X5 hown hK hw hm_h0 6 ht_h0 (fun _ => rfl) rfl 5 (by decide) hf_6 (hts (.fieldLink RX5 21 "DayBench" "sayings" "[LDayBench$Saying;") (by decide +kernel)) (fun _ h9 => h9) dX5_take_24 ?_
        refine lv_iload_n hx hb dX5_take_27 rfl (lv_at hl 1 rfl) ?_
        refine tp_aald hx hb hK hw hm_b_8 9 ht_b_8 1 (n := 12) (t' := 0) (fun _ => rfl) rfl rfl (vp_in_nI (by omega) (by omega)) dX5_take_28 (fun b_16 hf_17 hm_b_16 ht_b_16 => ?_)
        clear hf_17
        refine lv_iload_n hx hb dX5_take_29 rfl (lv_at hl 2 rfl) ?_
        refine tp_put (ci := 0) (C := RX1) (T := TX1) (N := 9) (v := .int p1) (ty := .boolean) hx hb hts hin_X1 tyX1 tyX1_ok nmX1 hown hN hK hw hm_b_16 0 ht_b_16 rfl (fun _ => rfl) rfl 4 (by decide) rfl (hts (.fieldLink RX5 113 "DayBench$Saying" "taken" "Z") (by decide +kernel)) (fun _ h9 => h9) rfl (by decide +kernel) (nar_b h_p1) (fit_b h_p1) ⟨_, rfl, h_p1⟩ dX5_take_30 (fun H locs f hw ho_18 hn_19 hs_20 => ?_)
        have hf_6 : fld (f h0) 5 = some (.ref b_8) := by rw [ho_18 h0 (tne ht_h0 ht_b_16 (by decide))]; exact hf_6
        clear ho_18 hs_20 hn_19
        refine lv_iconst (v := 1) hx hb dX5_take_33 (by decide) ?_
        subst hQ
        have hI9 := hw.2.1
        have hF9 := hw.2.2.1
        have hS9 := hw.2.2.2
        rw [hf0] at hF9
        exact W.zret (v := 1) hx hb hr rfl (fun t ht hW => ⟨⟨_, _, rfl, ⟨hI9, hF9⟩, hw.at ht⟩, hS9.F ht⟩) hS9.2.2 dX5_take_34
      · refine lv_iconst (v := 0) hx hb dX5_take_21 (by decide) ?_
        subst hQ
        have hI9 := hw.2.1
        have hF9 := hw.2.2.1
        have hS9 := hw.2.2.2
        rw [hf0] at hF9
        exact W.zret (v := 0) hx hb hr rfl (fun t ht hW => ⟨⟨_, _, rfl, ⟨hI9, hF9⟩, hw.at ht⟩, hS9.F ht⟩) hS9.2.2 dX5_take_22

set_option maxHeartbeats 4000000 in
set_option maxRecDepth 100000 in
theorem k_X5_rootOf (l : Launch) (dC : Nat → ClassId) (dI : Nat → Nat → Nat) (cI cS cP cA : ClassId) (L : List Nat) (tg : Nat → Nat) (f : Nat → va_E) (hN : L.Nodup) (hT : ∀ a : Nat, a ∈ L → tg a < 13) (hI : PI cI cS cP cA L tg f) (h0 : Nat) (hm_h0 : h0 ∈ L) (ht_h0 : tg h0 = 6) (k0 : Nat) (h_k0 : k0 ≤ 11) : Met l yX5_rootOf wsX5_rootOf ({ frames := 0, cells := 0, slots := 0, locals := 0 }) (va_Pc [.ref h0, .int (nI k0)] (tPre dC dI cI cS cP cA L f)) (vp_Si (fun r => True)) 0 0 (fun _ => False) := by
  refine Met.ofW (cc := cX5_rootOf) (maxL := 4) (ret := (some .int)) (by decide) rfl ?_
  intro p e s m args below meth c s₁ B hml hv
  obtain ⟨rfl, hP, hK, hcm⟩ := hv
  have hx := B.exec
  have hb := B.bytes
  have hr := B.returns
  have hts := atoms_spec (ws := wsX5_rootOf) B.pre
  have hown : s.vm.findClass RX5 = some m.cls := findClass_of_methodNamed B.named
  have hlocks := B.notSynchronized
  have hin_X5 : ∀ w ∈ u_ws RX5 TX5 11, w ∈ wsX5_rootOf := by decide +kernel
  have hin_X1 : ∀ w ∈ u_ws RX1 TX1 9, w ∈ wsX5_rootOf := by decide +kernel
  have hl := lv_entry ([.ref h0, .int (nI k0)]) (n := 4) (Nat.le_of_ble_eq_true rfl)
  rw [lg_entry_eq]
  generalize (lg_sl ([.ref h0, .int (nI k0)]) ++ List.replicate (4 - (lg_sl ([.ref h0, .int (nI k0)])).length) Slot.unset).toArray = ls at hl ⊢
  have hl : lv_has ls 4 [(0, .ref h0), (1, .int (nI k0))] := hl
  generalize hQ : MQ below (vp_Si (fun r => True)) [.ref h0, .int (nI k0)].toArray s 0 0 (fun _ => False) = Q
  obtain ⟨f0, hf0⟩ : ∃ g : Nat → va_E, g = f := ⟨_, rfl⟩
  have hw : PW dC dI cI cS cP cA L tg (fun _ => false) f0 s.heap f s.heap [] := by rw [hf0]; exact PW.start hP hI
  clear hP
  refine lv_iload_n hx hb dX5_rootOf_0 rfl (lv_at hl 1 rfl) ?_
  refine lv_istore_n (lv' := [(2, .int (nI k0)), (0, .ref h0), (1, .int (nI k0))]) hx hb dX5_rootOf_1 rfl hl (by decide) rfl (fun ls hl => ?_)
  refine lv_iconst (v := 0) hx hb dX5_rootOf_2 (by decide) ?_
  refine lv_istore_n (lv' := [(3, .int 0), (2, .int (nI k0)), (0, .ref h0), (1, .int (nI k0))]) hx hb dX5_rootOf_3 rfl hl (by decide) rfl (fun ls hl => ?_)
  have hl_4 : ∀ (fu : Nat) (r0 : Nat) (i : Nat), 12 - i < fu → (r0 ≤ 11) → (i ≤ 12) → ∀ (ls : Array Slot), lv_has ls 4 [(3, .int (nI i)), (2, .int (nI r0)), (0, .ref h0), (1, .int (nI k0))] → W p l e (headSpec wsX5_rootOf ({ frames := 0, cells := 0, slots := 0, locals := 0 })).room s m [.ref h0, .int (nI k0)].toArray below meth c s.heap [] 0 0 Q (F0 m 4 ls []) := by
    intro fu
    induction fu with
    | zero => intro r0 i hm9; exact absurd hm9 (Nat.not_lt_zero _)
    | succ fu ih_4 =>
      intro r0 i hm_4 h_r0 h_i ls hl
      refine lv_iload_n hx hb dX5_rootOf_4 rfl (lv_at hl 0 rfl) ?_
      refine lv_bipush (v := 12) hx hb dX5_rootOf_5 (by decide) ?_
      refine lv_icmp_ge (tgt := 39) hx hb dX5_rootOf_7 (by decide) (fun h_1 => ?_) (fun h_1 => ?_)
      · have nh_1 : 12 ≤ i := (nI_leI (a := 12) (b := i) (by omega) (by omega)).mp h_1
        refine lv_iload_n hx hb dX5_rootOf_39 rfl (lv_at hl 1 rfl) ?_
        subst hQ
        exact W.iret (v := nI r0) hx hb hr (fun t ht hW => ⟨_, rfl, trivial, ht⟩) (fun _ h => by cases h) dX5_rootOf_40
      · have nh_1 : ¬ 12 ≤ i := fun q9 => h_1 ((nI_leI (a := 12) (b := i) (by omega) (by omega)).mpr q9)
        refine lv_aload_n hx hb dX5_rootOf_10 rfl (lv_at hl 2 rfl) ?_
        refine tp_get (ci := 4) (C := RX5) (T := TX5) (N := 11) hx hb hts hin_X5 hown hK hw hm_h0 6 ht_h0 (fun _ => rfl) rfl 5 (by decide) rfl (hts (.fieldLink RX5 21 "DayBench" "sayings" "[LDayBench$Saying;") (by decide +kernel)) (fun _ h9 => h9) dX5_rootOf_11 (fun v_2 hf_3 hv_4 => ?_)
        obtain ⟨b_5, eb_5, hm_b_5, ht_b_5⟩ := hv_4
        subst eb_5
        refine lv_iload_n hx hb dX5_rootOf_14 rfl (lv_at hl 1 rfl) ?_
        refine tp_aald hx hb hK hw hm_b_5 9 ht_b_5 1 (n := 12) (t' := 0) (fun _ => rfl) rfl rfl (vp_in_nI (by omega) (by omega)) dX5_rootOf_15 (fun b_6 hf_7 hm_b_6 ht_b_6 => ?_)
        refine tp_get (ci := 0) (C := RX1) (T := TX1) (N := 9) hx hb hts hin_X1 hown hK hw hm_b_6 0 ht_b_6 (fun _ => rfl) rfl 5 (by decide) rfl (hts (.fieldLink RX5 110 "DayBench$Saying" "copyOf" "I") (by decide +kernel)) (fun _ h9 => h9) dX5_rootOf_16 (fun v_8 hf_9 hv_10 => ?_)
        obtain ⟨y_11, ey_11, hb_y_11⟩ := hv_10
        subst ey_11
        refine lv_iconst (v := (-1)) hx hb dX5_rootOf_19 (by decide) ?_
        refine lv_icmp_eq (tgt := 39) hx hb dX5_rootOf_20 (by decide) (fun h_12 => ?_) (fun h_12 => ?_)
        · refine lv_iload_n hx hb dX5_rootOf_39 rfl (lv_at hl 1 rfl) ?_
          subst hQ
          exact W.iret (v := nI r0) hx hb hr (fun t ht hW => ⟨_, rfl, trivial, ht⟩) (fun _ h => by cases h) dX5_rootOf_40
        · refine lv_aload_n hx hb dX5_rootOf_23 rfl (lv_at hl 2 rfl) ?_
          refine tp_getK (ci := 4) (C := RX5) (T := TX5) (N := 11) hx hb hts hin_X5 hown hK hw hm_h0 6 ht_h0 (fun _ => rfl) rfl 5 (by decide) hf_3 (hts (.fieldLink RX5 21 "DayBench" "sayings" "[LDayBench$Saying;") (by decide +kernel)) (fun _ h9 => h9) dX5_rootOf_24 ?_
          refine lv_iload_n hx hb dX5_rootOf_27 rfl (lv_at hl 1 rfl) ?_
          refine tp_aaldK hx hb hK hw hm_b_5 9 ht_b_5 1 (n := 12) (t' := 0) (fun _ => rfl) rfl rfl (vp_in_nI (by omega) (by omega)) hf_7 dX5_rootOf_28 ?_
          refine tp_getK (ci := 0) (C := RX1) (T := TX1) (N := 9) hx hb hts hin_X1 hown hK hw hm_b_6 0 ht_b_6 (fun _ => rfl) rfl 5 (by decide) hf_9 (hts (.fieldLink RX5 110 "DayBench$Saying" "copyOf" "I") (by decide +kernel)) (fun _ h9 => h9) dX5_rootOf_29 ?_
          obtain ⟨q_13, hq_13, eq_13⟩ := hb_y_11.resolve_left h_12
          subst eq_13
          refine lv_istore_n (lv' := [(2, .int (nI q_13)), (3, .int (nI i)), (0, .ref h0), (1, .int (nI k0))]) hx hb dX5_rootOf_32 rfl hl (by decide) rfl (fun ls hl => ?_)
          refine lv_iinc (v := nI (i + 1)) (lv' := [(3, .int (nI (i + 1))), (2, .int (nI q_13)), (0, .ref h0), (1, .int (nI k0))]) hx hb dX5_rootOf_33 hl (k := 1) rfl (nI_1 _) (by decide) rfl (fun ls hl => ?_)
          refine lv_goto (tgt := 4) hx hb dX5_rootOf_36 (by decide) ?_
          exact ih_4 q_13 ((i + 1)) (by omega) (by omega) (by omega) ls (lv_sub hl [0, 1, 2, 3] rfl)
  exact hl_4 _ k0 0 (Nat.lt_succ_self _) (by omega) (by omega) ls (lv_sub hl [0, 1, 2, 3] rfl)

set_option maxHeartbeats 4000000 in
set_option maxRecDepth 100000 in
theorem k_X5_look (l : Launch) (dC : Nat → ClassId) (dI : Nat → Nat → Nat) (cI cS cP cA : ClassId) (L : List Nat) (tg : Nat → Nat) (f : Nat → va_E) (hN : L.Nodup) (hT : ∀ a : Nat, a ∈ L → tg a < 13) (hI : PI cI cS cP cA L tg f) (h0 : Nat) (hm_h0 : h0 ∈ L) (ht_h0 : tg h0 = 6) (p0 : Int32) (p1 : Int32) : Met l yX5_look wsX5_look ({ frames := 1, cells := 0, slots := 0, locals := 23 }) (va_Pc [.ref h0, .int p0, .int p1] (tPre dC dI cI cS cP cA L f)) (vp_Si (fun r => True)) 0 0 (fun _ => False) := by
  refine Met.ofW (cc := cX5_look) (maxL := 4) (ret := (some .int)) (by decide) rfl ?_
  intro p e s m args below meth c s₁ B hml hv
  obtain ⟨rfl, hP, hK, hcm⟩ := hv
  have hx := B.exec
  have hb := B.bytes
  have hr := B.returns
  have hts := atoms_spec (ws := wsX5_look) B.pre
  have hown : s.vm.findClass RX5 = some m.cls := findClass_of_methodNamed B.named
  have hlocks := B.notSynchronized
  have hin_X5 : ∀ w ∈ u_ws RX5 TX5 11, w ∈ wsX5_look := by decide +kernel
  have hin_X1 : ∀ w ∈ u_ws RX1 TX1 9, w ∈ wsX5_look := by decide +kernel
  have hin_X4 : ∀ w ∈ u_ws RX4 TX4 3, w ∈ wsX5_look := by decide +kernel
  have hl := lv_entry ([.ref h0, .int p0, .int p1]) (n := 4) (Nat.le_of_ble_eq_true rfl)
  rw [lg_entry_eq]
  generalize (lg_sl ([.ref h0, .int p0, .int p1]) ++ List.replicate (4 - (lg_sl ([.ref h0, .int p0, .int p1])).length) Slot.unset).toArray = ls at hl ⊢
  have hl : lv_has ls 4 [(0, .ref h0), (1, .int p0), (2, .int p1)] := hl
  generalize hQ : MQ below (vp_Si (fun r => True)) [.ref h0, .int p0, .int p1].toArray s 0 0 (fun _ => False) = Q
  obtain ⟨f0, hf0⟩ : ∃ g : Nat → va_E, g = f := ⟨_, rfl⟩
  have hw : PW dC dI cI cS cP cA L tg (fun _ => false) f0 s.heap f s.heap [] := by rw [hf0]; exact PW.start hP hI
  clear hP
  refine lv_aload_n hx hb dX5_look_0 rfl (lv_at hl 0 rfl) ?_
  refine lv_iload_n hx hb dX5_look_1 rfl (lv_at hl 1 rfl) ?_
  refine vp_callSi (va_Run.run (va_runV (As := [.int p0]) (rest := []) ⟨hx, hb, hml, hown, hts⟩ (k_X5_isSaying l dC dI cI cS cP cA L tg f hN hT hw.2.1 h0 hm_h0 ht_h0 p0) (cwV 1 hts gX5_look_X5_isSaying rfl rfl rfl (by decide +kernel) ⟨Nat.le_of_ble_eq_true rfl, Nat.le_of_ble_eq_true rfl⟩) ⟨tPre_blind, tp_recv hK hw hm_h0 6 ht_h0 (ci := 4) (fun _ => rfl) rfl, fun U hU hW => ⟨rfl, tPre_at hw hK hcm hU hW⟩⟩ rfl rfl hl.1 rfl (lv_room (Nat.le_of_ble_eq_true rfl)) dX5_look_2 ⟨Nat.le_of_ble_eq_true rfl, Nat.le_of_ble_eq_true rfl⟩)) (fun r_1 hr_1 => ?_)
  rcases hr_1 with er_1 | ⟨er_1, k_2, hk_2, ek_2⟩
  · subst er_1
    refine lv_if_ne (tgt := 10) hx hb dX5_look_5 (by decide) (fun h_3 => ?_) (fun h_3 => ?_)
    · exact (by first | exact absurd h_3 (by decide) | exact absurd (by decide) h_3)
    · refine lv_iconst (v := (-1)) hx hb dX5_look_8 (by decide) ?_
      subst hQ
      exact W.iret (v := (-1)) hx hb hr (fun t ht hW => ⟨_, rfl, trivial, ht⟩) (fun _ h => by cases h) dX5_look_9
  · subst er_1
    rw [ek_2] at hl
    refine lv_if_ne (tgt := 10) hx hb dX5_look_5 (by decide) (fun h_4 => ?_) (fun h_4 => ?_)
    · refine lv_aload_n hx hb dX5_look_10 rfl (lv_at hl 0 rfl) ?_
      refine tp_get (ci := 4) (C := RX5) (T := TX5) (N := 11) hx hb hts hin_X5 hown hK hw hm_h0 6 ht_h0 (fun _ => rfl) rfl 5 (by decide) rfl (hts (.fieldLink RX5 21 "DayBench" "sayings" "[LDayBench$Saying;") (by decide +kernel)) (fun _ h9 => h9) dX5_look_11 (fun v_5 hf_6 hv_7 => ?_)
      obtain ⟨b_8, eb_8, hm_b_8, ht_b_8⟩ := hv_7
      subst eb_8
      refine lv_iload_n hx hb dX5_look_14 rfl (lv_at hl 1 rfl) ?_
      refine tp_aald hx hb hK hw hm_b_8 9 ht_b_8 1 (n := 12) (t' := 0) (fun _ => rfl) rfl rfl (vp_in_nI (by omega) (by omega)) dX5_look_15 (fun b_9 hf_10 hm_b_9 ht_b_9 => ?_)
      clear hf_10
      refine lv_astore_n (lv' := [(3, .ref b_9), (0, .ref h0), (1, .int (nI k_2)), (2, .int p1)]) hx hb dX5_look_16 rfl hl (by decide) rfl (fun ls hl => ?_)
      refine lv_iload_n hx hb dX5_look_17 rfl (lv_at hl 3 rfl) ?_
      by_cases h_11 : p1 = 0
      · refine lv_tableIn (tgt := 60) hx hb dX5_look_18 (by rw [h_11]; decide) (by rw [h_11]; decide) (by rw [h_11]; rfl) (by decide) ?_
        refine lv_aload_n hx hb dX5_look_60 rfl (lv_at hl 0 rfl) ?_
        refine tp_get (ci := 0) (C := RX1) (T := TX1) (N := 9) hx hb hts hin_X1 hown hK hw hm_b_9 0 ht_b_9 (fun _ => rfl) rfl 1 (by decide) rfl (hts (.fieldLink RX5 117 "DayBench$Saying" "event" "I") (by decide +kernel)) (fun _ h9 => h9) dX5_look_61 (fun v_12 hf_13 hv_14 => ?_)
        obtain ⟨k_15, ek_15, hk_k_15⟩ := hv_14
        subst ek_15
        clear hf_13
        subst hQ
        exact W.iret (v := nI k_15) hx hb hr (fun t ht hW => ⟨_, rfl, trivial, ht⟩) (fun _ h => by cases h) dX5_look_64
      by_cases h_16 : p1 = 1
      · refine lv_tableIn (tgt := 65) hx hb dX5_look_18 (by rw [h_16]; decide) (by rw [h_16]; decide) (by rw [h_16]; rfl) (by decide) ?_
        refine lv_aload_n hx hb dX5_look_65 rfl (lv_at hl 0 rfl) ?_
        refine tp_get (ci := 0) (C := RX1) (T := TX1) (N := 9) hx hb hts hin_X1 hown hK hw hm_b_9 0 ht_b_9 (fun _ => rfl) rfl 2 (by decide) rfl (hts (.fieldLink RX5 120 "DayBench$Saying" "what" "I") (by decide +kernel)) (fun _ h9 => h9) dX5_look_66 (fun v_17 hf_18 hv_19 => ?_)
        obtain ⟨y_20, ey_20⟩ := hv_19
        subst ey_20
        clear hf_18
        subst hQ
        exact W.iret (v := y_20) hx hb hr (fun t ht hW => ⟨_, rfl, trivial, ht⟩) (fun _ h => by cases h) dX5_look_69
      by_cases h_21 : p1 = 2
      · refine lv_tableIn (tgt := 70) hx hb dX5_look_18 (by rw [h_21]; decide) (by rw [h_21]; decide) (by rw [h_21]; rfl) (by decide) ?_
        refine lv_aload_n hx hb dX5_look_70 rfl (lv_at hl 0 rfl) ?_
        refine tp_get (ci := 0) (C := RX1) (T := TX1) (N := 9) hx hb hts hin_X1 hown hK hw hm_b_9 0 ht_b_9 (fun _ => rfl) rfl 3 (by decide) rfl (hts (.fieldLink RX5 123 "DayBench$Saying" "weight" "I") (by decide +kernel)) (fun _ h9 => h9) dX5_look_71 (fun v_22 hf_23 hv_24 => ?_)
        obtain ⟨y_25, ey_25⟩ := hv_24
        subst ey_25
        clear hf_23
        subst hQ
        exact W.iret (v := y_25) hx hb hr (fun t ht hW => ⟨_, rfl, trivial, ht⟩) (fun _ h => by cases h) dX5_look_74
      by_cases h_26 : p1 = 3
      · refine lv_tableIn (tgt := 75) hx hb dX5_look_18 (by rw [h_26]; decide) (by rw [h_26]; decide) (by rw [h_26]; rfl) (by decide) ?_
        refine lv_aload_n hx hb dX5_look_75 rfl (lv_at hl 0 rfl) ?_
        refine tp_get (ci := 0) (C := RX1) (T := TX1) (N := 9) hx hb hts hin_X1 hown hK hw hm_b_9 0 ht_b_9 (fun _ => rfl) rfl 4 (by decide) rfl (hts (.fieldLink RX5 113 "DayBench$Saying" "taken" "Z") (by decide +kernel)) (fun _ h9 => h9) dX5_look_76 (fun v_27 hf_28 hv_29 => ?_)
        obtain ⟨y_30, ey_30, hb_y_30⟩ := hv_29
        subst ey_30
        clear hf_28
        refine lv_if_eq (tgt := 86) hx hb dX5_look_79 (by decide) (fun h_31 => ?_) (fun h_31 => ?_)
        · refine lv_iconst (v := 0) hx hb dX5_look_86 (by decide) ?_
          subst hQ
          exact W.iret (v := 0) hx hb hr (fun t ht hW => ⟨_, rfl, trivial, ht⟩) (fun _ h => by cases h) dX5_look_87
        · refine lv_iconst (v := 1) hx hb dX5_look_82 (by decide) ?_
          refine lv_goto (tgt := 87) hx hb dX5_look_83 (by decide) ?_
          subst hQ
          exact W.iret (v := 1) hx hb hr (fun t ht hW => ⟨_, rfl, trivial, ht⟩) (fun _ h => by cases h) dX5_look_87
      by_cases h_32 : p1 = 4
      · refine lv_tableIn (tgt := 88) hx hb dX5_look_18 (by rw [h_32]; decide) (by rw [h_32]; decide) (by rw [h_32]; rfl) (by decide) ?_
        refine lv_aload_n hx hb dX5_look_88 rfl (lv_at hl 0 rfl) ?_
        refine tp_get (ci := 0) (C := RX1) (T := TX1) (N := 9) hx hb hts hin_X1 hown hK hw hm_b_9 0 ht_b_9 (fun _ => rfl) rfl 5 (by decide) rfl (hts (.fieldLink RX5 110 "DayBench$Saying" "copyOf" "I") (by decide +kernel)) (fun _ h9 => h9) dX5_look_89 (fun v_33 hf_34 hv_35 => ?_)
        obtain ⟨y_36, ey_36, hb_y_36⟩ := hv_35
        subst ey_36
        clear hf_34
        subst hQ
        exact W.iret (v := y_36) hx hb hr (fun t ht hW => ⟨_, rfl, trivial, ht⟩) (fun _ h => by cases h) dX5_look_92
      by_cases h_37 : p1 = 5
      · refine lv_tableIn (tgt := 93) hx hb dX5_look_18 (by rw [h_37]; decide) (by rw [h_37]; decide) (by rw [h_37]; rfl) (by decide) ?_
        refine lv_aload_n hx hb dX5_look_93 rfl (lv_at hl 1 rfl) ?_
        refine lv_iload_n hx hb dX5_look_94 rfl (lv_at hl 2 rfl) ?_
        refine vp_callSi (va_Run.run (va_runV (As := [.int (nI k_2)]) (rest := []) ⟨hx, hb, hml, hown, hts⟩ (k_X5_rootOf l dC dI cI cS cP cA L tg f hN hT hw.2.1 h0 hm_h0 ht_h0 k_2 (by first | omega | decide)) (cwV 1 hts gX5_look_X5_rootOf rfl rfl rfl (by decide +kernel) ⟨Nat.le_of_ble_eq_true rfl, Nat.le_of_ble_eq_true rfl⟩) ⟨tPre_blind, tp_recv hK hw hm_h0 6 ht_h0 (ci := 4) (fun _ => rfl) rfl, fun U hU hW => ⟨rfl, tPre_at hw hK hcm hU hW⟩⟩ rfl rfl hl.1 rfl (lv_room (Nat.le_of_ble_eq_true rfl)) dX5_look_95 ⟨Nat.le_of_ble_eq_true rfl, Nat.le_of_ble_eq_true rfl⟩)) (fun r_38 hr_38 => ?_)
        subst hQ
        exact W.iret (v := r_38) hx hb hr (fun t ht hW => ⟨_, rfl, trivial, ht⟩) (fun _ h => by cases h) dX5_look_98
      by_cases h_39 : p1 = 6
      · refine lv_tableIn (tgt := 99) hx hb dX5_look_18 (by rw [h_39]; decide) (by rw [h_39]; decide) (by rw [h_39]; rfl) (by decide) ?_
        refine lv_aload_n hx hb dX5_look_99 rfl (lv_at hl 0 rfl) ?_
        refine tp_get (ci := 0) (C := RX1) (T := TX1) (N := 9) hx hb hts hin_X1 hown hK hw hm_b_9 0 ht_b_9 (fun _ => rfl) rfl 0 (by decide) rfl (hts (.fieldLink RX5 80 "DayBench$Saying" "spans" "LDayBench$Spans;") (by decide +kernel)) (fun _ h9 => h9) dX5_look_100 (fun v_40 hf_41 hv_42 => ?_)
        obtain ⟨b_43, eb_43, hm_b_43, ht_b_43⟩ := hv_42
        subst eb_43
        refine tp_get (ci := 3) (C := RX4) (T := TX4) (N := 3) hx hb hts hin_X4 hown hK hw hm_b_43 1 ht_b_43 (fun _ => rfl) rfl 2 (by decide) rfl (hts (.fieldLink RX5 101 "DayBench$Spans" "size" "I") (by decide +kernel)) (fun _ h9 => h9) dX5_look_103 (fun v_44 hf_45 hv_46 => ?_)
        obtain ⟨k_47, ek_47, hk_k_47⟩ := hv_46
        subst ek_47
        clear hf_45
        subst hQ
        exact W.iret (v := nI k_47) hx hb hr (fun t ht hW => ⟨_, rfl, trivial, ht⟩) (fun _ h => by cases h) dX5_look_106
      refine lv_tableOut (tgt := 107) hx hb dX5_look_18 (sw_out7 h_11 h_16 h_21 h_26 h_32 h_37 h_39) (by decide) ?_
      refine lv_iconst (v := (-1)) hx hb dX5_look_107 (by decide) ?_
      subst hQ
      exact W.iret (v := (-1)) hx hb hr (fun t ht hW => ⟨_, rfl, trivial, ht⟩) (fun _ h => by cases h) dX5_look_108
    · exact (by first | exact absurd h_4 (by decide) | exact absurd (by decide) h_4)

set_option maxHeartbeats 4000000 in
set_option maxRecDepth 100000 in
theorem k_X5_span (l : Launch) (dC : Nat → ClassId) (dI : Nat → Nat → Nat) (cI cS cP cA : ClassId) (L : List Nat) (tg : Nat → Nat) (f : Nat → va_E) (hN : L.Nodup) (hT : ∀ a : Nat, a ∈ L → tg a < 13) (hI : PI cI cS cP cA L tg f) (h0 : Nat) (hm_h0 : h0 ∈ L) (ht_h0 : tg h0 = 6) (p0 : Int32) (p1 : Int32) (p2 : Int32) (h_p2 : p2 = 0 ∨ p2 = 1) : Met l yX5_span wsX5_span ({ frames := 1, cells := 0, slots := 0, locals := 21 }) (va_Pc [.ref h0, .int p0, .int p1, .int p2] (tPre dC dI cI cS cP cA L f)) (vp_Si (fun r => True)) 0 0 (fun _ => False) := by
  refine Met.ofW (cc := cX5_span) (maxL := 5) (ret := (some .int)) (by decide) rfl ?_
  intro p e s m args below meth c s₁ B hml hv
  obtain ⟨rfl, hP, hK, hcm⟩ := hv
  have hx := B.exec
  have hb := B.bytes
  have hr := B.returns
  have hts := atoms_spec (ws := wsX5_span) B.pre
  have hown : s.vm.findClass RX5 = some m.cls := findClass_of_methodNamed B.named
  have hlocks := B.notSynchronized
  have hin_X5 : ∀ w ∈ u_ws RX5 TX5 11, w ∈ wsX5_span := by decide +kernel
  have hin_X1 : ∀ w ∈ u_ws RX1 TX1 9, w ∈ wsX5_span := by decide +kernel
  have hin_X4 : ∀ w ∈ u_ws RX4 TX4 3, w ∈ wsX5_span := by decide +kernel
  have hl := lv_entry ([.ref h0, .int p0, .int p1, .int p2]) (n := 5) (Nat.le_of_ble_eq_true rfl)
  rw [lg_entry_eq]
  generalize (lg_sl ([.ref h0, .int p0, .int p1, .int p2]) ++ List.replicate (5 - (lg_sl ([.ref h0, .int p0, .int p1, .int p2])).length) Slot.unset).toArray = ls at hl ⊢
  have hl : lv_has ls 5 [(0, .ref h0), (1, .int p0), (2, .int p1), (3, .int p2)] := hl
  generalize hQ : MQ below (vp_Si (fun r => True)) [.ref h0, .int p0, .int p1, .int p2].toArray s 0 0 (fun _ => False) = Q
  obtain ⟨f0, hf0⟩ : ∃ g : Nat → va_E, g = f := ⟨_, rfl⟩
  have hw : PW dC dI cI cS cP cA L tg (fun _ => false) f0 s.heap f s.heap [] := by rw [hf0]; exact PW.start hP hI
  clear hP
  refine lv_aload_n hx hb dX5_span_0 rfl (lv_at hl 0 rfl) ?_
  refine lv_iload_n hx hb dX5_span_1 rfl (lv_at hl 1 rfl) ?_
  refine vp_callSi (va_Run.run (va_runV (As := [.int p0]) (rest := []) ⟨hx, hb, hml, hown, hts⟩ (k_X5_isSaying l dC dI cI cS cP cA L tg f hN hT hw.2.1 h0 hm_h0 ht_h0 p0) (cwV 1 hts gX5_span_X5_isSaying rfl rfl rfl (by decide +kernel) ⟨Nat.le_of_ble_eq_true rfl, Nat.le_of_ble_eq_true rfl⟩) ⟨tPre_blind, tp_recv hK hw hm_h0 6 ht_h0 (ci := 4) (fun _ => rfl) rfl, fun U hU hW => ⟨rfl, tPre_at hw hK hcm hU hW⟩⟩ rfl rfl hl.1 rfl (lv_room (Nat.le_of_ble_eq_true rfl)) dX5_span_2 ⟨Nat.le_of_ble_eq_true rfl, Nat.le_of_ble_eq_true rfl⟩)) (fun r_1 hr_1 => ?_)
  rcases hr_1 with er_1 | ⟨er_1, k_2, hk_2, ek_2⟩
  · subst er_1
    refine lv_if_eq (tgt := 24) hx hb dX5_span_5 (by decide) (fun h_3 => ?_) (fun h_3 => ?_)
    · refine lv_iconst (v := (-1)) hx hb dX5_span_24 (by decide) ?_
      subst hQ
      exact W.iret (v := (-1)) hx hb hr (fun t ht hW => ⟨_, rfl, trivial, ht⟩) (fun _ h => by cases h) dX5_span_25
    · exact (by first | exact absurd h_3 (by decide) | exact absurd (by decide) h_3)
  · subst er_1
    rw [ek_2] at hl
    refine lv_if_eq (tgt := 24) hx hb dX5_span_5 (by decide) (fun h_4 => ?_) (fun h_4 => ?_)
    · exact (by first | exact absurd h_4 (by decide) | exact absurd (by decide) h_4)
    · refine lv_aload_n hx hb dX5_span_8 rfl (lv_at hl 0 rfl) ?_
      refine tp_get (ci := 4) (C := RX5) (T := TX5) (N := 11) hx hb hts hin_X5 hown hK hw hm_h0 6 ht_h0 (fun _ => rfl) rfl 5 (by decide) rfl (hts (.fieldLink RX5 21 "DayBench" "sayings" "[LDayBench$Saying;") (by decide +kernel)) (fun _ h9 => h9) dX5_span_9 (fun v_5 hf_6 hv_7 => ?_)
      obtain ⟨b_8, eb_8, hm_b_8, ht_b_8⟩ := hv_7
      subst eb_8
      refine lv_iload_n hx hb dX5_span_12 rfl (lv_at hl 1 rfl) ?_
      refine tp_aald hx hb hK hw hm_b_8 9 ht_b_8 1 (n := 12) (t' := 0) (fun _ => rfl) rfl rfl (vp_in_nI (by omega) (by omega)) dX5_span_13 (fun b_9 hf_10 hm_b_9 ht_b_9 => ?_)
      clear hf_10
      refine tp_get (ci := 0) (C := RX1) (T := TX1) (N := 9) hx hb hts hin_X1 hown hK hw hm_b_9 0 ht_b_9 (fun _ => rfl) rfl 0 (by decide) rfl (hts (.fieldLink RX5 80 "DayBench$Saying" "spans" "LDayBench$Spans;") (by decide +kernel)) (fun _ h9 => h9) dX5_span_14 (fun v_11 hf_12 hv_13 => ?_)
      obtain ⟨b_14, eb_14, hm_b_14, ht_b_14⟩ := hv_13
      subst eb_14
      refine lv_iload_n hx hb dX5_span_17 rfl (lv_at hl 2 rfl) ?_
      refine vp_callSi (va_Run.run (va_runV (As := [.int p1]) (rest := []) ⟨hx, hb, hml, hown, hts⟩ (k_X4_has l dC dI cI cS cP cA L tg f hN hT hw.2.1 b_14 hm_b_14 ht_b_14 p1) (cwV 1 hts gX5_span_X4_has rfl rfl rfl (by decide +kernel) ⟨Nat.le_of_ble_eq_true rfl, Nat.le_of_ble_eq_true rfl⟩) ⟨tPre_blind, tp_recv hK hw hm_b_14 1 ht_b_14 (ci := 3) (fun _ => rfl) rfl, fun U hU hW => ⟨rfl, tPre_at hw hK hcm hU hW⟩⟩ rfl rfl hl.1 rfl (lv_room (Nat.le_of_ble_eq_true rfl)) dX5_span_18 ⟨Nat.le_of_ble_eq_true rfl, Nat.le_of_ble_eq_true rfl⟩)) (fun r_15 hr_15 => ?_)
      rcases hr_15 with er_15 | ⟨er_15, k_16, hk_16, ek_16⟩
      · subst er_15
        refine lv_if_ne (tgt := 26) hx hb dX5_span_21 (by decide) (fun h_17 => ?_) (fun h_17 => ?_)
        · exact (by first | exact absurd h_17 (by decide) | exact absurd (by decide) h_17)
        · refine lv_iconst (v := (-1)) hx hb dX5_span_24 (by decide) ?_
          subst hQ
          exact W.iret (v := (-1)) hx hb hr (fun t ht hW => ⟨_, rfl, trivial, ht⟩) (fun _ h => by cases h) dX5_span_25
      · subst er_15
        rw [ek_16] at hl
        refine lv_if_ne (tgt := 26) hx hb dX5_span_21 (by decide) (fun h_18 => ?_) (fun h_18 => ?_)
        · refine lv_aload_n hx hb dX5_span_26 rfl (lv_at hl 0 rfl) ?_
          refine tp_getK (ci := 4) (C := RX5) (T := TX5) (N := 11) hx hb hts hin_X5 hown hK hw hm_h0 6 ht_h0 (fun _ => rfl) rfl 5 (by decide) hf_6 (hts (.fieldLink RX5 21 "DayBench" "sayings" "[LDayBench$Saying;") (by decide +kernel)) (fun _ h9 => h9) dX5_span_27 ?_
          refine lv_iload_n hx hb dX5_span_30 rfl (lv_at hl 1 rfl) ?_
          refine tp_aald hx hb hK hw hm_b_8 9 ht_b_8 1 (n := 12) (t' := 0) (fun _ => rfl) rfl rfl (vp_in_nI (by omega) (by omega)) dX5_span_31 (fun b_19 hf_20 hm_b_19 ht_b_19 => ?_)
          clear hf_20
          refine tp_get (ci := 0) (C := RX1) (T := TX1) (N := 9) hx hb hts hin_X1 hown hK hw hm_b_19 0 ht_b_19 (fun _ => rfl) rfl 0 (by decide) rfl (hts (.fieldLink RX5 80 "DayBench$Saying" "spans" "LDayBench$Spans;") (by decide +kernel)) (fun _ h9 => h9) dX5_span_32 (fun v_21 hf_22 hv_23 => ?_)
          obtain ⟨b_24, eb_24, hm_b_24, ht_b_24⟩ := hv_23
          subst eb_24
          refine lv_astore (lv' := [(4, .ref b_24), (0, .ref h0), (1, .int (nI k_2)), (2, .int (nI k_16)), (3, .int p2)]) hx hb dX5_span_35 hl (by decide) rfl (fun ls hl => ?_)
          refine lv_iload_n hx hb dX5_span_37 rfl (lv_at hl 4 rfl) ?_
          refine lv_if_eq (tgt := 51) hx hb dX5_span_38 (by decide) (fun h_25 => ?_) (fun h_25 => ?_)
          · refine lv_aload hx hb dX5_span_51 (lv_at hl 0 rfl) ?_
            refine tp_get (ci := 3) (C := RX4) (T := TX4) (N := 3) hx hb hts hin_X4 hown hK hw hm_b_24 1 ht_b_24 (fun _ => rfl) rfl 0 (by decide) rfl (hts (.fieldLink RX5 136 "DayBench$Spans" "from" "[I") (by decide +kernel)) (fun _ h9 => h9) dX5_span_53 (fun v_26 hf_27 hv_28 => ?_)
            obtain ⟨b_29, eb_29, hm_b_29, ht_b_29⟩ := hv_28
            subst eb_29
            refine lv_iload_n hx hb dX5_span_56 rfl (lv_at hl 3 rfl) ?_
            refine tp_iald hx hb hK hw hm_b_29 2 ht_b_29 (n := 10) (fun _ => rfl) (vp_in_nI (by omega) (by omega)) dX5_span_57 (fun y_30 => ?_)
            subst hQ
            exact W.iret (v := y_30) hx hb hr (fun t ht hW => ⟨_, rfl, trivial, ht⟩) (fun _ h => by cases h) dX5_span_58
          · refine lv_aload hx hb dX5_span_41 (lv_at hl 0 rfl) ?_
            refine tp_get (ci := 3) (C := RX4) (T := TX4) (N := 3) hx hb hts hin_X4 hown hK hw hm_b_24 1 ht_b_24 (fun _ => rfl) rfl 1 (by decide) rfl (hts (.fieldLink RX5 133 "DayBench$Spans" "to" "[I") (by decide +kernel)) (fun _ h9 => h9) dX5_span_43 (fun v_31 hf_32 hv_33 => ?_)
            obtain ⟨b_34, eb_34, hm_b_34, ht_b_34⟩ := hv_33
            subst eb_34
            refine lv_iload_n hx hb dX5_span_46 rfl (lv_at hl 3 rfl) ?_
            refine tp_iald hx hb hK hw hm_b_34 2 ht_b_34 (n := 10) (fun _ => rfl) (vp_in_nI (by omega) (by omega)) dX5_span_47 (fun y_35 => ?_)
            refine lv_goto (tgt := 58) hx hb dX5_span_48 (by decide) ?_
            subst hQ
            exact W.iret (v := y_35) hx hb hr (fun t ht hW => ⟨_, rfl, trivial, ht⟩) (fun _ h => by cases h) dX5_span_58
        · exact (by first | exact absurd h_18 (by decide) | exact absurd (by decide) h_18)

set_option maxHeartbeats 4000000 in
set_option maxRecDepth 100000 in
theorem k_X5_takenSet (l : Launch) (dC : Nat → ClassId) (dI : Nat → Nat → Nat) (cI cS cP cA : ClassId) (L : List Nat) (tg : Nat → Nat) (f : Nat → va_E) (hN : L.Nodup) (hT : ∀ a : Nat, a ∈ L → tg a < 13) (hI : PI cI cS cP cA L tg f) (h0 : Nat) (hm_h0 : h0 ∈ L) (ht_h0 : tg h0 = 6) : Met l yX5_takenSet wsX5_takenSet ({ frames := 0, cells := 0, slots := 0, locals := 0 }) (va_Pc [.ref h0] (tPre dC dI cI cS cP cA L f)) (vp_Si (fun r => True)) 0 0 (fun _ => False) := by
  refine Met.ofW (cc := cX5_takenSet) (maxL := 3) (ret := (some .int)) (by decide) rfl ?_
  intro p e s m args below meth c s₁ B hml hv
  obtain ⟨rfl, hP, hK, hcm⟩ := hv
  have hx := B.exec
  have hb := B.bytes
  have hr := B.returns
  have hts := atoms_spec (ws := wsX5_takenSet) B.pre
  have hown : s.vm.findClass RX5 = some m.cls := findClass_of_methodNamed B.named
  have hlocks := B.notSynchronized
  have hin_X5 : ∀ w ∈ u_ws RX5 TX5 11, w ∈ wsX5_takenSet := by decide +kernel
  have hin_X1 : ∀ w ∈ u_ws RX1 TX1 9, w ∈ wsX5_takenSet := by decide +kernel
  have hl := lv_entry ([.ref h0]) (n := 3) (Nat.le_of_ble_eq_true rfl)
  rw [lg_entry_eq]
  generalize (lg_sl ([.ref h0]) ++ List.replicate (3 - (lg_sl ([.ref h0])).length) Slot.unset).toArray = ls at hl ⊢
  have hl : lv_has ls 3 [(0, .ref h0)] := hl
  generalize hQ : MQ below (vp_Si (fun r => True)) [.ref h0].toArray s 0 0 (fun _ => False) = Q
  obtain ⟨f0, hf0⟩ : ∃ g : Nat → va_E, g = f := ⟨_, rfl⟩
  have hw : PW dC dI cI cS cP cA L tg (fun _ => false) f0 s.heap f s.heap [] := by rw [hf0]; exact PW.start hP hI
  clear hP
  refine lv_iconst (v := 0) hx hb dX5_takenSet_0 (by decide) ?_
  refine lv_istore_n (lv' := [(1, .int 0), (0, .ref h0)]) hx hb dX5_takenSet_1 rfl hl (by decide) rfl (fun ls hl => ?_)
  refine lv_iconst (v := 0) hx hb dX5_takenSet_2 (by decide) ?_
  refine lv_istore_n (lv' := [(2, .int 0), (1, .int 0), (0, .ref h0)]) hx hb dX5_takenSet_3 rfl hl (by decide) rfl (fun ls hl => ?_)
  have hl_4 : ∀ (fu : Nat) (ac : Int32) (i : Nat), 12 - i < fu → (i ≤ 12) → ∀ (ls : Array Slot), lv_has ls 3 [(2, .int (nI i)), (1, .int ac), (0, .ref h0)] → W p l e (headSpec wsX5_takenSet ({ frames := 0, cells := 0, slots := 0, locals := 0 })).room s m [.ref h0].toArray below meth c s.heap [] 0 0 Q (F0 m 4 ls []) := by
    intro fu
    induction fu with
    | zero => intro ac i hm9; exact absurd hm9 (Nat.not_lt_zero _)
    | succ fu ih_4 =>
      intro ac i hm_4 h_i ls hl
      refine lv_iload_n hx hb dX5_takenSet_4 rfl (lv_at hl 0 rfl) ?_
      refine lv_aload_n hx hb dX5_takenSet_5 rfl (lv_at hl 2 rfl) ?_
      refine tp_get (ci := 4) (C := RX5) (T := TX5) (N := 11) hx hb hts hin_X5 hown hK hw hm_h0 6 ht_h0 (fun _ => rfl) rfl 6 (by decide) rfl (hts (.fieldLink RX5 74 "DayBench" "sayingsMade" "I") (by decide +kernel)) (fun _ h9 => h9) dX5_takenSet_6 (fun v_1 hf_2 hv_3 => ?_)
      obtain ⟨k_4, ek_4, hk_k_4⟩ := hv_3
      subst ek_4
      clear hf_2
      refine lv_icmp_ge (tgt := 36) hx hb dX5_takenSet_9 (by decide) (fun h_5 => ?_) (fun h_5 => ?_)
      · have nh_5 : k_4 ≤ i := (nI_leI (a := k_4) (b := i) (by omega) (by omega)).mp h_5
        refine lv_iload_n hx hb dX5_takenSet_36 rfl (lv_at hl 1 rfl) ?_
        subst hQ
        exact W.iret (v := ac) hx hb hr (fun t ht hW => ⟨_, rfl, trivial, ht⟩) (fun _ h => by cases h) dX5_takenSet_37
      · have nh_5 : ¬ k_4 ≤ i := fun q9 => h_5 ((nI_leI (a := k_4) (b := i) (by omega) (by omega)).mpr q9)
        refine lv_aload_n hx hb dX5_takenSet_12 rfl (lv_at hl 2 rfl) ?_
        refine tp_get (ci := 4) (C := RX5) (T := TX5) (N := 11) hx hb hts hin_X5 hown hK hw hm_h0 6 ht_h0 (fun _ => rfl) rfl 5 (by decide) rfl (hts (.fieldLink RX5 21 "DayBench" "sayings" "[LDayBench$Saying;") (by decide +kernel)) (fun _ h9 => h9) dX5_takenSet_13 (fun v_6 hf_7 hv_8 => ?_)
        obtain ⟨b_9, eb_9, hm_b_9, ht_b_9⟩ := hv_8
        subst eb_9
        refine lv_iload_n hx hb dX5_takenSet_16 rfl (lv_at hl 0 rfl) ?_
        refine tp_aald hx hb hK hw hm_b_9 9 ht_b_9 1 (n := 12) (t' := 0) (fun _ => rfl) rfl rfl (vp_in_nI (by omega) (by omega)) dX5_takenSet_17 (fun b_10 hf_11 hm_b_10 ht_b_10 => ?_)
        clear hf_11
        refine tp_get (ci := 0) (C := RX1) (T := TX1) (N := 9) hx hb hts hin_X1 hown hK hw hm_b_10 0 ht_b_10 (fun _ => rfl) rfl 4 (by decide) rfl (hts (.fieldLink RX5 113 "DayBench$Saying" "taken" "Z") (by decide +kernel)) (fun _ h9 => h9) dX5_takenSet_18 (fun v_12 hf_13 hv_14 => ?_)
        obtain ⟨y_15, ey_15, hb_y_15⟩ := hv_14
        subst ey_15
        clear hf_13
        refine lv_if_eq (tgt := 30) hx hb dX5_takenSet_21 (by decide) (fun h_16 => ?_) (fun h_16 => ?_)
        · refine lv_iinc (v := nI (i + 1)) (lv' := [(2, .int (nI (i + 1))), (1, .int ac), (0, .ref h0)]) hx hb dX5_takenSet_30 hl (k := 0) rfl (nI_1 _) (by decide) rfl (fun ls hl => ?_)
          refine lv_goto (tgt := 4) hx hb dX5_takenSet_33 (by decide) ?_
          exact ih_4 ac ((i + 1)) (by omega) (by omega) ls (lv_sub hl [0, 1, 2] rfl)
        · refine lv_iload_n hx hb dX5_takenSet_24 rfl (lv_at hl 1 rfl) ?_
          refine lv_iconst (v := 1) hx hb dX5_takenSet_25 (by decide) ?_
          refine lv_iload_n hx hb dX5_takenSet_26 rfl (lv_at hl 0 rfl) ?_
          refine lv_ishl hx hb dX5_takenSet_27 ?_
          refine lv_ior hx hb dX5_takenSet_28 ?_
          refine lv_topi (fun x_17 ex_17 => ?_)
          refine lv_istore_n (lv' := [(1, .int x_17), (2, .int (nI i)), (0, .ref h0)]) hx hb dX5_takenSet_29 rfl hl (by decide) rfl (fun ls hl => ?_)
          refine lv_iinc (v := nI (i + 1)) (lv' := [(2, .int (nI (i + 1))), (1, .int x_17), (0, .ref h0)]) hx hb dX5_takenSet_30 hl (k := 1) rfl (nI_1 _) (by decide) rfl (fun ls hl => ?_)
          refine lv_goto (tgt := 4) hx hb dX5_takenSet_33 (by decide) ?_
          exact ih_4 x_17 ((i + 1)) (by omega) (by omega) ls (lv_sub hl [0, 1, 2] rfl)
  exact hl_4 _ 0 0 (Nat.lt_succ_self _) (by omega) ls (lv_sub hl [0, 1, 2] rfl)

