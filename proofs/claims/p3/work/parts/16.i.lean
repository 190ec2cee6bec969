set_option maxHeartbeats 4000000 in
set_option maxRecDepth 100000 in
theorem k_X5_askSet (l : Launch) (dC : Nat → ClassId) (dI : Nat → Nat → Nat) (cI cS cP cA : ClassId) (L : List Nat) (tg : Nat → Nat) (f : Nat → va_E) (hN : L.Nodup) (hT : ∀ a : Nat, a ∈ L → tg a < 13) (hI : PI cI cS cP cA L tg f) (h0 : Nat) (hm_h0 : h0 ∈ L) (ht_h0 : tg h0 = 6) (p0 : Int32) : Met l yX5_askSet wsX5_askSet ({ frames := 10, cells := 0, slots := 0, locals := 213 }) (va_Pc [.ref h0, .int p0] (tPre dC dI cI cS cP cA L f)) (va_Qi (fun (r : Int32) (f' : Nat → va_E) => PI cI cS cP cA L tg f' ∧ Fr L tg (fun t => t == 1 || t == 2 || t == 3 || t == 4 || t == 10) f f') (fun (f' : Nat → va_E) t => va_P (dC, dI) vwCl (va_pl L f') t.heap) (fun q : Nat => q ∈ L)) 0 0 (fun q : Nat => q ∈ L) := by
  refine Met.ofW (cc := cX5_askSet) (maxL := 2) (ret := (some .int)) (by decide) rfl ?_
  intro p e s m args below meth c s₁ B hml hv
  obtain ⟨rfl, hP, hK, hcm⟩ := hv
  have hx := B.exec
  have hb := B.bytes
  have hr := B.returns
  have hts := atoms_spec (ws := wsX5_askSet) B.pre
  have hown : s.vm.findClass RX5 = some m.cls := findClass_of_methodNamed B.named
  have hlocks := B.notSynchronized
  have hin_X5 : ∀ w ∈ u_ws RX5 TX5 11, w ∈ wsX5_askSet := by decide +kernel
  have hl := lv_entry ([.ref h0, .int p0]) (n := 2) (Nat.le_of_ble_eq_true rfl)
  rw [lg_entry_eq]
  generalize (lg_sl ([.ref h0, .int p0]) ++ List.replicate (2 - (lg_sl ([.ref h0, .int p0])).length) Slot.unset).toArray = ls at hl ⊢
  have hl : lv_has ls 2 [(0, .ref h0), (1, .int p0)] := hl
  generalize hQ : MQ below (va_Qi (fun (r : Int32) (f' : Nat → va_E) => PI cI cS cP cA L tg f' ∧ Fr L tg (fun t => t == 1 || t == 2 || t == 3 || t == 4 || t == 10) f f') (fun (f' : Nat → va_E) t => va_P (dC, dI) vwCl (va_pl L f') t.heap) (fun q : Nat => q ∈ L)) [.ref h0, .int p0].toArray s 0 0 (fun q : Nat => q ∈ L) = Q
  obtain ⟨f0, hf0⟩ : ∃ g : Nat → va_E, g = f := ⟨_, rfl⟩
  have hw : PW dC dI cI cS cP cA L tg (fun t => t == 1 || t == 2 || t == 3 || t == 4 || t == 10) f0 s.heap f s.heap [] := by rw [hf0]; exact PW.start hP hI
  clear hP
  refine lv_aload_n hx hb dX5_askSet_0 rfl (lv_at hl 0 rfl) ?_
  refine tp_get (ci := 4) (C := RX5) (T := TX5) (N := 11) hx hb hts hin_X5 hown hK hw hm_h0 6 ht_h0 (fun _ => rfl) rfl 7 (by decide) rfl (hts (.fieldLink RX5 29 "DayBench" "search" "LDayBench$Search;") (by decide +kernel)) (fun _ h9 => h9) dX5_askSet_1 (fun v_1 hf_2 hv_3 => ?_)
  obtain ⟨b_4, eb_4, hm_b_4, ht_b_4⟩ := hv_3
  subst eb_4
  refine lv_aload_n hx hb dX5_askSet_4 rfl (lv_at hl 0 rfl) ?_
  refine tp_get (ci := 4) (C := RX5) (T := TX5) (N := 11) hx hb hts hin_X5 hown hK hw hm_h0 6 ht_h0 (fun _ => rfl) rfl 5 (by decide) rfl (hts (.fieldLink RX5 21 "DayBench" "sayings" "[LDayBench$Saying;") (by decide +kernel)) (fun _ h9 => h9) dX5_askSet_5 (fun v_5 hf_6 hv_7 => ?_)
  obtain ⟨b_8, eb_8, hm_b_8, ht_b_8⟩ := hv_7
  subst eb_8
  refine lv_iload_n hx hb dX5_askSet_8 rfl (lv_at hl 1 rfl) ?_
  refine va_callv (va_runV (As := [.ref b_8, .int p0]) (rest := []) ⟨hx, hb, hml, hown, hts⟩ (k_X2_lay l dC dI cI cS cP cA L tg f hN hT hw.2.1 b_4 hm_b_4 ht_b_4 b_8 hm_b_8 ht_b_8 p0) (cwV 2 hts gX5_askSet_X2_lay rfl rfl rfl (by decide +kernel) ⟨Nat.le_of_ble_eq_true rfl, Nat.le_of_ble_eq_true rfl⟩) ⟨tPre_blind, tp_recv hK hw hm_b_4 4 ht_b_4 (ci := 1) (fun _ => rfl) rfl, fun U hU hW => ⟨rfl, tPre_at hw hK hcm hU hW⟩⟩ rfl rfl hl.1 rfl (lv_room (Nat.le_of_ble_eq_true rfl)) dX5_askSet_9 ⟨Nat.le_of_ble_eq_true rfl, Nat.le_of_ble_eq_true rfl⟩) hw.2.2.2 (fun q _ h => h) (fun q h => h) (fun f t H locs ht hvm hp hB hz1 hk1 hS1 => ?_)
  obtain ⟨hI1, hF1⟩ := hp
  have hw := hw.back (S' := (fun t => t == 1 || t == 2 || t == 3 || t == 4 || t == 10)) (by decide) hT hI1 hF1 hB ht hS1
  have hf_2 : fld (f h0) 7 = some (.ref b_4) := by rw [hF1 h0 hm_h0 (by rw [ht_h0]; rfl)]; exact hf_2
  have hf_6 : fld (f h0) 5 = some (.ref b_8) := by rw [hF1 h0 hm_h0 (by rw [ht_h0]; rfl)]; exact hf_6
  clear hI1 hF1 hB ht hz1 hk1 hS1 hvm
  refine lv_aload_n hx hb dX5_askSet_12 rfl (lv_at hl 0 rfl) ?_
  refine tp_getK (ci := 4) (C := RX5) (T := TX5) (N := 11) hx hb hts hin_X5 hown hK hw hm_h0 6 ht_h0 (fun _ => rfl) rfl 7 (by decide) hf_2 (hts (.fieldLink RX5 29 "DayBench" "search" "LDayBench$Search;") (by decide +kernel)) (fun _ h9 => h9) dX5_askSet_13 ?_
  refine lv_iconst (v := 1) hx hb dX5_askSet_16 (by decide) ?_
  refine va_calli (va_runV (As := [.int 1]) (rest := []) ⟨hx, hb, hml, hown, hts⟩ (k_X2_run l dC dI cI cS cP cA L tg f hN hT hw.2.1 b_4 hm_b_4 ht_b_4 1 (Or.inr rfl)) (cwV 1 hts gX5_askSet_X2_run rfl rfl rfl (by decide +kernel) ⟨Nat.le_of_ble_eq_true rfl, Nat.le_of_ble_eq_true rfl⟩) ⟨tPre_blind, tp_recv hK hw hm_b_4 4 ht_b_4 (ci := 1) (fun _ => rfl) rfl, fun U hU hW => ⟨rfl, tPre_at hw hK hcm hU hW⟩⟩ rfl rfl hl.1 rfl (lv_room (Nat.le_of_ble_eq_true rfl)) dX5_askSet_17 ⟨Nat.le_of_ble_eq_true rfl, Nat.le_of_ble_eq_true rfl⟩) hw.2.2.2 (fun q _ h => h) (fun q h => h) (fun r_10 f t H locs ht hvm hp hB hz1 hk1 hS1 => ?_)
  obtain ⟨hI1, hF1⟩ := hp
  have hw := hw.back (S' := (fun t => t == 3 || t == 4)) (by decide) hT hI1 hF1 hB ht hS1
  have hf_2 : fld (f h0) 7 = some (.ref b_4) := by rw [hF1 h0 hm_h0 (by rw [ht_h0]; rfl)]; exact hf_2
  have hf_6 : fld (f h0) 5 = some (.ref b_8) := by rw [hF1 h0 hm_h0 (by rw [ht_h0]; rfl)]; exact hf_6
  clear hI1 hF1 hB ht hz1 hk1 hS1 hvm
  subst hQ
  have hI9 := hw.2.1
  have hF9 := hw.2.2.1
  have hS9 := hw.2.2.2
  rw [hf0] at hF9
  exact W.iret (v := r_10) hx hb hr (fun t ht hW => ⟨⟨_, _, rfl, ⟨hI9, hF9⟩, hw.at ht⟩, hS9.F ht⟩) hS9.2.2 dX5_askSet_20

set_option maxHeartbeats 4000000 in
set_option maxRecDepth 100000 in
theorem k_X5_askAllWays (l : Launch) (dC : Nat → ClassId) (dI : Nat → Nat → Nat) (cI cS cP cA : ClassId) (L : List Nat) (tg : Nat → Nat) (f : Nat → va_E) (hN : L.Nodup) (hT : ∀ a : Nat, a ∈ L → tg a < 13) (hI : PI cI cS cP cA L tg f) (h0 : Nat) (hm_h0 : h0 ∈ L) (ht_h0 : tg h0 = 6) (p0 : Int32) : Met l yX5_askAllWays wsX5_askAllWays ({ frames := 10, cells := 0, slots := 0, locals := 213 }) (va_Pc [.ref h0, .int p0] (tPre dC dI cI cS cP cA L f)) (va_Qi (fun (r : Int32) (f' : Nat → va_E) => PI cI cS cP cA L tg f' ∧ Fr L tg (fun t => t == 1 || t == 2 || t == 3 || t == 4 || t == 10) f f' ∧ (¬ r = -1 → ∃ k : Nat, k < 6 ∧ p0 = nI k)) (fun (f' : Nat → va_E) t => va_P (dC, dI) vwCl (va_pl L f') t.heap) (fun q : Nat => q ∈ L)) 0 0 (fun q : Nat => q ∈ L) := by
  refine Met.ofW (cc := cX5_askAllWays) (maxL := 3) (ret := (some .int)) (by decide) rfl ?_
  intro p e s m args below meth c s₁ B hml hv
  obtain ⟨rfl, hP, hK, hcm⟩ := hv
  have hx := B.exec
  have hb := B.bytes
  have hr := B.returns
  have hts := atoms_spec (ws := wsX5_askAllWays) B.pre
  have hown : s.vm.findClass RX5 = some m.cls := findClass_of_methodNamed B.named
  have hlocks := B.notSynchronized
  have hin_X5 : ∀ w ∈ u_ws RX5 TX5 11, w ∈ wsX5_askAllWays := by decide +kernel
  have hl := lv_entry ([.ref h0, .int p0]) (n := 3) (Nat.le_of_ble_eq_true rfl)
  rw [lg_entry_eq]
  generalize (lg_sl ([.ref h0, .int p0]) ++ List.replicate (3 - (lg_sl ([.ref h0, .int p0])).length) Slot.unset).toArray = ls at hl ⊢
  have hl : lv_has ls 3 [(0, .ref h0), (1, .int p0)] := hl
  generalize hQ : MQ below (va_Qi (fun (r : Int32) (f' : Nat → va_E) => PI cI cS cP cA L tg f' ∧ Fr L tg (fun t => t == 1 || t == 2 || t == 3 || t == 4 || t == 10) f f' ∧ (¬ r = -1 → ∃ k : Nat, k < 6 ∧ p0 = nI k)) (fun (f' : Nat → va_E) t => va_P (dC, dI) vwCl (va_pl L f') t.heap) (fun q : Nat => q ∈ L)) [.ref h0, .int p0].toArray s 0 0 (fun q : Nat => q ∈ L) = Q
  obtain ⟨f0, hf0⟩ : ∃ g : Nat → va_E, g = f := ⟨_, rfl⟩
  have hw : PW dC dI cI cS cP cA L tg (fun t => t == 1 || t == 2 || t == 3 || t == 4 || t == 10) f0 s.heap f s.heap [] := by rw [hf0]; exact PW.start hP hI
  clear hP
  refine lv_aload_n hx hb dX5_askAllWays_0 rfl (lv_at hl 0 rfl) ?_
  refine lv_iload_n hx hb dX5_askAllWays_1 rfl (lv_at hl 1 rfl) ?_
  refine vp_callSi (va_Run.run (va_runV (As := [.int p0]) (rest := []) ⟨hx, hb, hml, hown, hts⟩ (k_X5_isEvent l dC dI cI cS cP cA L tg f hN hT hw.2.1 h0 hm_h0 ht_h0 p0) (cwV 1 hts gX5_askAllWays_X5_isEvent rfl rfl rfl (by decide +kernel) ⟨Nat.le_of_ble_eq_true rfl, Nat.le_of_ble_eq_true rfl⟩) ⟨tPre_blind, tp_recv hK hw hm_h0 6 ht_h0 (ci := 4) (fun _ => rfl) rfl, fun U hU hW => ⟨rfl, tPre_at hw hK hcm hU hW⟩⟩ rfl rfl hl.1 rfl (lv_room (Nat.le_of_ble_eq_true rfl)) dX5_askAllWays_2 ⟨Nat.le_of_ble_eq_true rfl, Nat.le_of_ble_eq_true rfl⟩)) (fun r_1 hr_1 => ?_)
  rcases hr_1 with er_1 | ⟨er_1, k_2, hk_2, ek_2⟩
  · subst er_1
    refine lv_if_ne (tgt := 10) hx hb dX5_askAllWays_5 (by decide) (fun h_3 => ?_) (fun h_3 => ?_)
    · exact (by first | exact absurd h_3 (by decide) | exact absurd (by decide) h_3)
    · refine lv_iconst (v := (-1)) hx hb dX5_askAllWays_8 (by decide) ?_
      subst hQ
      have hI9 := hw.2.1
      have hF9 := hw.2.2.1
      have hS9 := hw.2.2.2
      rw [hf0] at hF9
      exact W.iret (v := (-1)) hx hb hr (fun t ht hW => ⟨⟨_, _, rfl, ⟨hI9, hF9, fun q => absurd rfl q⟩, hw.at ht⟩, hS9.F ht⟩) hS9.2.2 dX5_askAllWays_9
  · subst er_1
    rw [ek_2] at hl
    refine lv_if_ne (tgt := 10) hx hb dX5_askAllWays_5 (by decide) (fun h_4 => ?_) (fun h_4 => ?_)
    · refine lv_aload_n hx hb dX5_askAllWays_10 rfl (lv_at hl 0 rfl) ?_
      refine tp_get (ci := 4) (C := RX5) (T := TX5) (N := 11) hx hb hts hin_X5 hown hK hw hm_h0 6 ht_h0 (fun _ => rfl) rfl 7 (by decide) rfl (hts (.fieldLink RX5 29 "DayBench" "search" "LDayBench$Search;") (by decide +kernel)) (fun _ h9 => h9) dX5_askAllWays_11 (fun v_5 hf_6 hv_7 => ?_)
      obtain ⟨b_8, eb_8, hm_b_8, ht_b_8⟩ := hv_7
      subst eb_8
      refine lv_aload_n hx hb dX5_askAllWays_14 rfl (lv_at hl 0 rfl) ?_
      refine tp_get (ci := 4) (C := RX5) (T := TX5) (N := 11) hx hb hts hin_X5 hown hK hw hm_h0 6 ht_h0 (fun _ => rfl) rfl 4 (by decide) rfl (hts (.fieldLink RX5 71 "DayBench" "events" "I") (by decide +kernel)) (fun _ h9 => h9) dX5_askAllWays_15 (fun v_9 hf_10 hv_11 => ?_)
      obtain ⟨k_12, ek_12, hk_k_12⟩ := hv_11
      subst ek_12
      clear hf_10
      refine va_callv (va_runV (As := [.int (nI k_12)]) (rest := []) ⟨hx, hb, hml, hown, hts⟩ (k_X2_begin l dC dI cI cS cP cA L tg f hN hT hw.2.1 b_8 hm_b_8 ht_b_8 k_12 (by first | omega | decide)) (cwV 1 hts gX5_askAllWays_X2_begin rfl rfl rfl (by decide +kernel) ⟨Nat.le_of_ble_eq_true rfl, Nat.le_of_ble_eq_true rfl⟩) ⟨tPre_blind, tp_recv hK hw hm_b_8 4 ht_b_8 (ci := 1) (fun _ => rfl) rfl, fun U hU hW => ⟨rfl, tPre_at hw hK hcm hU hW⟩⟩ rfl rfl hl.1 rfl (lv_room (Nat.le_of_ble_eq_true rfl)) dX5_askAllWays_18 ⟨Nat.le_of_ble_eq_true rfl, Nat.le_of_ble_eq_true rfl⟩) hw.2.2.2 (fun q _ h => h) (fun q h => h) (fun f t H locs ht hvm hp hB hz1 hk1 hS1 => ?_)
      obtain ⟨hI1, hF1⟩ := hp
      have hw := hw.back (S' := (fun t => t == 4)) (by decide) hT hI1 hF1 hB ht hS1
      have hf_6 : fld (f h0) 7 = some (.ref b_8) := by rw [hF1 h0 hm_h0 (by rw [ht_h0]; rfl)]; exact hf_6
      clear hI1 hF1 hB ht hz1 hk1 hS1 hvm
      refine lv_aload_n hx hb dX5_askAllWays_21 rfl (lv_at hl 0 rfl) ?_
      refine tp_getK (ci := 4) (C := RX5) (T := TX5) (N := 11) hx hb hts hin_X5 hown hK hw hm_h0 6 ht_h0 (fun _ => rfl) rfl 7 (by decide) hf_6 (hts (.fieldLink RX5 29 "DayBench" "search" "LDayBench$Search;") (by decide +kernel)) (fun _ h9 => h9) dX5_askAllWays_22 ?_
      refine lv_aload_n hx hb dX5_askAllWays_25 rfl (lv_at hl 0 rfl) ?_
      refine tp_get (ci := 4) (C := RX5) (T := TX5) (N := 11) hx hb hts hin_X5 hown hK hw hm_h0 6 ht_h0 (fun _ => rfl) rfl 5 (by decide) rfl (hts (.fieldLink RX5 21 "DayBench" "sayings" "[LDayBench$Saying;") (by decide +kernel)) (fun _ h9 => h9) dX5_askAllWays_26 (fun v_14 hf_15 hv_16 => ?_)
      obtain ⟨b_17, eb_17, hm_b_17, ht_b_17⟩ := hv_16
      subst eb_17
      refine lv_aload_n hx hb dX5_askAllWays_29 rfl (lv_at hl 0 rfl) ?_
      refine vp_callSi (va_Run.run (va_runV (As := []) (rest := [.ref b_17, .ref b_8]) ⟨hx, hb, hml, hown, hts⟩ (k_X5_takenSet l dC dI cI cS cP cA L tg f hN hT hw.2.1 h0 hm_h0 ht_h0) (cwV 0 hts gX5_askAllWays_X5_takenSet rfl rfl rfl (by decide +kernel) ⟨Nat.le_of_ble_eq_true rfl, Nat.le_of_ble_eq_true rfl⟩) ⟨tPre_blind, tp_recv hK hw hm_h0 6 ht_h0 (ci := 4) (fun _ => rfl) rfl, fun U hU hW => ⟨rfl, tPre_at hw hK hcm hU hW⟩⟩ rfl rfl hl.1 rfl (lv_room (Nat.le_of_ble_eq_true rfl)) dX5_askAllWays_30 ⟨Nat.le_of_ble_eq_true rfl, Nat.le_of_ble_eq_true rfl⟩)) (fun r_18 hr_18 => ?_)
      refine va_callv (va_runV (As := [.ref b_17, .int r_18]) (rest := []) ⟨hx, hb, hml, hown, hts⟩ (k_X2_lay l dC dI cI cS cP cA L tg f hN hT hw.2.1 b_8 hm_b_8 ht_b_8 b_17 hm_b_17 ht_b_17 r_18) (cwV 2 hts gX5_askAllWays_X2_lay rfl rfl rfl (by decide +kernel) ⟨Nat.le_of_ble_eq_true rfl, Nat.le_of_ble_eq_true rfl⟩) ⟨tPre_blind, tp_recv hK hw hm_b_8 4 ht_b_8 (ci := 1) (fun _ => rfl) rfl, fun U hU hW => ⟨rfl, tPre_at hw hK hcm hU hW⟩⟩ rfl rfl hl.1 rfl (lv_room (Nat.le_of_ble_eq_true rfl)) dX5_askAllWays_33 ⟨Nat.le_of_ble_eq_true rfl, Nat.le_of_ble_eq_true rfl⟩) hw.2.2.2 (fun q _ h => h) (fun q h => h) (fun f t H locs ht hvm hp hB hz1 hk1 hS1 => ?_)
      obtain ⟨hI1, hF1⟩ := hp
      have hw := hw.back (S' := (fun t => t == 1 || t == 2 || t == 3 || t == 4 || t == 10)) (by decide) hT hI1 hF1 hB ht hS1
      have hf_6 : fld (f h0) 7 = some (.ref b_8) := by rw [hF1 h0 hm_h0 (by rw [ht_h0]; rfl)]; exact hf_6
      have hf_15 : fld (f h0) 5 = some (.ref b_17) := by rw [hF1 h0 hm_h0 (by rw [ht_h0]; rfl)]; exact hf_15
      clear hI1 hF1 hB ht hz1 hk1 hS1 hvm
      refine lv_aload_n hx hb dX5_askAllWays_36 rfl (lv_at hl 0 rfl) ?_
      refine tp_getK (ci := 4) (C := RX5) (T := TX5) (N := 11) hx hb hts hin_X5 hown hK hw hm_h0 6 ht_h0 (fun _ => rfl) rfl 7 (by decide) hf_6 (hts (.fieldLink RX5 29 "DayBench" "search" "LDayBench$Search;") (by decide +kernel)) (fun _ h9 => h9) dX5_askAllWays_37 ?_
      refine lv_iconst (v := 0) hx hb dX5_askAllWays_40 (by decide) ?_
      refine va_calli (va_runV (As := [.int 0]) (rest := []) ⟨hx, hb, hml, hown, hts⟩ (k_X2_run l dC dI cI cS cP cA L tg f hN hT hw.2.1 b_8 hm_b_8 ht_b_8 0 (Or.inl rfl)) (cwV 1 hts gX5_askAllWays_X2_run rfl rfl rfl (by decide +kernel) ⟨Nat.le_of_ble_eq_true rfl, Nat.le_of_ble_eq_true rfl⟩) ⟨tPre_blind, tp_recv hK hw hm_b_8 4 ht_b_8 (ci := 1) (fun _ => rfl) rfl, fun U hU hW => ⟨rfl, tPre_at hw hK hcm hU hW⟩⟩ rfl rfl hl.1 rfl (lv_room (Nat.le_of_ble_eq_true rfl)) dX5_askAllWays_41 ⟨Nat.le_of_ble_eq_true rfl, Nat.le_of_ble_eq_true rfl⟩) hw.2.2.2 (fun q _ h => h) (fun q h => h) (fun r_20 f t H locs ht hvm hp hB hz1 hk1 hS1 => ?_)
      obtain ⟨hI1, hF1⟩ := hp
      have hw := hw.back (S' := (fun t => t == 3 || t == 4)) (by decide) hT hI1 hF1 hB ht hS1
      have hf_6 : fld (f h0) 7 = some (.ref b_8) := by rw [hF1 h0 hm_h0 (by rw [ht_h0]; rfl)]; exact hf_6
      have hf_15 : fld (f h0) 5 = some (.ref b_17) := by rw [hF1 h0 hm_h0 (by rw [ht_h0]; rfl)]; exact hf_15
      clear hI1 hF1 hB ht hz1 hk1 hS1 hvm
      refine lv_istore_n (lv' := [(2, .int r_20), (0, .ref h0), (1, .int (nI k_2))]) hx hb dX5_askAllWays_44 rfl hl (by decide) rfl (fun ls hl => ?_)
      refine lv_iload_n hx hb dX5_askAllWays_45 rfl (lv_at hl 0 rfl) ?_
      refine lv_if_ne (tgt := 53) hx hb dX5_askAllWays_46 (by decide) (fun h_21 => ?_) (fun h_21 => ?_)
      · refine lv_iload_n hx hb dX5_askAllWays_53 rfl (lv_at hl 0 rfl) ?_
        subst hQ
        have hI9 := hw.2.1
        have hF9 := hw.2.2.1
        have hS9 := hw.2.2.2
        rw [hf0] at hF9
        exact W.iret (v := r_20) hx hb hr (fun t ht hW => ⟨⟨_, _, rfl, ⟨hI9, hF9, fun _ => ⟨k_2, hk_2, ek_2⟩⟩, hw.at ht⟩, hS9.F ht⟩) hS9.2.2 dX5_askAllWays_54
      · refine lv_iconst (v := (-1)) hx hb dX5_askAllWays_49 (by decide) ?_
        refine lv_goto (tgt := 54) hx hb dX5_askAllWays_50 (by decide) ?_
        subst hQ
        have hI9 := hw.2.1
        have hF9 := hw.2.2.1
        have hS9 := hw.2.2.2
        rw [hf0] at hF9
        exact W.iret (v := (-1)) hx hb hr (fun t ht hW => ⟨⟨_, _, rfl, ⟨hI9, hF9, fun _ => ⟨k_2, hk_2, ek_2⟩⟩, hw.at ht⟩, hS9.F ht⟩) hS9.2.2 dX5_askAllWays_54
    · exact (by first | exact absurd h_4 (by decide) | exact absurd (by decide) h_4)

set_option maxHeartbeats 4000000 in
set_option maxRecDepth 100000 in
theorem k_X5_first (l : Launch) (dC : Nat → ClassId) (dI : Nat → Nat → Nat) (cI cS cP cA : ClassId) (L : List Nat) (tg : Nat → Nat) (f : Nat → va_E) (hN : L.Nodup) (hT : ∀ a : Nat, a ∈ L → tg a < 13) (hI : PI cI cS cP cA L tg f) (h0 : Nat) (hm_h0 : h0 ∈ L) (ht_h0 : tg h0 = 6) (p0 : Int32) : Met l yX5_first wsX5_first ({ frames := 11, cells := 0, slots := 0, locals := 235 }) (va_Pc [.ref h0, .int p0] (tPre dC dI cI cS cP cA L f)) (va_Qi (fun (r : Int32) (f' : Nat → va_E) => PI cI cS cP cA L tg f' ∧ Fr L tg (fun t => t == 1 || t == 2 || t == 3 || t == 4 || t == 10) f f') (fun (f' : Nat → va_E) t => va_P (dC, dI) vwCl (va_pl L f') t.heap) (fun q : Nat => q ∈ L)) 0 0 (fun q : Nat => q ∈ L) := by
  refine Met.ofW (cc := cX5_first) (maxL := 3) (ret := (some .int)) (by decide) rfl ?_
  intro p e s m args below meth c s₁ B hml hv
  obtain ⟨rfl, hP, hK, hcm⟩ := hv
  have hx := B.exec
  have hb := B.bytes
  have hr := B.returns
  have hts := atoms_spec (ws := wsX5_first) B.pre
  have hown : s.vm.findClass RX5 = some m.cls := findClass_of_methodNamed B.named
  have hlocks := B.notSynchronized
  have hin_X5 : ∀ w ∈ u_ws RX5 TX5 11, w ∈ wsX5_first := by decide +kernel
  have hin_X2 : ∀ w ∈ u_ws RX2 TX2 14, w ∈ wsX5_first := by decide +kernel
  have hl := lv_entry ([.ref h0, .int p0]) (n := 3) (Nat.le_of_ble_eq_true rfl)
  rw [lg_entry_eq]
  generalize (lg_sl ([.ref h0, .int p0]) ++ List.replicate (3 - (lg_sl ([.ref h0, .int p0])).length) Slot.unset).toArray = ls at hl ⊢
  have hl : lv_has ls 3 [(0, .ref h0), (1, .int p0)] := hl
  generalize hQ : MQ below (va_Qi (fun (r : Int32) (f' : Nat → va_E) => PI cI cS cP cA L tg f' ∧ Fr L tg (fun t => t == 1 || t == 2 || t == 3 || t == 4 || t == 10) f f') (fun (f' : Nat → va_E) t => va_P (dC, dI) vwCl (va_pl L f') t.heap) (fun q : Nat => q ∈ L)) [.ref h0, .int p0].toArray s 0 0 (fun q : Nat => q ∈ L) = Q
  obtain ⟨f0, hf0⟩ : ∃ g : Nat → va_E, g = f := ⟨_, rfl⟩
  have hw : PW dC dI cI cS cP cA L tg (fun t => t == 1 || t == 2 || t == 3 || t == 4 || t == 10) f0 s.heap f s.heap [] := by rw [hf0]; exact PW.start hP hI
  clear hP
  refine lv_aload_n hx hb dX5_first_0 rfl (lv_at hl 0 rfl) ?_
  refine lv_iload_n hx hb dX5_first_1 rfl (lv_at hl 1 rfl) ?_
  refine va_calli (va_runV (As := [.int p0]) (rest := []) ⟨hx, hb, hml, hown, hts⟩ (k_X5_askAllWays l dC dI cI cS cP cA L tg f hN hT hw.2.1 h0 hm_h0 ht_h0 p0) (cwV 1 hts gX5_first_X5_askAllWays rfl rfl rfl (by decide +kernel) ⟨Nat.le_of_ble_eq_true rfl, Nat.le_of_ble_eq_true rfl⟩) ⟨tPre_blind, tp_recv hK hw hm_h0 6 ht_h0 (ci := 4) (fun _ => rfl) rfl, fun U hU hW => ⟨rfl, tPre_at hw hK hcm hU hW⟩⟩ rfl rfl hl.1 rfl (lv_room (Nat.le_of_ble_eq_true rfl)) dX5_first_2 ⟨Nat.le_of_ble_eq_true rfl, Nat.le_of_ble_eq_true rfl⟩) hw.2.2.2 (fun q _ h => h) (fun q h => h) (fun r_1 f t H locs ht hvm hp hB hz1 hk1 hS1 => ?_)
  obtain ⟨hI1, hF1, hr_1⟩ := hp
  have hw := hw.back (S' := (fun t => t == 1 || t == 2 || t == 3 || t == 4 || t == 10)) (by decide) hT hI1 hF1 hB ht hS1
  clear hI1 hF1 hB ht hz1 hk1 hS1 hvm
  have hpost_r_1 := hr_1
  refine lv_istore_n (lv' := [(2, .int r_1), (0, .ref h0), (1, .int p0)]) hx hb dX5_first_5 rfl hl (by decide) rfl (fun ls hl => ?_)
  refine lv_iload_n hx hb dX5_first_6 rfl (lv_at hl 0 rfl) ?_
  refine lv_iconst (v := 1) hx hb dX5_first_7 (by decide) ?_
  refine lv_icmp_ne (tgt := 23) hx hb dX5_first_8 (by decide) (fun h_2 => ?_) (fun h_2 => ?_)
  · refine lv_iload_n hx hb dX5_first_23 rfl (lv_at hl 0 rfl) ?_
    subst hQ
    have hI9 := hw.2.1
    have hF9 := hw.2.2.1
    have hS9 := hw.2.2.2
    rw [hf0] at hF9
    exact W.iret (v := r_1) hx hb hr (fun t ht hW => ⟨⟨_, _, rfl, ⟨hI9, hF9⟩, hw.at ht⟩, hS9.F ht⟩) hS9.2.2 dX5_first_24
  · obtain ⟨k_3, hk_3, ek_3⟩ := hpost_r_1 (by rw [h_2]; decide)
    rw [ek_3] at hl
    refine lv_aload_n hx hb dX5_first_11 rfl (lv_at hl 1 rfl) ?_
    refine tp_get (ci := 4) (C := RX5) (T := TX5) (N := 11) hx hb hts hin_X5 hown hK hw hm_h0 6 ht_h0 (fun _ => rfl) rfl 7 (by decide) rfl (hts (.fieldLink RX5 29 "DayBench" "search" "LDayBench$Search;") (by decide +kernel)) (fun _ h9 => h9) dX5_first_12 (fun v_4 hf_5 hv_6 => ?_)
    obtain ⟨b_7, eb_7, hm_b_7, ht_b_7⟩ := hv_6
    subst eb_7
    refine tp_get (ci := 1) (C := RX2) (T := TX2) (N := 14) hx hb hts hin_X2 hown hK hw hm_b_7 4 ht_b_7 (fun _ => rfl) rfl 0 (by decide) rfl (hts (.fieldLink RX5 142 "DayBench$Search" "earliest" "[I") (by decide +kernel)) (fun _ h9 => h9) dX5_first_15 (fun v_8 hf_9 hv_10 => ?_)
    obtain ⟨b_11, eb_11, hm_b_11, ht_b_11⟩ := hv_10
    subst eb_11
    refine lv_iload_n hx hb dX5_first_18 rfl (lv_at hl 2 rfl) ?_
    refine tp_iald hx hb hK hw hm_b_11 3 ht_b_11 (n := 6) (fun _ => rfl) (vp_in_nI (by omega) (by omega)) dX5_first_19 (fun y_12 => ?_)
    refine lv_goto (tgt := 24) hx hb dX5_first_20 (by decide) ?_
    subst hQ
    have hI9 := hw.2.1
    have hF9 := hw.2.2.1
    have hS9 := hw.2.2.2
    rw [hf0] at hF9
    exact W.iret (v := y_12) hx hb hr (fun t ht hW => ⟨⟨_, _, rfl, ⟨hI9, hF9⟩, hw.at ht⟩, hS9.F ht⟩) hS9.2.2 dX5_first_24

set_option maxHeartbeats 4000000 in
set_option maxRecDepth 100000 in
theorem k_X5_last (l : Launch) (dC : Nat → ClassId) (dI : Nat → Nat → Nat) (cI cS cP cA : ClassId) (L : List Nat) (tg : Nat → Nat) (f : Nat → va_E) (hN : L.Nodup) (hT : ∀ a : Nat, a ∈ L → tg a < 13) (hI : PI cI cS cP cA L tg f) (h0 : Nat) (hm_h0 : h0 ∈ L) (ht_h0 : tg h0 = 6) (p0 : Int32) : Met l yX5_last wsX5_last ({ frames := 11, cells := 0, slots := 0, locals := 235 }) (va_Pc [.ref h0, .int p0] (tPre dC dI cI cS cP cA L f)) (va_Qi (fun (r : Int32) (f' : Nat → va_E) => PI cI cS cP cA L tg f' ∧ Fr L tg (fun t => t == 1 || t == 2 || t == 3 || t == 4 || t == 10) f f') (fun (f' : Nat → va_E) t => va_P (dC, dI) vwCl (va_pl L f') t.heap) (fun q : Nat => q ∈ L)) 0 0 (fun q : Nat => q ∈ L) := by
  refine Met.ofW (cc := cX5_last) (maxL := 3) (ret := (some .int)) (by decide) rfl ?_
  intro p e s m args below meth c s₁ B hml hv
  obtain ⟨rfl, hP, hK, hcm⟩ := hv
  have hx := B.exec
  have hb := B.bytes
  have hr := B.returns
  have hts := atoms_spec (ws := wsX5_last) B.pre
  have hown : s.vm.findClass RX5 = some m.cls := findClass_of_methodNamed B.named
  have hlocks := B.notSynchronized
  have hin_X5 : ∀ w ∈ u_ws RX5 TX5 11, w ∈ wsX5_last := by decide +kernel
  have hin_X2 : ∀ w ∈ u_ws RX2 TX2 14, w ∈ wsX5_last := by decide +kernel
  have hl := lv_entry ([.ref h0, .int p0]) (n := 3) (Nat.le_of_ble_eq_true rfl)
  rw [lg_entry_eq]
  generalize (lg_sl ([.ref h0, .int p0]) ++ List.replicate (3 - (lg_sl ([.ref h0, .int p0])).length) Slot.unset).toArray = ls at hl ⊢
  have hl : lv_has ls 3 [(0, .ref h0), (1, .int p0)] := hl
  generalize hQ : MQ below (va_Qi (fun (r : Int32) (f' : Nat → va_E) => PI cI cS cP cA L tg f' ∧ Fr L tg (fun t => t == 1 || t == 2 || t == 3 || t == 4 || t == 10) f f') (fun (f' : Nat → va_E) t => va_P (dC, dI) vwCl (va_pl L f') t.heap) (fun q : Nat => q ∈ L)) [.ref h0, .int p0].toArray s 0 0 (fun q : Nat => q ∈ L) = Q
  obtain ⟨f0, hf0⟩ : ∃ g : Nat → va_E, g = f := ⟨_, rfl⟩
  have hw : PW dC dI cI cS cP cA L tg (fun t => t == 1 || t == 2 || t == 3 || t == 4 || t == 10) f0 s.heap f s.heap [] := by rw [hf0]; exact PW.start hP hI
  clear hP
  refine lv_aload_n hx hb dX5_last_0 rfl (lv_at hl 0 rfl) ?_
  refine lv_iload_n hx hb dX5_last_1 rfl (lv_at hl 1 rfl) ?_
  refine va_calli (va_runV (As := [.int p0]) (rest := []) ⟨hx, hb, hml, hown, hts⟩ (k_X5_askAllWays l dC dI cI cS cP cA L tg f hN hT hw.2.1 h0 hm_h0 ht_h0 p0) (cwV 1 hts gX5_last_X5_askAllWays rfl rfl rfl (by decide +kernel) ⟨Nat.le_of_ble_eq_true rfl, Nat.le_of_ble_eq_true rfl⟩) ⟨tPre_blind, tp_recv hK hw hm_h0 6 ht_h0 (ci := 4) (fun _ => rfl) rfl, fun U hU hW => ⟨rfl, tPre_at hw hK hcm hU hW⟩⟩ rfl rfl hl.1 rfl (lv_room (Nat.le_of_ble_eq_true rfl)) dX5_last_2 ⟨Nat.le_of_ble_eq_true rfl, Nat.le_of_ble_eq_true rfl⟩) hw.2.2.2 (fun q _ h => h) (fun q h => h) (fun r_1 f t H locs ht hvm hp hB hz1 hk1 hS1 => ?_)
  obtain ⟨hI1, hF1, hr_1⟩ := hp
  have hw := hw.back (S' := (fun t => t == 1 || t == 2 || t == 3 || t == 4 || t == 10)) (by decide) hT hI1 hF1 hB ht hS1
  clear hI1 hF1 hB ht hz1 hk1 hS1 hvm
  have hpost_r_1 := hr_1
  refine lv_istore_n (lv' := [(2, .int r_1), (0, .ref h0), (1, .int p0)]) hx hb dX5_last_5 rfl hl (by decide) rfl (fun ls hl => ?_)
  refine lv_iload_n hx hb dX5_last_6 rfl (lv_at hl 0 rfl) ?_
  refine lv_iconst (v := 1) hx hb dX5_last_7 (by decide) ?_
  refine lv_icmp_ne (tgt := 23) hx hb dX5_last_8 (by decide) (fun h_2 => ?_) (fun h_2 => ?_)
  · refine lv_iload_n hx hb dX5_last_23 rfl (lv_at hl 0 rfl) ?_
    subst hQ
    have hI9 := hw.2.1
    have hF9 := hw.2.2.1
    have hS9 := hw.2.2.2
    rw [hf0] at hF9
    exact W.iret (v := r_1) hx hb hr (fun t ht hW => ⟨⟨_, _, rfl, ⟨hI9, hF9⟩, hw.at ht⟩, hS9.F ht⟩) hS9.2.2 dX5_last_24
  · obtain ⟨k_3, hk_3, ek_3⟩ := hpost_r_1 (by rw [h_2]; decide)
    rw [ek_3] at hl
    refine lv_aload_n hx hb dX5_last_11 rfl (lv_at hl 1 rfl) ?_
    refine tp_get (ci := 4) (C := RX5) (T := TX5) (N := 11) hx hb hts hin_X5 hown hK hw hm_h0 6 ht_h0 (fun _ => rfl) rfl 7 (by decide) rfl (hts (.fieldLink RX5 29 "DayBench" "search" "LDayBench$Search;") (by decide +kernel)) (fun _ h9 => h9) dX5_last_12 (fun v_4 hf_5 hv_6 => ?_)
    obtain ⟨b_7, eb_7, hm_b_7, ht_b_7⟩ := hv_6
    subst eb_7
    refine tp_get (ci := 1) (C := RX2) (T := TX2) (N := 14) hx hb hts hin_X2 hown hK hw hm_b_7 4 ht_b_7 (fun _ => rfl) rfl 1 (by decide) rfl (hts (.fieldLink RX5 145 "DayBench$Search" "latest" "[I") (by decide +kernel)) (fun _ h9 => h9) dX5_last_15 (fun v_8 hf_9 hv_10 => ?_)
    obtain ⟨b_11, eb_11, hm_b_11, ht_b_11⟩ := hv_10
    subst eb_11
    refine lv_iload_n hx hb dX5_last_18 rfl (lv_at hl 2 rfl) ?_
    refine tp_iald hx hb hK hw hm_b_11 3 ht_b_11 (n := 6) (fun _ => rfl) (vp_in_nI (by omega) (by omega)) dX5_last_19 (fun y_12 => ?_)
    refine lv_goto (tgt := 24) hx hb dX5_last_20 (by decide) ?_
    subst hQ
    have hI9 := hw.2.1
    have hF9 := hw.2.2.1
    have hS9 := hw.2.2.2
    rw [hf0] at hF9
    exact W.iret (v := y_12) hx hb hr (fun t ht hW => ⟨⟨_, _, rfl, ⟨hI9, hF9⟩, hw.at ht⟩, hS9.F ht⟩) hS9.2.2 dX5_last_24

set_option maxHeartbeats 4000000 in
set_option maxRecDepth 100000 in
theorem k_X5_can (l : Launch) (dC : Nat → ClassId) (dI : Nat → Nat → Nat) (cI cS cP cA : ClassId) (L : List Nat) (tg : Nat → Nat) (f : Nat → va_E) (hN : L.Nodup) (hT : ∀ a : Nat, a ∈ L → tg a < 13) (hI : PI cI cS cP cA L tg f) (h0 : Nat) (hm_h0 : h0 ∈ L) (ht_h0 : tg h0 = 6) (p0 : Int32) (p1 : Int32) : Met l yX5_can wsX5_can ({ frames := 10, cells := 0, slots := 0, locals := 213 }) (va_Pc [.ref h0, .int p0, .int p1] (tPre dC dI cI cS cP cA L f)) (va_Qi (fun (r : Int32) (f' : Nat → va_E) => PI cI cS cP cA L tg f' ∧ Fr L tg (fun t => t == 1 || t == 2 || t == 3 || t == 4 || t == 10) f f') (fun (f' : Nat → va_E) t => va_P (dC, dI) vwCl (va_pl L f') t.heap) (fun q : Nat => q ∈ L)) 0 0 (fun q : Nat => q ∈ L) := by
  refine Met.ofW (cc := cX5_can) (maxL := 3) (ret := (some .int)) (by decide) rfl ?_
  intro p e s m args below meth c s₁ B hml hv
  obtain ⟨rfl, hP, hK, hcm⟩ := hv
  have hx := B.exec
  have hb := B.bytes
  have hr := B.returns
  have hts := atoms_spec (ws := wsX5_can) B.pre
  have hown : s.vm.findClass RX5 = some m.cls := findClass_of_methodNamed B.named
  have hlocks := B.notSynchronized
  have hin_X5 : ∀ w ∈ u_ws RX5 TX5 11, w ∈ wsX5_can := by decide +kernel
  have hl := lv_entry ([.ref h0, .int p0, .int p1]) (n := 3) (Nat.le_of_ble_eq_true rfl)
  rw [lg_entry_eq]
  generalize (lg_sl ([.ref h0, .int p0, .int p1]) ++ List.replicate (3 - (lg_sl ([.ref h0, .int p0, .int p1])).length) Slot.unset).toArray = ls at hl ⊢
  have hl : lv_has ls 3 [(0, .ref h0), (1, .int p0), (2, .int p1)] := hl
  generalize hQ : MQ below (va_Qi (fun (r : Int32) (f' : Nat → va_E) => PI cI cS cP cA L tg f' ∧ Fr L tg (fun t => t == 1 || t == 2 || t == 3 || t == 4 || t == 10) f f') (fun (f' : Nat → va_E) t => va_P (dC, dI) vwCl (va_pl L f') t.heap) (fun q : Nat => q ∈ L)) [.ref h0, .int p0, .int p1].toArray s 0 0 (fun q : Nat => q ∈ L) = Q
  obtain ⟨f0, hf0⟩ : ∃ g : Nat → va_E, g = f := ⟨_, rfl⟩
  have hw : PW dC dI cI cS cP cA L tg (fun t => t == 1 || t == 2 || t == 3 || t == 4 || t == 10) f0 s.heap f s.heap [] := by rw [hf0]; exact PW.start hP hI
  clear hP
  refine lv_aload_n hx hb dX5_can_0 rfl (lv_at hl 0 rfl) ?_
  refine lv_iload_n hx hb dX5_can_1 rfl (lv_at hl 1 rfl) ?_
  refine vp_callSi (va_Run.run (va_runV (As := [.int p0]) (rest := []) ⟨hx, hb, hml, hown, hts⟩ (k_X5_isEvent l dC dI cI cS cP cA L tg f hN hT hw.2.1 h0 hm_h0 ht_h0 p0) (cwV 1 hts gX5_can_X5_isEvent rfl rfl rfl (by decide +kernel) ⟨Nat.le_of_ble_eq_true rfl, Nat.le_of_ble_eq_true rfl⟩) ⟨tPre_blind, tp_recv hK hw hm_h0 6 ht_h0 (ci := 4) (fun _ => rfl) rfl, fun U hU hW => ⟨rfl, tPre_at hw hK hcm hU hW⟩⟩ rfl rfl hl.1 rfl (lv_room (Nat.le_of_ble_eq_true rfl)) dX5_can_2 ⟨Nat.le_of_ble_eq_true rfl, Nat.le_of_ble_eq_true rfl⟩)) (fun r_1 hr_1 => ?_)
  rcases hr_1 with er_1 | ⟨er_1, k_2, hk_2, ek_2⟩
  · subst er_1
    refine lv_if_eq (tgt := 15) hx hb dX5_can_5 (by decide) (fun h_3 => ?_) (fun h_3 => ?_)
    · refine lv_iconst (v := (-1)) hx hb dX5_can_15 (by decide) ?_
      subst hQ
      have hI9 := hw.2.1
      have hF9 := hw.2.2.1
      have hS9 := hw.2.2.2
      rw [hf0] at hF9
      exact W.iret (v := (-1)) hx hb hr (fun t ht hW => ⟨⟨_, _, rfl, ⟨hI9, hF9⟩, hw.at ht⟩, hS9.F ht⟩) hS9.2.2 dX5_can_16
    · exact (by first | exact absurd h_3 (by decide) | exact absurd (by decide) h_3)
  · subst er_1
    rw [ek_2] at hl
    refine lv_if_eq (tgt := 15) hx hb dX5_can_5 (by decide) (fun h_4 => ?_) (fun h_4 => ?_)
    · exact (by first | exact absurd h_4 (by decide) | exact absurd (by decide) h_4)
    · refine lv_iload_n hx hb dX5_can_8 rfl (lv_at hl 2 rfl) ?_
      refine vp_callSi (va_Run.run (va_runS (As := [.int p1]) (rest := []) ⟨hx, hb, hml, hown, hts⟩ (k_X5_isDay l p1) (va_cwS 1 hts gX5_can_X5_isDay rfl rfl rfl (by decide +kernel) ⟨Nat.le_of_ble_eq_true rfl, Nat.le_of_ble_eq_true rfl⟩) ⟨fun _ _ _ _ q => q, fun _ _ _ => ⟨rfl, trivial⟩⟩ rfl rfl hl.1 rfl (lv_room (Nat.le_of_ble_eq_true rfl)) dX5_can_9 ⟨Nat.le_of_ble_eq_true rfl, Nat.le_of_ble_eq_true rfl⟩)) (fun r_5 er_5 => ?_)
      refine lv_if_ne (tgt := 17) hx hb dX5_can_12 (by decide) (fun h_6 => ?_) (fun h_6 => ?_)
      · refine lv_aload_n hx hb dX5_can_17 rfl (lv_at hl 0 rfl) ?_
        refine tp_get (ci := 4) (C := RX5) (T := TX5) (N := 11) hx hb hts hin_X5 hown hK hw hm_h0 6 ht_h0 (fun _ => rfl) rfl 7 (by decide) rfl (hts (.fieldLink RX5 29 "DayBench" "search" "LDayBench$Search;") (by decide +kernel)) (fun _ h9 => h9) dX5_can_18 (fun v_7 hf_8 hv_9 => ?_)
        obtain ⟨b_10, eb_10, hm_b_10, ht_b_10⟩ := hv_9
        subst eb_10
        refine lv_aload_n hx hb dX5_can_21 rfl (lv_at hl 0 rfl) ?_
        refine tp_get (ci := 4) (C := RX5) (T := TX5) (N := 11) hx hb hts hin_X5 hown hK hw hm_h0 6 ht_h0 (fun _ => rfl) rfl 4 (by decide) rfl (hts (.fieldLink RX5 71 "DayBench" "events" "I") (by decide +kernel)) (fun _ h9 => h9) dX5_can_22 (fun v_11 hf_12 hv_13 => ?_)
        obtain ⟨k_14, ek_14, hk_k_14⟩ := hv_13
        subst ek_14
        clear hf_12
        refine va_callv (va_runV (As := [.int (nI k_14)]) (rest := []) ⟨hx, hb, hml, hown, hts⟩ (k_X2_begin l dC dI cI cS cP cA L tg f hN hT hw.2.1 b_10 hm_b_10 ht_b_10 k_14 (by first | omega | decide)) (cwV 1 hts gX5_can_X2_begin rfl rfl rfl (by decide +kernel) ⟨Nat.le_of_ble_eq_true rfl, Nat.le_of_ble_eq_true rfl⟩) ⟨tPre_blind, tp_recv hK hw hm_b_10 4 ht_b_10 (ci := 1) (fun _ => rfl) rfl, fun U hU hW => ⟨rfl, tPre_at hw hK hcm hU hW⟩⟩ rfl rfl hl.1 rfl (lv_room (Nat.le_of_ble_eq_true rfl)) dX5_can_25 ⟨Nat.le_of_ble_eq_true rfl, Nat.le_of_ble_eq_true rfl⟩) hw.2.2.2 (fun q _ h => h) (fun q h => h) (fun f t H locs ht hvm hp hB hz1 hk1 hS1 => ?_)
        obtain ⟨hI1, hF1⟩ := hp
        have hw := hw.back (S' := (fun t => t == 4)) (by decide) hT hI1 hF1 hB ht hS1
        have hf_8 : fld (f h0) 7 = some (.ref b_10) := by rw [hF1 h0 hm_h0 (by rw [ht_h0]; rfl)]; exact hf_8
        clear hI1 hF1 hB ht hz1 hk1 hS1 hvm
        refine lv_aload_n hx hb dX5_can_28 rfl (lv_at hl 0 rfl) ?_
        refine tp_getK (ci := 4) (C := RX5) (T := TX5) (N := 11) hx hb hts hin_X5 hown hK hw hm_h0 6 ht_h0 (fun _ => rfl) rfl 7 (by decide) hf_8 (hts (.fieldLink RX5 29 "DayBench" "search" "LDayBench$Search;") (by decide +kernel)) (fun _ h9 => h9) dX5_can_29 ?_
        refine lv_aload_n hx hb dX5_can_32 rfl (lv_at hl 0 rfl) ?_
        refine tp_get (ci := 4) (C := RX5) (T := TX5) (N := 11) hx hb hts hin_X5 hown hK hw hm_h0 6 ht_h0 (fun _ => rfl) rfl 5 (by decide) rfl (hts (.fieldLink RX5 21 "DayBench" "sayings" "[LDayBench$Saying;") (by decide +kernel)) (fun _ h9 => h9) dX5_can_33 (fun v_16 hf_17 hv_18 => ?_)
        obtain ⟨b_19, eb_19, hm_b_19, ht_b_19⟩ := hv_18
        subst eb_19
        refine lv_aload_n hx hb dX5_can_36 rfl (lv_at hl 0 rfl) ?_
        refine vp_callSi (va_Run.run (va_runV (As := []) (rest := [.ref b_19, .ref b_10]) ⟨hx, hb, hml, hown, hts⟩ (k_X5_takenSet l dC dI cI cS cP cA L tg f hN hT hw.2.1 h0 hm_h0 ht_h0) (cwV 0 hts gX5_can_X5_takenSet rfl rfl rfl (by decide +kernel) ⟨Nat.le_of_ble_eq_true rfl, Nat.le_of_ble_eq_true rfl⟩) ⟨tPre_blind, tp_recv hK hw hm_h0 6 ht_h0 (ci := 4) (fun _ => rfl) rfl, fun U hU hW => ⟨rfl, tPre_at hw hK hcm hU hW⟩⟩ rfl rfl hl.1 rfl (lv_room (Nat.le_of_ble_eq_true rfl)) dX5_can_37 ⟨Nat.le_of_ble_eq_true rfl, Nat.le_of_ble_eq_true rfl⟩)) (fun r_20 hr_20 => ?_)
        refine va_callv (va_runV (As := [.ref b_19, .int r_20]) (rest := []) ⟨hx, hb, hml, hown, hts⟩ (k_X2_lay l dC dI cI cS cP cA L tg f hN hT hw.2.1 b_10 hm_b_10 ht_b_10 b_19 hm_b_19 ht_b_19 r_20) (cwV 2 hts gX5_can_X2_lay rfl rfl rfl (by decide +kernel) ⟨Nat.le_of_ble_eq_true rfl, Nat.le_of_ble_eq_true rfl⟩) ⟨tPre_blind, tp_recv hK hw hm_b_10 4 ht_b_10 (ci := 1) (fun _ => rfl) rfl, fun U hU hW => ⟨rfl, tPre_at hw hK hcm hU hW⟩⟩ rfl rfl hl.1 rfl (lv_room (Nat.le_of_ble_eq_true rfl)) dX5_can_40 ⟨Nat.le_of_ble_eq_true rfl, Nat.le_of_ble_eq_true rfl⟩) hw.2.2.2 (fun q _ h => h) (fun q h => h) (fun f t H locs ht hvm hp hB hz1 hk1 hS1 => ?_)
        obtain ⟨hI1, hF1⟩ := hp
        have hw := hw.back (S' := (fun t => t == 1 || t == 2 || t == 3 || t == 4 || t == 10)) (by decide) hT hI1 hF1 hB ht hS1
        have hf_8 : fld (f h0) 7 = some (.ref b_10) := by rw [hF1 h0 hm_h0 (by rw [ht_h0]; rfl)]; exact hf_8
        have hf_17 : fld (f h0) 5 = some (.ref b_19) := by rw [hF1 h0 hm_h0 (by rw [ht_h0]; rfl)]; exact hf_17
        clear hI1 hF1 hB ht hz1 hk1 hS1 hvm
        refine lv_aload_n hx hb dX5_can_43 rfl (lv_at hl 0 rfl) ?_
        refine tp_getK (ci := 4) (C := RX5) (T := TX5) (N := 11) hx hb hts hin_X5 hown hK hw hm_h0 6 ht_h0 (fun _ => rfl) rfl 7 (by decide) hf_8 (hts (.fieldLink RX5 29 "DayBench" "search" "LDayBench$Search;") (by decide +kernel)) (fun _ h9 => h9) dX5_can_44 ?_
        refine lv_iload_n hx hb dX5_can_47 rfl (lv_at hl 1 rfl) ?_
        refine lv_iload_n hx hb dX5_can_48 rfl (lv_at hl 2 rfl) ?_
        refine va_callv (va_runV (As := [.int (nI k_2), .int p1]) (rest := []) ⟨hx, hb, hml, hown, hts⟩ (k_X2_find l dC dI cI cS cP cA L tg f hN hT hw.2.1 b_10 hm_b_10 ht_b_10 (nI k_2) p1) (cwV 2 hts gX5_can_X2_find rfl rfl rfl (by decide +kernel) ⟨Nat.le_of_ble_eq_true rfl, Nat.le_of_ble_eq_true rfl⟩) ⟨tPre_blind, tp_recv hK hw hm_b_10 4 ht_b_10 (ci := 1) (fun _ => rfl) rfl, fun U hU hW => ⟨rfl, tPre_at hw hK hcm hU hW⟩⟩ rfl rfl hl.1 rfl (lv_room (Nat.le_of_ble_eq_true rfl)) dX5_can_49 ⟨Nat.le_of_ble_eq_true rfl, Nat.le_of_ble_eq_true rfl⟩) hw.2.2.2 (fun q _ h => h) (fun q h => h) (fun f t H locs ht hvm hp hB hz1 hk1 hS1 => ?_)
        obtain ⟨hI1, hF1⟩ := hp
        have hw := hw.back (S' := (fun t => t == 1 || t == 2 || t == 4 || t == 10)) (by decide) hT hI1 hF1 hB ht hS1
        have hf_8 : fld (f h0) 7 = some (.ref b_10) := by rw [hF1 h0 hm_h0 (by rw [ht_h0]; rfl)]; exact hf_8
        have hf_17 : fld (f h0) 5 = some (.ref b_19) := by rw [hF1 h0 hm_h0 (by rw [ht_h0]; rfl)]; exact hf_17
        clear hI1 hF1 hB ht hz1 hk1 hS1 hvm
        refine lv_aload_n hx hb dX5_can_52 rfl (lv_at hl 0 rfl) ?_
        refine tp_getK (ci := 4) (C := RX5) (T := TX5) (N := 11) hx hb hts hin_X5 hown hK hw hm_h0 6 ht_h0 (fun _ => rfl) rfl 7 (by decide) hf_8 (hts (.fieldLink RX5 29 "DayBench" "search" "LDayBench$Search;") (by decide +kernel)) (fun _ h9 => h9) dX5_can_53 ?_
        refine lv_iconst (v := 1) hx hb dX5_can_56 (by decide) ?_
        refine va_calli (va_runV (As := [.int 1]) (rest := []) ⟨hx, hb, hml, hown, hts⟩ (k_X2_run l dC dI cI cS cP cA L tg f hN hT hw.2.1 b_10 hm_b_10 ht_b_10 1 (Or.inr rfl)) (cwV 1 hts gX5_can_X2_run rfl rfl rfl (by decide +kernel) ⟨Nat.le_of_ble_eq_true rfl, Nat.le_of_ble_eq_true rfl⟩) ⟨tPre_blind, tp_recv hK hw hm_b_10 4 ht_b_10 (ci := 1) (fun _ => rfl) rfl, fun U hU hW => ⟨rfl, tPre_at hw hK hcm hU hW⟩⟩ rfl rfl hl.1 rfl (lv_room (Nat.le_of_ble_eq_true rfl)) dX5_can_57 ⟨Nat.le_of_ble_eq_true rfl, Nat.le_of_ble_eq_true rfl⟩) hw.2.2.2 (fun q _ h => h) (fun q h => h) (fun r_23 f t H locs ht hvm hp hB hz1 hk1 hS1 => ?_)
        obtain ⟨hI1, hF1⟩ := hp
        have hw := hw.back (S' := (fun t => t == 3 || t == 4)) (by decide) hT hI1 hF1 hB ht hS1
        have hf_8 : fld (f h0) 7 = some (.ref b_10) := by rw [hF1 h0 hm_h0 (by rw [ht_h0]; rfl)]; exact hf_8
        have hf_17 : fld (f h0) 5 = some (.ref b_19) := by rw [hF1 h0 hm_h0 (by rw [ht_h0]; rfl)]; exact hf_17
        clear hI1 hF1 hB ht hz1 hk1 hS1 hvm
        subst hQ
        have hI9 := hw.2.1
        have hF9 := hw.2.2.1
        have hS9 := hw.2.2.2
        rw [hf0] at hF9
        exact W.iret (v := r_23) hx hb hr (fun t ht hW => ⟨⟨_, _, rfl, ⟨hI9, hF9⟩, hw.at ht⟩, hS9.F ht⟩) hS9.2.2 dX5_can_60
      · refine lv_iconst (v := (-1)) hx hb dX5_can_15 (by decide) ?_
        subst hQ
        have hI9 := hw.2.1
        have hF9 := hw.2.2.1
        have hS9 := hw.2.2.2
        rw [hf0] at hF9
        exact W.iret (v := (-1)) hx hb hr (fun t ht hW => ⟨⟨_, _, rfl, ⟨hI9, hF9⟩, hw.at ht⟩, hS9.F ht⟩) hS9.2.2 dX5_can_16

set_option maxHeartbeats 4000000 in
set_option maxRecDepth 100000 in
theorem k_X5_agrees (l : Launch) (dC : Nat → ClassId) (dI : Nat → Nat → Nat) (cI cS cP cA : ClassId) (L : List Nat) (tg : Nat → Nat) (f : Nat → va_E) (hN : L.Nodup) (hT : ∀ a : Nat, a ∈ L → tg a < 13) (hI : PI cI cS cP cA L tg f) (h0 : Nat) (hm_h0 : h0 ∈ L) (ht_h0 : tg h0 = 6) : Met l yX5_agrees wsX5_agrees ({ frames := 11, cells := 0, slots := 0, locals := 234 }) (va_Pc [.ref h0] (tPre dC dI cI cS cP cA L f)) (va_Qi (fun (r : Int32) (f' : Nat → va_E) => PI cI cS cP cA L tg f' ∧ Fr L tg (fun t => t == 1 || t == 2 || t == 3 || t == 4 || t == 10) f f') (fun (f' : Nat → va_E) t => va_P (dC, dI) vwCl (va_pl L f') t.heap) (fun q : Nat => q ∈ L)) 0 0 (fun q : Nat => q ∈ L) := by
  refine Met.ofW (cc := cX5_agrees) (maxL := 1) (ret := (some .int)) (by decide) rfl ?_
  intro p e s m args below meth c s₁ B hml hv
  obtain ⟨rfl, hP, hK, hcm⟩ := hv
  have hx := B.exec
  have hb := B.bytes
  have hr := B.returns
  have hts := atoms_spec (ws := wsX5_agrees) B.pre
  have hown : s.vm.findClass RX5 = some m.cls := findClass_of_methodNamed B.named
  have hlocks := B.notSynchronized
  have hin_X5 : ∀ w ∈ u_ws RX5 TX5 11, w ∈ wsX5_agrees := by decide +kernel
  have hl := lv_entry ([.ref h0]) (n := 1) (Nat.le_of_ble_eq_true rfl)
  rw [lg_entry_eq]
  generalize (lg_sl ([.ref h0]) ++ List.replicate (1 - (lg_sl ([.ref h0])).length) Slot.unset).toArray = ls at hl ⊢
  have hl : lv_has ls 1 [(0, .ref h0)] := hl
  generalize hQ : MQ below (va_Qi (fun (r : Int32) (f' : Nat → va_E) => PI cI cS cP cA L tg f' ∧ Fr L tg (fun t => t == 1 || t == 2 || t == 3 || t == 4 || t == 10) f f') (fun (f' : Nat → va_E) t => va_P (dC, dI) vwCl (va_pl L f') t.heap) (fun q : Nat => q ∈ L)) [.ref h0].toArray s 0 0 (fun q : Nat => q ∈ L) = Q
  obtain ⟨f0, hf0⟩ : ∃ g : Nat → va_E, g = f := ⟨_, rfl⟩
  have hw : PW dC dI cI cS cP cA L tg (fun t => t == 1 || t == 2 || t == 3 || t == 4 || t == 10) f0 s.heap f s.heap [] := by rw [hf0]; exact PW.start hP hI
  clear hP
  refine lv_aload_n hx hb dX5_agrees_0 rfl (lv_at hl 0 rfl) ?_
  refine tp_get (ci := 4) (C := RX5) (T := TX5) (N := 11) hx hb hts hin_X5 hown hK hw hm_h0 6 ht_h0 (fun _ => rfl) rfl 7 (by decide) rfl (hts (.fieldLink RX5 29 "DayBench" "search" "LDayBench$Search;") (by decide +kernel)) (fun _ h9 => h9) dX5_agrees_1 (fun v_1 hf_2 hv_3 => ?_)
  obtain ⟨b_4, eb_4, hm_b_4, ht_b_4⟩ := hv_3
  subst eb_4
  refine lv_aload_n hx hb dX5_agrees_4 rfl (lv_at hl 0 rfl) ?_
  refine tp_get (ci := 4) (C := RX5) (T := TX5) (N := 11) hx hb hts hin_X5 hown hK hw hm_h0 6 ht_h0 (fun _ => rfl) rfl 4 (by decide) rfl (hts (.fieldLink RX5 71 "DayBench" "events" "I") (by decide +kernel)) (fun _ h9 => h9) dX5_agrees_5 (fun v_5 hf_6 hv_7 => ?_)
  obtain ⟨k_8, ek_8, hk_k_8⟩ := hv_7
  subst ek_8
  clear hf_6
  refine va_callv (va_runV (As := [.int (nI k_8)]) (rest := []) ⟨hx, hb, hml, hown, hts⟩ (k_X2_begin l dC dI cI cS cP cA L tg f hN hT hw.2.1 b_4 hm_b_4 ht_b_4 k_8 (by first | omega | decide)) (cwV 1 hts gX5_agrees_X2_begin rfl rfl rfl (by decide +kernel) ⟨Nat.le_of_ble_eq_true rfl, Nat.le_of_ble_eq_true rfl⟩) ⟨tPre_blind, tp_recv hK hw hm_b_4 4 ht_b_4 (ci := 1) (fun _ => rfl) rfl, fun U hU hW => ⟨rfl, tPre_at hw hK hcm hU hW⟩⟩ rfl rfl hl.1 rfl (lv_room (Nat.le_of_ble_eq_true rfl)) dX5_agrees_8 ⟨Nat.le_of_ble_eq_true rfl, Nat.le_of_ble_eq_true rfl⟩) hw.2.2.2 (fun q _ h => h) (fun q h => h) (fun f t H locs ht hvm hp hB hz1 hk1 hS1 => ?_)
  obtain ⟨hI1, hF1⟩ := hp
  have hw := hw.back (S' := (fun t => t == 4)) (by decide) hT hI1 hF1 hB ht hS1
  have hf_2 : fld (f h0) 7 = some (.ref b_4) := by rw [hF1 h0 hm_h0 (by rw [ht_h0]; rfl)]; exact hf_2
  clear hI1 hF1 hB ht hz1 hk1 hS1 hvm
  refine lv_aload_n hx hb dX5_agrees_11 rfl (lv_at hl 0 rfl) ?_
  refine lv_aload_n hx hb dX5_agrees_12 rfl (lv_at hl 0 rfl) ?_
  refine vp_callSi (va_Run.run (va_runV (As := []) (rest := [.ref h0]) ⟨hx, hb, hml, hown, hts⟩ (k_X5_takenSet l dC dI cI cS cP cA L tg f hN hT hw.2.1 h0 hm_h0 ht_h0) (cwV 0 hts gX5_agrees_X5_takenSet rfl rfl rfl (by decide +kernel) ⟨Nat.le_of_ble_eq_true rfl, Nat.le_of_ble_eq_true rfl⟩) ⟨tPre_blind, tp_recv hK hw hm_h0 6 ht_h0 (ci := 4) (fun _ => rfl) rfl, fun U hU hW => ⟨rfl, tPre_at hw hK hcm hU hW⟩⟩ rfl rfl hl.1 rfl (lv_room (Nat.le_of_ble_eq_true rfl)) dX5_agrees_13 ⟨Nat.le_of_ble_eq_true rfl, Nat.le_of_ble_eq_true rfl⟩)) (fun r_10 hr_10 => ?_)
  refine va_calli (va_runV (As := [.int r_10]) (rest := []) ⟨hx, hb, hml, hown, hts⟩ (k_X5_askSet l dC dI cI cS cP cA L tg f hN hT hw.2.1 h0 hm_h0 ht_h0 r_10) (cwV 1 hts gX5_agrees_X5_askSet rfl rfl rfl (by decide +kernel) ⟨Nat.le_of_ble_eq_true rfl, Nat.le_of_ble_eq_true rfl⟩) ⟨tPre_blind, tp_recv hK hw hm_h0 6 ht_h0 (ci := 4) (fun _ => rfl) rfl, fun U hU hW => ⟨rfl, tPre_at hw hK hcm hU hW⟩⟩ rfl rfl hl.1 rfl (lv_room (Nat.le_of_ble_eq_true rfl)) dX5_agrees_16 ⟨Nat.le_of_ble_eq_true rfl, Nat.le_of_ble_eq_true rfl⟩) hw.2.2.2 (fun q _ h => h) (fun q h => h) (fun r_11 f t H locs ht hvm hp hB hz1 hk1 hS1 => ?_)
  obtain ⟨hI1, hF1⟩ := hp
  have hw := hw.back (S' := (fun t => t == 1 || t == 2 || t == 3 || t == 4 || t == 10)) (by decide) hT hI1 hF1 hB ht hS1
  have hf_2 : fld (f h0) 7 = some (.ref b_4) := by rw [hF1 h0 hm_h0 (by rw [ht_h0]; rfl)]; exact hf_2
  clear hI1 hF1 hB ht hz1 hk1 hS1 hvm
  subst hQ
  have hI9 := hw.2.1
  have hF9 := hw.2.2.1
  have hS9 := hw.2.2.2
  rw [hf0] at hF9
  exact W.iret (v := r_11) hx hb hr (fun t ht hW => ⟨⟨_, _, rfl, ⟨hI9, hF9⟩, hw.at ht⟩, hS9.F ht⟩) hS9.2.2 dX5_agrees_19

set_option maxHeartbeats 4000000 in
set_option maxRecDepth 100000 in
theorem k_X5_askWidth (l : Launch) (dC : Nat → ClassId) (dI : Nat → Nat → Nat) (cI cS cP cA : ClassId) (L : List Nat) (tg : Nat → Nat) (f : Nat → va_E) (hN : L.Nodup) (hT : ∀ a : Nat, a ∈ L → tg a < 13) (hI : PI cI cS cP cA L tg f) (h0 : Nat) (hm_h0 : h0 ∈ L) (ht_h0 : tg h0 = 6) (p0 : Int32) (p1 : Int32) : Met l yX5_askWidth wsX5_askWidth ({ frames := 10, cells := 0, slots := 0, locals := 213 }) (va_Pc [.ref h0, .int p0, .int p1] (tPre dC dI cI cS cP cA L f)) (va_Qi (fun (r : Int32) (f' : Nat → va_E) => PI cI cS cP cA L tg f' ∧ Fr L tg (fun t => t == 1 || t == 2 || t == 3 || t == 4 || t == 10) f f') (fun (f' : Nat → va_E) t => va_P (dC, dI) vwCl (va_pl L f') t.heap) (fun q : Nat => q ∈ L)) 0 0 (fun q : Nat => q ∈ L) := by
  refine Met.ofW (cc := cX5_askWidth) (maxL := 6) (ret := (some .int)) (by decide) rfl ?_
  intro p e s m args below meth c s₁ B hml hv
  obtain ⟨rfl, hP, hK, hcm⟩ := hv
  have hx := B.exec
  have hb := B.bytes
  have hr := B.returns
  have hts := atoms_spec (ws := wsX5_askWidth) B.pre
  have hown : s.vm.findClass RX5 = some m.cls := findClass_of_methodNamed B.named
  have hlocks := B.notSynchronized
  have hin_X5 : ∀ w ∈ u_ws RX5 TX5 11, w ∈ wsX5_askWidth := by decide +kernel
  have hin_X2 : ∀ w ∈ u_ws RX2 TX2 14, w ∈ wsX5_askWidth := by decide +kernel
  have hl := lv_entry ([.ref h0, .int p0, .int p1]) (n := 6) (Nat.le_of_ble_eq_true rfl)
  rw [lg_entry_eq]
  generalize (lg_sl ([.ref h0, .int p0, .int p1]) ++ List.replicate (6 - (lg_sl ([.ref h0, .int p0, .int p1])).length) Slot.unset).toArray = ls at hl ⊢
  have hl : lv_has ls 6 [(0, .ref h0), (1, .int p0), (2, .int p1)] := hl
  generalize hQ : MQ below (va_Qi (fun (r : Int32) (f' : Nat → va_E) => PI cI cS cP cA L tg f' ∧ Fr L tg (fun t => t == 1 || t == 2 || t == 3 || t == 4 || t == 10) f f') (fun (f' : Nat → va_E) t => va_P (dC, dI) vwCl (va_pl L f') t.heap) (fun q : Nat => q ∈ L)) [.ref h0, .int p0, .int p1].toArray s 0 0 (fun q : Nat => q ∈ L) = Q
  obtain ⟨f0, hf0⟩ : ∃ g : Nat → va_E, g = f := ⟨_, rfl⟩
  have hw : PW dC dI cI cS cP cA L tg (fun t => t == 1 || t == 2 || t == 3 || t == 4 || t == 10) f0 s.heap f s.heap [] := by rw [hf0]; exact PW.start hP hI
  clear hP
  refine lv_aload_n hx hb dX5_askWidth_0 rfl (lv_at hl 0 rfl) ?_
  refine tp_get (ci := 4) (C := RX5) (T := TX5) (N := 11) hx hb hts hin_X5 hown hK hw hm_h0 6 ht_h0 (fun _ => rfl) rfl 7 (by decide) rfl (hts (.fieldLink RX5 29 "DayBench" "search" "LDayBench$Search;") (by decide +kernel)) (fun _ h9 => h9) dX5_askWidth_1 (fun v_1 hf_2 hv_3 => ?_)
  obtain ⟨b_4, eb_4, hm_b_4, ht_b_4⟩ := hv_3
  subst eb_4
  refine lv_aload_n hx hb dX5_askWidth_4 rfl (lv_at hl 0 rfl) ?_
  refine tp_get (ci := 4) (C := RX5) (T := TX5) (N := 11) hx hb hts hin_X5 hown hK hw hm_h0 6 ht_h0 (fun _ => rfl) rfl 4 (by decide) rfl (hts (.fieldLink RX5 71 "DayBench" "events" "I") (by decide +kernel)) (fun _ h9 => h9) dX5_askWidth_5 (fun v_5 hf_6 hv_7 => ?_)
  obtain ⟨k_8, ek_8, hk_k_8⟩ := hv_7
  subst ek_8
  clear hf_6
  refine va_callv (va_runV (As := [.int (nI k_8)]) (rest := []) ⟨hx, hb, hml, hown, hts⟩ (k_X2_begin l dC dI cI cS cP cA L tg f hN hT hw.2.1 b_4 hm_b_4 ht_b_4 k_8 (by first | omega | decide)) (cwV 1 hts gX5_askWidth_X2_begin rfl rfl rfl (by decide +kernel) ⟨Nat.le_of_ble_eq_true rfl, Nat.le_of_ble_eq_true rfl⟩) ⟨tPre_blind, tp_recv hK hw hm_b_4 4 ht_b_4 (ci := 1) (fun _ => rfl) rfl, fun U hU hW => ⟨rfl, tPre_at hw hK hcm hU hW⟩⟩ rfl rfl hl.1 rfl (lv_room (Nat.le_of_ble_eq_true rfl)) dX5_askWidth_8 ⟨Nat.le_of_ble_eq_true rfl, Nat.le_of_ble_eq_true rfl⟩) hw.2.2.2 (fun q _ h => h) (fun q h => h) (fun f t H locs ht hvm hp hB hz1 hk1 hS1 => ?_)
  obtain ⟨hI1, hF1⟩ := hp
  have hw := hw.back (S' := (fun t => t == 4)) (by decide) hT hI1 hF1 hB ht hS1
  have hf_2 : fld (f h0) 7 = some (.ref b_4) := by rw [hF1 h0 hm_h0 (by rw [ht_h0]; rfl)]; exact hf_2
  clear hI1 hF1 hB ht hz1 hk1 hS1 hvm
  refine lv_aload_n hx hb dX5_askWidth_11 rfl (lv_at hl 0 rfl) ?_
  refine tp_getK (ci := 4) (C := RX5) (T := TX5) (N := 11) hx hb hts hin_X5 hown hK hw hm_h0 6 ht_h0 (fun _ => rfl) rfl 7 (by decide) hf_2 (hts (.fieldLink RX5 29 "DayBench" "search" "LDayBench$Search;") (by decide +kernel)) (fun _ h9 => h9) dX5_askWidth_12 ?_
  refine lv_aload_n hx hb dX5_askWidth_15 rfl (lv_at hl 0 rfl) ?_
  refine tp_get (ci := 4) (C := RX5) (T := TX5) (N := 11) hx hb hts hin_X5 hown hK hw hm_h0 6 ht_h0 (fun _ => rfl) rfl 5 (by decide) rfl (hts (.fieldLink RX5 21 "DayBench" "sayings" "[LDayBench$Saying;") (by decide +kernel)) (fun _ h9 => h9) dX5_askWidth_16 (fun v_10 hf_11 hv_12 => ?_)
  obtain ⟨b_13, eb_13, hm_b_13, ht_b_13⟩ := hv_12
  subst eb_13
  refine lv_aload_n hx hb dX5_askWidth_19 rfl (lv_at hl 0 rfl) ?_
  refine vp_callSi (va_Run.run (va_runV (As := []) (rest := [.ref b_13, .ref b_4]) ⟨hx, hb, hml, hown, hts⟩ (k_X5_takenSet l dC dI cI cS cP cA L tg f hN hT hw.2.1 h0 hm_h0 ht_h0) (cwV 0 hts gX5_askWidth_X5_takenSet rfl rfl rfl (by decide +kernel) ⟨Nat.le_of_ble_eq_true rfl, Nat.le_of_ble_eq_true rfl⟩) ⟨tPre_blind, tp_recv hK hw hm_h0 6 ht_h0 (ci := 4) (fun _ => rfl) rfl, fun U hU hW => ⟨rfl, tPre_at hw hK hcm hU hW⟩⟩ rfl rfl hl.1 rfl (lv_room (Nat.le_of_ble_eq_true rfl)) dX5_askWidth_20 ⟨Nat.le_of_ble_eq_true rfl, Nat.le_of_ble_eq_true rfl⟩)) (fun r_14 hr_14 => ?_)
  refine va_callv (va_runV (As := [.ref b_13, .int r_14]) (rest := []) ⟨hx, hb, hml, hown, hts⟩ (k_X2_lay l dC dI cI cS cP cA L tg f hN hT hw.2.1 b_4 hm_b_4 ht_b_4 b_13 hm_b_13 ht_b_13 r_14) (cwV 2 hts gX5_askWidth_X2_lay rfl rfl rfl (by decide +kernel) ⟨Nat.le_of_ble_eq_true rfl, Nat.le_of_ble_eq_true rfl⟩) ⟨tPre_blind, tp_recv hK hw hm_b_4 4 ht_b_4 (ci := 1) (fun _ => rfl) rfl, fun U hU hW => ⟨rfl, tPre_at hw hK hcm hU hW⟩⟩ rfl rfl hl.1 rfl (lv_room (Nat.le_of_ble_eq_true rfl)) dX5_askWidth_23 ⟨Nat.le_of_ble_eq_true rfl, Nat.le_of_ble_eq_true rfl⟩) hw.2.2.2 (fun q _ h => h) (fun q h => h) (fun f t H locs ht hvm hp hB hz1 hk1 hS1 => ?_)
  obtain ⟨hI1, hF1⟩ := hp
  have hw := hw.back (S' := (fun t => t == 1 || t == 2 || t == 3 || t == 4 || t == 10)) (by decide) hT hI1 hF1 hB ht hS1
  have hf_2 : fld (f h0) 7 = some (.ref b_4) := by rw [hF1 h0 hm_h0 (by rw [ht_h0]; rfl)]; exact hf_2
  have hf_11 : fld (f h0) 5 = some (.ref b_13) := by rw [hF1 h0 hm_h0 (by rw [ht_h0]; rfl)]; exact hf_11
  clear hI1 hF1 hB ht hz1 hk1 hS1 hvm
  refine lv_iload_n hx hb dX5_askWidth_26 rfl (lv_at hl 1 rfl) ?_
  refine lv_iconst (v := (-1)) hx hb dX5_askWidth_27 (by decide) ?_
  refine lv_icmp_eq (tgt := 40) hx hb dX5_askWidth_28 (by decide) (fun h_16 => ?_) (fun h_16 => ?_)
  · refine lv_aload_n hx hb dX5_askWidth_40 rfl (lv_at hl 0 rfl) ?_
    refine tp_getK (ci := 4) (C := RX5) (T := TX5) (N := 11) hx hb hts hin_X5 hown hK hw hm_h0 6 ht_h0 (fun _ => rfl) rfl 7 (by decide) hf_2 (hts (.fieldLink RX5 29 "DayBench" "search" "LDayBench$Search;") (by decide +kernel)) (fun _ h9 => h9) dX5_askWidth_41 ?_
    refine lv_iconst (v := 0) hx hb dX5_askWidth_44 (by decide) ?_
    refine va_calli (va_runV (As := [.int 0]) (rest := []) ⟨hx, hb, hml, hown, hts⟩ (k_X2_run l dC dI cI cS cP cA L tg f hN hT hw.2.1 b_4 hm_b_4 ht_b_4 0 (Or.inl rfl)) (cwV 1 hts gX5_askWidth_X2_run rfl rfl rfl (by decide +kernel) ⟨Nat.le_of_ble_eq_true rfl, Nat.le_of_ble_eq_true rfl⟩) ⟨tPre_blind, tp_recv hK hw hm_b_4 4 ht_b_4 (ci := 1) (fun _ => rfl) rfl, fun U hU hW => ⟨rfl, tPre_at hw hK hcm hU hW⟩⟩ rfl rfl hl.1 rfl (lv_room (Nat.le_of_ble_eq_true rfl)) dX5_askWidth_45 ⟨Nat.le_of_ble_eq_true rfl, Nat.le_of_ble_eq_true rfl⟩) hw.2.2.2 (fun q _ h => h) (fun q h => h) (fun r_17 f t H locs ht hvm hp hB hz1 hk1 hS1 => ?_)
    obtain ⟨hI1, hF1⟩ := hp
    have hw := hw.back (S' := (fun t => t == 3 || t == 4)) (by decide) hT hI1 hF1 hB ht hS1
    have hf_2 : fld (f h0) 7 = some (.ref b_4) := by rw [hF1 h0 hm_h0 (by rw [ht_h0]; rfl)]; exact hf_2
    have hf_11 : fld (f h0) 5 = some (.ref b_13) := by rw [hF1 h0 hm_h0 (by rw [ht_h0]; rfl)]; exact hf_11
    clear hI1 hF1 hB ht hz1 hk1 hS1 hvm
    refine lv_istore_n (lv' := [(3, .int r_17), (0, .ref h0), (1, .int p0), (2, .int p1)]) hx hb dX5_askWidth_48 rfl hl (by decide) rfl (fun ls hl => ?_)
    refine lv_iload_n hx hb dX5_askWidth_49 rfl (lv_at hl 0 rfl) ?_
    refine lv_iconst (v := 1) hx hb dX5_askWidth_50 (by decide) ?_
    refine lv_icmp_eq (tgt := 65) hx hb dX5_askWidth_51 (by decide) (fun h_18 => ?_) (fun h_18 => ?_)
    · refine lv_iconst (v := 0) hx hb dX5_askWidth_65 (by decide) ?_
      refine lv_istore (lv' := [(4, .int 0), (3, .int r_17), (0, .ref h0), (1, .int p0), (2, .int p1)]) hx hb dX5_askWidth_66 hl (by decide) rfl (fun ls hl => ?_)
      refine lv_iconst (v := 0) hx hb dX5_askWidth_68 (by decide) ?_
      refine lv_istore (lv' := [(5, .int 0), (4, .int 0), (3, .int r_17), (0, .ref h0), (1, .int p0), (2, .int p1)]) hx hb dX5_askWidth_69 hl (by decide) rfl (fun ls hl => ?_)
      have hl_71 : ∀ (fu : Nat) (ac : Int32) (i : Nat), 6 - i < fu → (i ≤ 6) → ∀ (f : Nat → va_E) (H : Heap) (locs : List Loc) (ls : Array Slot), PW dC dI cI cS cP cA L tg (fun t => t == 1 || t == 2 || t == 3 || t == 4 || t == 10) f0 s.heap f H locs → lv_has ls 6 [(5, .int (nI i)), (4, .int ac), (3, .int r_17), (0, .ref h0), (1, .int p0), (2, .int p1)] → W p l e (headSpec wsX5_askWidth ({ frames := 10, cells := 0, slots := 0, locals := 213 })).room s m [.ref h0, .int p0, .int p1].toArray below meth c H locs 0 0 Q (F0 m 71 ls []) := by
        intro fu
        induction fu with
        | zero => intro ac i hm9; exact absurd hm9 (Nat.not_lt_zero _)
        | succ fu ih_71 =>
          intro ac i hm_71 h_i f H locs ls hw hl
          refine lv_iload hx hb dX5_askWidth_71 (lv_at hl 0 rfl) ?_
          refine lv_aload_n hx hb dX5_askWidth_73 rfl (lv_at hl 3 rfl) ?_
          refine tp_get (ci := 4) (C := RX5) (T := TX5) (N := 11) hx hb hts hin_X5 hown hK hw hm_h0 6 ht_h0 (fun _ => rfl) rfl 4 (by decide) rfl (hts (.fieldLink RX5 71 "DayBench" "events" "I") (by decide +kernel)) (fun _ h9 => h9) dX5_askWidth_74 (fun v_19 hf_20 hv_21 => ?_)
          obtain ⟨k_22, ek_22, hk_k_22⟩ := hv_21
          subst ek_22
          clear hf_20
          refine lv_icmp_ge (tgt := 112) hx hb dX5_askWidth_77 (by decide) (fun h_23 => ?_) (fun h_23 => ?_)
          · have nh_23 : k_22 ≤ i := (nI_leI (a := k_22) (b := i) (by omega) (by omega)).mp h_23
            refine lv_iload hx hb dX5_askWidth_112 (lv_at hl 1 rfl) ?_
            subst hQ
            have hI9 := hw.2.1
            have hF9 := hw.2.2.1
            have hS9 := hw.2.2.2
            rw [hf0] at hF9
            exact W.iret (v := ac) hx hb hr (fun t ht hW => ⟨⟨_, _, rfl, ⟨hI9, hF9⟩, hw.at ht⟩, hS9.F ht⟩) hS9.2.2 dX5_askWidth_114
          · have nh_23 : ¬ k_22 ≤ i := fun q9 => h_23 ((nI_leI (a := k_22) (b := i) (by omega) (by omega)).mpr q9)
            refine lv_iload hx hb dX5_askWidth_80 (lv_at hl 1 rfl) ?_
            refine lv_aload_n hx hb dX5_askWidth_82 rfl (lv_at hl 3 rfl) ?_
            refine tp_get (ci := 4) (C := RX5) (T := TX5) (N := 11) hx hb hts hin_X5 hown hK hw hm_h0 6 ht_h0 (fun _ => rfl) rfl 7 (by decide) rfl (hts (.fieldLink RX5 29 "DayBench" "search" "LDayBench$Search;") (by decide +kernel)) (fun _ h9 => h9) dX5_askWidth_83 (fun v_24 hf_25 hv_26 => ?_)
            obtain ⟨b_27, eb_27, hm_b_27, ht_b_27⟩ := hv_26
            subst eb_27
            refine tp_get (ci := 1) (C := RX2) (T := TX2) (N := 14) hx hb hts hin_X2 hown hK hw hm_b_27 4 ht_b_27 (fun _ => rfl) rfl 1 (by decide) rfl (hts (.fieldLink RX5 145 "DayBench$Search" "latest" "[I") (by decide +kernel)) (fun _ h9 => h9) dX5_askWidth_86 (fun v_28 hf_29 hv_30 => ?_)
            obtain ⟨b_31, eb_31, hm_b_31, ht_b_31⟩ := hv_30
            subst eb_31
            refine lv_iload hx hb dX5_askWidth_89 (lv_at hl 0 rfl) ?_
            refine tp_iald hx hb hK hw hm_b_31 3 ht_b_31 (n := 6) (fun _ => rfl) (vp_in_nI (by omega) (by omega)) dX5_askWidth_91 (fun y_32 => ?_)
            refine lv_aload_n hx hb dX5_askWidth_92 rfl (lv_at hl 3 rfl) ?_
            refine tp_getK (ci := 4) (C := RX5) (T := TX5) (N := 11) hx hb hts hin_X5 hown hK hw hm_h0 6 ht_h0 (fun _ => rfl) rfl 7 (by decide) hf_25 (hts (.fieldLink RX5 29 "DayBench" "search" "LDayBench$Search;") (by decide +kernel)) (fun _ h9 => h9) dX5_askWidth_93 ?_
            refine tp_get (ci := 1) (C := RX2) (T := TX2) (N := 14) hx hb hts hin_X2 hown hK hw hm_b_27 4 ht_b_27 (fun _ => rfl) rfl 0 (by decide) rfl (hts (.fieldLink RX5 142 "DayBench$Search" "earliest" "[I") (by decide +kernel)) (fun _ h9 => h9) dX5_askWidth_96 (fun v_33 hf_34 hv_35 => ?_)
            obtain ⟨b_36, eb_36, hm_b_36, ht_b_36⟩ := hv_35
            subst eb_36
            refine lv_iload hx hb dX5_askWidth_99 (lv_at hl 0 rfl) ?_
            refine tp_iald hx hb hK hw hm_b_36 3 ht_b_36 (n := 6) (fun _ => rfl) (vp_in_nI (by omega) (by omega)) dX5_askWidth_101 (fun y_37 => ?_)
            refine lv_isub hx hb dX5_askWidth_102 ?_
            refine lv_iadd hx hb dX5_askWidth_103 ?_
            refine lv_topi (fun x_38 ex_38 => ?_)
            refine lv_istore (lv' := [(4, .int x_38), (5, .int (nI i)), (3, .int r_17), (0, .ref h0), (1, .int p0), (2, .int p1)]) hx hb dX5_askWidth_104 hl (by decide) rfl (fun ls hl => ?_)
            refine lv_iinc (v := nI (i + 1)) (lv' := [(5, .int (nI (i + 1))), (4, .int x_38), (3, .int r_17), (0, .ref h0), (1, .int p0), (2, .int p1)]) hx hb dX5_askWidth_106 hl (k := 1) rfl (nI_1 _) (by decide) rfl (fun ls hl => ?_)
            refine lv_goto (tgt := 71) hx hb dX5_askWidth_109 (by decide) ?_
            exact ih_71 x_38 ((i + 1)) (by omega) (by omega) _ _ _ ls hw (lv_sub hl [0, 1, 2, 3, 4, 5] rfl)
      exact hl_71 _ 0 0 (Nat.lt_succ_self _) (by omega) _ _ _ ls hw (lv_sub hl [0, 1, 2, 3, 4, 5] rfl)
    · refine lv_iload_n hx hb dX5_askWidth_54 rfl (lv_at hl 0 rfl) ?_
      refine lv_if_ne (tgt := 62) hx hb dX5_askWidth_55 (by decide) (fun h_39 => ?_) (fun h_39 => ?_)
      · refine lv_bipush (v := (-2)) hx hb dX5_askWidth_62 (by decide) ?_
        subst hQ
        have hI9 := hw.2.1
        have hF9 := hw.2.2.1
        have hS9 := hw.2.2.2
        rw [hf0] at hF9
        exact W.iret (v := (-2)) hx hb hr (fun t ht hW => ⟨⟨_, _, rfl, ⟨hI9, hF9⟩, hw.at ht⟩, hS9.F ht⟩) hS9.2.2 dX5_askWidth_64
      · refine lv_iconst (v := (-1)) hx hb dX5_askWidth_58 (by decide) ?_
        refine lv_goto (tgt := 64) hx hb dX5_askWidth_59 (by decide) ?_
        subst hQ
        have hI9 := hw.2.1
        have hF9 := hw.2.2.1
        have hS9 := hw.2.2.2
        rw [hf0] at hF9
        exact W.iret (v := (-1)) hx hb hr (fun t ht hW => ⟨⟨_, _, rfl, ⟨hI9, hF9⟩, hw.at ht⟩, hS9.F ht⟩) hS9.2.2 dX5_askWidth_64
  · refine lv_aload_n hx hb dX5_askWidth_31 rfl (lv_at hl 0 rfl) ?_
    refine tp_getK (ci := 4) (C := RX5) (T := TX5) (N := 11) hx hb hts hin_X5 hown hK hw hm_h0 6 ht_h0 (fun _ => rfl) rfl 7 (by decide) hf_2 (hts (.fieldLink RX5 29 "DayBench" "search" "LDayBench$Search;") (by decide +kernel)) (fun _ h9 => h9) dX5_askWidth_32 ?_
    refine lv_iload_n hx hb dX5_askWidth_35 rfl (lv_at hl 1 rfl) ?_
    refine lv_iload_n hx hb dX5_askWidth_36 rfl (lv_at hl 2 rfl) ?_
    refine va_callv (va_runV (As := [.int p0, .int p1]) (rest := []) ⟨hx, hb, hml, hown, hts⟩ (k_X2_find l dC dI cI cS cP cA L tg f hN hT hw.2.1 b_4 hm_b_4 ht_b_4 p0 p1) (cwV 2 hts gX5_askWidth_X2_find rfl rfl rfl (by decide +kernel) ⟨Nat.le_of_ble_eq_true rfl, Nat.le_of_ble_eq_true rfl⟩) ⟨tPre_blind, tp_recv hK hw hm_b_4 4 ht_b_4 (ci := 1) (fun _ => rfl) rfl, fun U hU hW => ⟨rfl, tPre_at hw hK hcm hU hW⟩⟩ rfl rfl hl.1 rfl (lv_room (Nat.le_of_ble_eq_true rfl)) dX5_askWidth_37 ⟨Nat.le_of_ble_eq_true rfl, Nat.le_of_ble_eq_true rfl⟩) hw.2.2.2 (fun q _ h => h) (fun q h => h) (fun f t H locs ht hvm hp hB hz1 hk1 hS1 => ?_)
    obtain ⟨hI1, hF1⟩ := hp
    have hw := hw.back (S' := (fun t => t == 1 || t == 2 || t == 4 || t == 10)) (by decide) hT hI1 hF1 hB ht hS1
    have hf_2 : fld (f h0) 7 = some (.ref b_4) := by rw [hF1 h0 hm_h0 (by rw [ht_h0]; rfl)]; exact hf_2
    have hf_11 : fld (f h0) 5 = some (.ref b_13) := by rw [hF1 h0 hm_h0 (by rw [ht_h0]; rfl)]; exact hf_11
    clear hI1 hF1 hB ht hz1 hk1 hS1 hvm
    refine lv_aload_n hx hb dX5_askWidth_40 rfl (lv_at hl 0 rfl) ?_
    refine tp_getK (ci := 4) (C := RX5) (T := TX5) (N := 11) hx hb hts hin_X5 hown hK hw hm_h0 6 ht_h0 (fun _ => rfl) rfl 7 (by decide) hf_2 (hts (.fieldLink RX5 29 "DayBench" "search" "LDayBench$Search;") (by decide +kernel)) (fun _ h9 => h9) dX5_askWidth_41 ?_
    refine lv_iconst (v := 0) hx hb dX5_askWidth_44 (by decide) ?_
    refine va_calli (va_runV (As := [.int 0]) (rest := []) ⟨hx, hb, hml, hown, hts⟩ (k_X2_run l dC dI cI cS cP cA L tg f hN hT hw.2.1 b_4 hm_b_4 ht_b_4 0 (Or.inl rfl)) (cwV 1 hts gX5_askWidth_X2_run rfl rfl rfl (by decide +kernel) ⟨Nat.le_of_ble_eq_true rfl, Nat.le_of_ble_eq_true rfl⟩) ⟨tPre_blind, tp_recv hK hw hm_b_4 4 ht_b_4 (ci := 1) (fun _ => rfl) rfl, fun U hU hW => ⟨rfl, tPre_at hw hK hcm hU hW⟩⟩ rfl rfl hl.1 rfl (lv_room (Nat.le_of_ble_eq_true rfl)) dX5_askWidth_45 ⟨Nat.le_of_ble_eq_true rfl, Nat.le_of_ble_eq_true rfl⟩) hw.2.2.2 (fun q _ h => h) (fun q h => h) (fun r_41 f t H locs ht hvm hp hB hz1 hk1 hS1 => ?_)
    obtain ⟨hI1, hF1⟩ := hp
    have hw := hw.back (S' := (fun t => t == 3 || t == 4)) (by decide) hT hI1 hF1 hB ht hS1
    have hf_2 : fld (f h0) 7 = some (.ref b_4) := by rw [hF1 h0 hm_h0 (by rw [ht_h0]; rfl)]; exact hf_2
    have hf_11 : fld (f h0) 5 = some (.ref b_13) := by rw [hF1 h0 hm_h0 (by rw [ht_h0]; rfl)]; exact hf_11
    clear hI1 hF1 hB ht hz1 hk1 hS1 hvm
    refine lv_istore_n (lv' := [(3, .int r_41), (0, .ref h0), (1, .int p0), (2, .int p1)]) hx hb dX5_askWidth_48 rfl hl (by decide) rfl (fun ls hl => ?_)
    refine lv_iload_n hx hb dX5_askWidth_49 rfl (lv_at hl 0 rfl) ?_
    refine lv_iconst (v := 1) hx hb dX5_askWidth_50 (by decide) ?_
    refine lv_icmp_eq (tgt := 65) hx hb dX5_askWidth_51 (by decide) (fun h_42 => ?_) (fun h_42 => ?_)
    · refine lv_iconst (v := 0) hx hb dX5_askWidth_65 (by decide) ?_
      refine lv_istore (lv' := [(4, .int 0), (3, .int r_41), (0, .ref h0), (1, .int p0), (2, .int p1)]) hx hb dX5_askWidth_66 hl (by decide) rfl (fun ls hl => ?_)
      refine lv_iconst (v := 0) hx hb dX5_askWidth_68 (by decide) ?_
      refine lv_istore (lv' := [(5, .int 0), (4, .int 0), (3, .int r_41), (0, .ref h0), (1, .int p0), (2, .int p1)]) hx hb dX5_askWidth_69 hl (by decide) rfl (fun ls hl => ?_)
      have hl_71 : ∀ (fu : Nat) (ac : Int32) (i : Nat), 6 - i < fu → (i ≤ 6) → ∀ (f : Nat → va_E) (H : Heap) (locs : List Loc) (ls : Array Slot), PW dC dI cI cS cP cA L tg (fun t => t == 1 || t == 2 || t == 3 || t == 4 || t == 10) f0 s.heap f H locs → lv_has ls 6 [(5, .int (nI i)), (4, .int ac), (3, .int r_41), (0, .ref h0), (1, .int p0), (2, .int p1)] → W p l e (headSpec wsX5_askWidth ({ frames := 10, cells := 0, slots := 0, locals := 213 })).room s m [.ref h0, .int p0, .int p1].toArray below meth c H locs 0 0 Q (F0 m 71 ls []) := by
        intro fu
        induction fu with
        | zero => intro ac i hm9; exact absurd hm9 (Nat.not_lt_zero _)
        | succ fu ih_71 =>
          intro ac i hm_71 h_i f H locs ls hw hl
          refine lv_iload hx hb dX5_askWidth_71 (lv_at hl 0 rfl) ?_
          refine lv_aload_n hx hb dX5_askWidth_73 rfl (lv_at hl 3 rfl) ?_
          refine tp_get (ci := 4) (C := RX5) (T := TX5) (N := 11) hx hb hts hin_X5 hown hK hw hm_h0 6 ht_h0 (fun _ => rfl) rfl 4 (by decide) rfl (hts (.fieldLink RX5 71 "DayBench" "events" "I") (by decide +kernel)) (fun _ h9 => h9) dX5_askWidth_74 (fun v_43 hf_44 hv_45 => ?_)
          obtain ⟨k_46, ek_46, hk_k_46⟩ := hv_45
          subst ek_46
          clear hf_44
          refine lv_icmp_ge (tgt := 112) hx hb dX5_askWidth_77 (by decide) (fun h_47 => ?_) (fun h_47 => ?_)
          · have nh_47 : k_46 ≤ i := (nI_leI (a := k_46) (b := i) (by omega) (by omega)).mp h_47
            refine lv_iload hx hb dX5_askWidth_112 (lv_at hl 1 rfl) ?_
            subst hQ
            have hI9 := hw.2.1
            have hF9 := hw.2.2.1
            have hS9 := hw.2.2.2
            rw [hf0] at hF9
            exact W.iret (v := ac) hx hb hr (fun t ht hW => ⟨⟨_, _, rfl, ⟨hI9, hF9⟩, hw.at ht⟩, hS9.F ht⟩) hS9.2.2 dX5_askWidth_114
          · have nh_47 : ¬ k_46 ≤ i := fun q9 => h_47 ((nI_leI (a := k_46) (b := i) (by omega) (by omega)).mpr q9)
            refine lv_iload hx hb dX5_askWidth_80 (lv_at hl 1 rfl) ?_
            refine lv_aload_n hx hb dX5_askWidth_82 rfl (lv_at hl 3 rfl) ?_
            refine tp_get (ci := 4) (C := RX5) (T := TX5) (N := 11) hx hb hts hin_X5 hown hK hw hm_h0 6 ht_h0 (fun _ => rfl) rfl 7 (by decide) rfl (hts (.fieldLink RX5 29 "DayBench" "search" "LDayBench$Search;") (by decide +kernel)) (fun _ h9 => h9) dX5_askWidth_83 (fun v_48 hf_49 hv_50 => ?_)
            obtain ⟨b_51, eb_51, hm_b_51, ht_b_51⟩ := hv_50
            subst eb_51
            refine tp_get (ci := 1) (C := RX2) (T := TX2) (N := 14) hx hb hts hin_X2 hown hK hw hm_b_51 4 ht_b_51 (fun _ => rfl) rfl 1 (by decide) rfl (hts (.fieldLink RX5 145 "DayBench$Search" "latest" "[I") (by decide +kernel)) (fun _ h9 => h9) dX5_askWidth_86 (fun v_52 hf_53 hv_54 => ?_)
            obtain ⟨b_55, eb_55, hm_b_55, ht_b_55⟩ := hv_54
            subst eb_55
            refine lv_iload hx hb dX5_askWidth_89 (lv_at hl 0 rfl) ?_
            refine tp_iald hx hb hK hw hm_b_55 3 ht_b_55 (n := 6) (fun _ => rfl) (vp_in_nI (by omega) (by omega)) dX5_askWidth_91 (fun y_56 => ?_)
            refine lv_aload_n hx hb dX5_askWidth_92 rfl (lv_at hl 3 rfl) ?_
            refine tp_getK (ci := 4) (C := RX5) (T := TX5) (N := 11) hx hb hts hin_X5 hown hK hw hm_h0 6 ht_h0 (fun _ => rfl) rfl 7 (by decide) hf_49 (hts (.fieldLink RX5 29 "DayBench" "search" "LDayBench$Search;") (by decide +kernel)) (fun _ h9 => h9) dX5_askWidth_93 ?_
            refine tp_get (ci := 1) (C := RX2) (T := TX2) (N := 14) hx hb hts hin_X2 hown hK hw hm_b_51 4 ht_b_51 (fun _ => rfl) rfl 0 (by decide) rfl (hts (.fieldLink RX5 142 "DayBench$Search" "earliest" "[I") (by decide +kernel)) (fun _ h9 => h9) dX5_askWidth_96 (fun v_57 hf_58 hv_59 => ?_)
            obtain ⟨b_60, eb_60, hm_b_60, ht_b_60⟩ := hv_59
            subst eb_60
            refine lv_iload hx hb dX5_askWidth_99 (lv_at hl 0 rfl) ?_
            refine tp_iald hx hb hK hw hm_b_60 3 ht_b_60 (n := 6) (fun _ => rfl) (vp_in_nI (by omega) (by omega)) dX5_askWidth_101 (fun y_61 => ?_)
            refine lv_isub hx hb dX5_askWidth_102 ?_
            refine lv_iadd hx hb dX5_askWidth_103 ?_
            refine lv_topi (fun x_62 ex_62 => ?_)
            refine lv_istore (lv' := [(4, .int x_62), (5, .int (nI i)), (3, .int r_41), (0, .ref h0), (1, .int p0), (2, .int p1)]) hx hb dX5_askWidth_104 hl (by decide) rfl (fun ls hl => ?_)
            refine lv_iinc (v := nI (i + 1)) (lv' := [(5, .int (nI (i + 1))), (4, .int x_62), (3, .int r_41), (0, .ref h0), (1, .int p0), (2, .int p1)]) hx hb dX5_askWidth_106 hl (k := 1) rfl (nI_1 _) (by decide) rfl (fun ls hl => ?_)
            refine lv_goto (tgt := 71) hx hb dX5_askWidth_109 (by decide) ?_
            exact ih_71 x_62 ((i + 1)) (by omega) (by omega) _ _ _ ls hw (lv_sub hl [0, 1, 2, 3, 4, 5] rfl)
      exact hl_71 _ 0 0 (Nat.lt_succ_self _) (by omega) _ _ _ ls hw (lv_sub hl [0, 1, 2, 3, 4, 5] rfl)
    · refine lv_iload_n hx hb dX5_askWidth_54 rfl (lv_at hl 0 rfl) ?_
      refine lv_if_ne (tgt := 62) hx hb dX5_askWidth_55 (by decide) (fun h_63 => ?_) (fun h_63 => ?_)
      · refine lv_bipush (v := (-2)) hx hb dX5_askWidth_62 (by decide) ?_
        subst hQ
        have hI9 := hw.2.1
        have hF9 := hw.2.2.1
        have hS9 := hw.2.2.2
        rw [hf0] at hF9
        exact W.iret (v := (-2)) hx hb hr (fun t ht hW => ⟨⟨_, _, rfl, ⟨hI9, hF9⟩, hw.at ht⟩, hS9.F ht⟩) hS9.2.2 dX5_askWidth_64
      · refine lv_iconst (v := (-1)) hx hb dX5_askWidth_58 (by decide) ?_
        refine lv_goto (tgt := 64) hx hb dX5_askWidth_59 (by decide) ?_
        subst hQ
        have hI9 := hw.2.1
        have hF9 := hw.2.2.1
        have hS9 := hw.2.2.2
        rw [hf0] at hF9
        exact W.iret (v := (-1)) hx hb hr (fun t ht hW => ⟨⟨_, _, rfl, ⟨hI9, hF9⟩, hw.at ht⟩, hS9.F ht⟩) hS9.2.2 dX5_askWidth_64

set_option maxHeartbeats 4000000 in
set_option maxRecDepth 100000 in
theorem k_X5_greaterWidth (l : Launch) (dC : Nat → ClassId) (dI : Nat → Nat → Nat) (cI cS cP cA : ClassId) (L : List Nat) (tg : Nat → Nat) (f : Nat → va_E) (hN : L.Nodup) (hT : ∀ a : Nat, a ∈ L → tg a < 13) (hI : PI cI cS cP cA L tg f) (h0 : Nat) (hm_h0 : h0 ∈ L) (ht_h0 : tg h0 = 6) (k0 : Nat) (h_k0 : k0 ≤ 5) : Met l yX5_greaterWidth wsX5_greaterWidth ({ frames := 11, cells := 0, slots := 0, locals := 238 }) (va_Pc [.ref h0, .int (nI k0)] (tPre dC dI cI cS cP cA L f)) (va_Qi (fun (r : Int32) (f' : Nat → va_E) => PI cI cS cP cA L tg f' ∧ Fr L tg (fun t => t == 1 || t == 2 || t == 3 || t == 4 || t == 10) f f') (fun (f' : Nat → va_E) t => va_P (dC, dI) vwCl (va_pl L f') t.heap) (fun q : Nat => q ∈ L)) 0 0 (fun q : Nat => q ∈ L) := by
  refine Met.ofW (cc := cX5_greaterWidth) (maxL := 4) (ret := (some .int)) (by decide) rfl ?_
  intro p e s m args below meth c s₁ B hml hv
  obtain ⟨rfl, hP, hK, hcm⟩ := hv
  have hx := B.exec
  have hb := B.bytes
  have hr := B.returns
  have hts := atoms_spec (ws := wsX5_greaterWidth) B.pre
  have hown : s.vm.findClass RX5 = some m.cls := findClass_of_methodNamed B.named
  have hlocks := B.notSynchronized
  have hin_X5 : ∀ w ∈ u_ws RX5 TX5 11, w ∈ wsX5_greaterWidth := by decide +kernel
  have hl := lv_entry ([.ref h0, .int (nI k0)]) (n := 4) (Nat.le_of_ble_eq_true rfl)
  rw [lg_entry_eq]
  generalize (lg_sl ([.ref h0, .int (nI k0)]) ++ List.replicate (4 - (lg_sl ([.ref h0, .int (nI k0)])).length) Slot.unset).toArray = ls at hl ⊢
  have hl : lv_has ls 4 [(0, .ref h0), (1, .int (nI k0))] := hl
  generalize hQ : MQ below (va_Qi (fun (r : Int32) (f' : Nat → va_E) => PI cI cS cP cA L tg f' ∧ Fr L tg (fun t => t == 1 || t == 2 || t == 3 || t == 4 || t == 10) f f') (fun (f' : Nat → va_E) t => va_P (dC, dI) vwCl (va_pl L f') t.heap) (fun q : Nat => q ∈ L)) [.ref h0, .int (nI k0)].toArray s 0 0 (fun q : Nat => q ∈ L) = Q
  obtain ⟨f0, hf0⟩ : ∃ g : Nat → va_E, g = f := ⟨_, rfl⟩
  have hw : PW dC dI cI cS cP cA L tg (fun t => t == 1 || t == 2 || t == 3 || t == 4 || t == 10) f0 s.heap f s.heap [] := by rw [hf0]; exact PW.start hP hI
  clear hP
  refine lv_aload_n hx hb dX5_greaterWidth_0 rfl (lv_at hl 0 rfl) ?_
  refine lv_iload_n hx hb dX5_greaterWidth_1 rfl (lv_at hl 1 rfl) ?_
  refine lv_aload_n hx hb dX5_greaterWidth_2 rfl (lv_at hl 0 rfl) ?_
  refine tp_get (ci := 4) (C := RX5) (T := TX5) (N := 11) hx hb hts hin_X5 hown hK hw hm_h0 6 ht_h0 (fun _ => rfl) rfl 9 (by decide) rfl (hts (.fieldLink RX5 40 "DayBench" "heldFirst" "[I") (by decide +kernel)) (fun _ h9 => h9) dX5_greaterWidth_3 (fun v_1 hf_2 hv_3 => ?_)
  obtain ⟨b_4, eb_4, hm_b_4, ht_b_4⟩ := hv_3
  subst eb_4
  refine lv_iload_n hx hb dX5_greaterWidth_6 rfl (lv_at hl 1 rfl) ?_
  refine tp_iald hx hb hK hw hm_b_4 3 ht_b_4 (n := 6) (fun _ => rfl) (vp_in_nI (by omega) (by omega)) dX5_greaterWidth_7 (fun y_5 => ?_)
  refine va_calli (va_runV (As := [.int (nI k0), .int y_5]) (rest := []) ⟨hx, hb, hml, hown, hts⟩ (k_X5_askWidth l dC dI cI cS cP cA L tg f hN hT hw.2.1 h0 hm_h0 ht_h0 (nI k0) y_5) (cwV 2 hts gX5_greaterWidth_X5_askWidth rfl rfl rfl (by decide +kernel) ⟨Nat.le_of_ble_eq_true rfl, Nat.le_of_ble_eq_true rfl⟩) ⟨tPre_blind, tp_recv hK hw hm_h0 6 ht_h0 (ci := 4) (fun _ => rfl) rfl, fun U hU hW => ⟨rfl, tPre_at hw hK hcm hU hW⟩⟩ rfl rfl hl.1 rfl (lv_room (Nat.le_of_ble_eq_true rfl)) dX5_greaterWidth_8 ⟨Nat.le_of_ble_eq_true rfl, Nat.le_of_ble_eq_true rfl⟩) hw.2.2.2 (fun q _ h => h) (fun q h => h) (fun r_6 f t H locs ht hvm hp hB hz1 hk1 hS1 => ?_)
  obtain ⟨hI1, hF1⟩ := hp
  have hw := hw.back (S' := (fun t => t == 1 || t == 2 || t == 3 || t == 4 || t == 10)) (by decide) hT hI1 hF1 hB ht hS1
  have hf_2 : fld (f h0) 9 = some (.ref b_4) := by rw [hF1 h0 hm_h0 (by rw [ht_h0]; rfl)]; exact hf_2
  clear hI1 hF1 hB ht hz1 hk1 hS1 hvm
  refine lv_istore_n (lv' := [(2, .int r_6), (0, .ref h0), (1, .int (nI k0))]) hx hb dX5_greaterWidth_11 rfl hl (by decide) rfl (fun ls hl => ?_)
  refine lv_iload_n hx hb dX5_greaterWidth_12 rfl (lv_at hl 0 rfl) ?_
  refine lv_bipush (v := (-2)) hx hb dX5_greaterWidth_13 (by decide) ?_
  refine lv_icmp_ne (tgt := 21) hx hb dX5_greaterWidth_15 (by decide) (fun h_7 => ?_) (fun h_7 => ?_)
  · refine lv_aload_n hx hb dX5_greaterWidth_21 rfl (lv_at hl 1 rfl) ?_
    refine lv_iload_n hx hb dX5_greaterWidth_22 rfl (lv_at hl 2 rfl) ?_
    refine lv_aload_n hx hb dX5_greaterWidth_23 rfl (lv_at hl 1 rfl) ?_
    refine tp_get (ci := 4) (C := RX5) (T := TX5) (N := 11) hx hb hts hin_X5 hown hK hw hm_h0 6 ht_h0 (fun _ => rfl) rfl 10 (by decide) rfl (hts (.fieldLink RX5 43 "DayBench" "heldLast" "[I") (by decide +kernel)) (fun _ h9 => h9) dX5_greaterWidth_24 (fun v_8 hf_9 hv_10 => ?_)
    obtain ⟨b_11, eb_11, hm_b_11, ht_b_11⟩ := hv_10
    subst eb_11
    refine lv_iload_n hx hb dX5_greaterWidth_27 rfl (lv_at hl 2 rfl) ?_
    refine tp_iald hx hb hK hw hm_b_11 3 ht_b_11 (n := 6) (fun _ => rfl) (vp_in_nI (by omega) (by omega)) dX5_greaterWidth_28 (fun y_12 => ?_)
    refine va_calli (va_runV (As := [.int (nI k0), .int y_12]) (rest := []) ⟨hx, hb, hml, hown, hts⟩ (k_X5_askWidth l dC dI cI cS cP cA L tg f hN hT hw.2.1 h0 hm_h0 ht_h0 (nI k0) y_12) (cwV 2 hts gX5_greaterWidth_X5_askWidth rfl rfl rfl (by decide +kernel) ⟨Nat.le_of_ble_eq_true rfl, Nat.le_of_ble_eq_true rfl⟩) ⟨tPre_blind, tp_recv hK hw hm_h0 6 ht_h0 (ci := 4) (fun _ => rfl) rfl, fun U hU hW => ⟨rfl, tPre_at hw hK hcm hU hW⟩⟩ rfl rfl hl.1 rfl (lv_room (Nat.le_of_ble_eq_true rfl)) dX5_greaterWidth_29 ⟨Nat.le_of_ble_eq_true rfl, Nat.le_of_ble_eq_true rfl⟩) hw.2.2.2 (fun q _ h => h) (fun q h => h) (fun r_13 f t H locs ht hvm hp hB hz1 hk1 hS1 => ?_)
    obtain ⟨hI1, hF1⟩ := hp
    have hw := hw.back (S' := (fun t => t == 1 || t == 2 || t == 3 || t == 4 || t == 10)) (by decide) hT hI1 hF1 hB ht hS1
    have hf_2 : fld (f h0) 9 = some (.ref b_4) := by rw [hF1 h0 hm_h0 (by rw [ht_h0]; rfl)]; exact hf_2
    have hf_9 : fld (f h0) 10 = some (.ref b_11) := by rw [hF1 h0 hm_h0 (by rw [ht_h0]; rfl)]; exact hf_9
    clear hI1 hF1 hB ht hz1 hk1 hS1 hvm
    refine lv_istore_n (lv' := [(3, .int r_13), (2, .int r_6), (0, .ref h0), (1, .int (nI k0))]) hx hb dX5_greaterWidth_32 rfl hl (by decide) rfl (fun ls hl => ?_)
    refine lv_iload_n hx hb dX5_greaterWidth_33 rfl (lv_at hl 0 rfl) ?_
    refine lv_bipush (v := (-2)) hx hb dX5_greaterWidth_34 (by decide) ?_
    refine lv_icmp_ne (tgt := 44) hx hb dX5_greaterWidth_36 (by decide) (fun h_14 => ?_) (fun h_14 => ?_)
    · refine lv_iload_n hx hb dX5_greaterWidth_44 rfl (lv_at hl 1 rfl) ?_
      refine lv_iload_n hx hb dX5_greaterWidth_45 rfl (lv_at hl 0 rfl) ?_
      refine va_mmax (own := RX5) (x := r_6) (y := r_13) hx hb (hml.trans hl.1.symm) hown (hts (.methodLink RX5 255 Lib.Math.max.name) (by decide +kernel)) (hts (.static Lib.Math.max.name) (by decide +kernel)) (hts (.initialized "java/lang/Math") (by decide +kernel)) (hts (.code Lib.Math.max.name Lib.Math.max.code 2 (some .int)) (by decide +kernel)) (Nat.le_of_ble_eq_true rfl) (Nat.le_of_ble_eq_true rfl) (Nat.le_of_ble_eq_true rfl) (Nat.le_of_ble_eq_true rfl) dX5_greaterWidth_46 ?_
      subst hQ
      have hI9 := hw.2.1
      have hF9 := hw.2.2.1
      have hS9 := hw.2.2.2
      rw [hf0] at hF9
      exact W.iret (v := if r_6 < r_13 then r_13 else r_6) hx hb hr (fun t ht hW => ⟨⟨_, _, rfl, ⟨hI9, hF9⟩, hw.at ht⟩, hS9.F ht⟩) hS9.2.2 dX5_greaterWidth_49
    · refine lv_bipush (v := (-2)) hx hb dX5_greaterWidth_39 (by decide) ?_
      refine lv_goto (tgt := 49) hx hb dX5_greaterWidth_41 (by decide) ?_
      subst hQ
      have hI9 := hw.2.1
      have hF9 := hw.2.2.1
      have hS9 := hw.2.2.2
      rw [hf0] at hF9
      exact W.iret (v := (-2)) hx hb hr (fun t ht hW => ⟨⟨_, _, rfl, ⟨hI9, hF9⟩, hw.at ht⟩, hS9.F ht⟩) hS9.2.2 dX5_greaterWidth_49
  · refine lv_bipush (v := (-2)) hx hb dX5_greaterWidth_18 (by decide) ?_
    subst hQ
    have hI9 := hw.2.1
    have hF9 := hw.2.2.1
    have hS9 := hw.2.2.2
    rw [hf0] at hF9
    exact W.iret (v := (-2)) hx hb hr (fun t ht hW => ⟨⟨_, _, rfl, ⟨hI9, hF9⟩, hw.at ht⟩, hS9.F ht⟩) hS9.2.2 dX5_greaterWidth_20

set_option maxHeartbeats 4000000 in
set_option maxRecDepth 100000 in
theorem k_X5_width (l : Launch) (dC : Nat → ClassId) (dI : Nat → Nat → Nat) (cI cS cP cA : ClassId) (L : List Nat) (tg : Nat → Nat) (f : Nat → va_E) (hN : L.Nodup) (hT : ∀ a : Nat, a ∈ L → tg a < 13) (hI : PI cI cS cP cA L tg f) (h0 : Nat) (hm_h0 : h0 ∈ L) (ht_h0 : tg h0 = 6) (p0 : Int32) (p1 : Int32) : Met l yX5_width wsX5_width ({ frames := 11, cells := 0, slots := 0, locals := 238 }) (va_Pc [.ref h0, .int p0, .int p1] (tPre dC dI cI cS cP cA L f)) (va_Qi (fun (r : Int32) (f' : Nat → va_E) => PI cI cS cP cA L tg f' ∧ Fr L tg (fun t => t == 1 || t == 2 || t == 3 || t == 4 || t == 10) f f') (fun (f' : Nat → va_E) t => va_P (dC, dI) vwCl (va_pl L f') t.heap) (fun q : Nat => q ∈ L)) 0 0 (fun q : Nat => q ∈ L) := by
  refine Met.ofW (cc := cX5_width) (maxL := 4) (ret := (some .int)) (by decide) rfl ?_
  intro p e s m args below meth c s₁ B hml hv
  obtain ⟨rfl, hP, hK, hcm⟩ := hv
  have hx := B.exec
  have hb := B.bytes
  have hr := B.returns
  have hts := atoms_spec (ws := wsX5_width) B.pre
  have hown : s.vm.findClass RX5 = some m.cls := findClass_of_methodNamed B.named
  have hlocks := B.notSynchronized
  have hl := lv_entry ([.ref h0, .int p0, .int p1]) (n := 4) (Nat.le_of_ble_eq_true rfl)
  rw [lg_entry_eq]
  generalize (lg_sl ([.ref h0, .int p0, .int p1]) ++ List.replicate (4 - (lg_sl ([.ref h0, .int p0, .int p1])).length) Slot.unset).toArray = ls at hl ⊢
  have hl : lv_has ls 4 [(0, .ref h0), (1, .int p0), (2, .int p1)] := hl
  generalize hQ : MQ below (va_Qi (fun (r : Int32) (f' : Nat → va_E) => PI cI cS cP cA L tg f' ∧ Fr L tg (fun t => t == 1 || t == 2 || t == 3 || t == 4 || t == 10) f f') (fun (f' : Nat → va_E) t => va_P (dC, dI) vwCl (va_pl L f') t.heap) (fun q : Nat => q ∈ L)) [.ref h0, .int p0, .int p1].toArray s 0 0 (fun q : Nat => q ∈ L) = Q
  obtain ⟨f0, hf0⟩ : ∃ g : Nat → va_E, g = f := ⟨_, rfl⟩
  have hw : PW dC dI cI cS cP cA L tg (fun t => t == 1 || t == 2 || t == 3 || t == 4 || t == 10) f0 s.heap f s.heap [] := by rw [hf0]; exact PW.start hP hI
  clear hP
  refine lv_iload_n hx hb dX5_width_0 rfl (lv_at hl 1 rfl) ?_
  refine lv_iconst (v := (-1)) hx hb dX5_width_1 (by decide) ?_
  refine lv_icmp_ne (tgt := 14) hx hb dX5_width_2 (by decide) (fun h_1 => ?_) (fun h_1 => ?_)
  · refine lv_iconst (v := 0) hx hb dX5_width_14 (by decide) ?_
    refine lv_istore_n (lv' := [(3, .int 0), (0, .ref h0), (1, .int p0), (2, .int p1)]) hx hb dX5_width_15 rfl hl (by decide) rfl (fun ls hl => ?_)
    refine lv_iload_n hx hb dX5_width_16 rfl (lv_at hl 0 rfl) ?_
    refine lv_if_ne (tgt := 37) hx hb dX5_width_17 (by decide) (fun h_2 => ?_) (fun h_2 => ?_)
    · exact (by first | exact absurd h_2 (by decide) | exact absurd (by decide) h_2)
    · refine lv_aload_n hx hb dX5_width_20 rfl (lv_at hl 1 rfl) ?_
      refine lv_iload_n hx hb dX5_width_21 rfl (lv_at hl 2 rfl) ?_
      refine vp_callSi (va_Run.run (va_runV (As := [.int p0]) (rest := []) ⟨hx, hb, hml, hown, hts⟩ (k_X5_isEvent l dC dI cI cS cP cA L tg f hN hT hw.2.1 h0 hm_h0 ht_h0 p0) (cwV 1 hts gX5_width_X5_isEvent rfl rfl rfl (by decide +kernel) ⟨Nat.le_of_ble_eq_true rfl, Nat.le_of_ble_eq_true rfl⟩) ⟨tPre_blind, tp_recv hK hw hm_h0 6 ht_h0 (ci := 4) (fun _ => rfl) rfl, fun U hU hW => ⟨rfl, tPre_at hw hK hcm hU hW⟩⟩ rfl rfl hl.1 rfl (lv_room (Nat.le_of_ble_eq_true rfl)) dX5_width_22 ⟨Nat.le_of_ble_eq_true rfl, Nat.le_of_ble_eq_true rfl⟩)) (fun r_3 hr_3 => ?_)
      rcases hr_3 with er_3 | ⟨er_3, k_4, hk_4, ek_4⟩
      · subst er_3
        refine lv_if_eq (tgt := 35) hx hb dX5_width_25 (by decide) (fun h_5 => ?_) (fun h_5 => ?_)
        · refine lv_iconst (v := (-1)) hx hb dX5_width_35 (by decide) ?_
          subst hQ
          have hI9 := hw.2.1
          have hF9 := hw.2.2.1
          have hS9 := hw.2.2.2
          rw [hf0] at hF9
          exact W.iret (v := (-1)) hx hb hr (fun t ht hW => ⟨⟨_, _, rfl, ⟨hI9, hF9⟩, hw.at ht⟩, hS9.F ht⟩) hS9.2.2 dX5_width_36
        · exact (by first | exact absurd h_5 (by decide) | exact absurd (by decide) h_5)
      · subst er_3
        rw [ek_4] at hl
        refine lv_if_eq (tgt := 35) hx hb dX5_width_25 (by decide) (fun h_6 => ?_) (fun h_6 => ?_)
        · exact (by first | exact absurd h_6 (by decide) | exact absurd (by decide) h_6)
        · refine lv_iload_n hx hb dX5_width_28 rfl (lv_at hl 3 rfl) ?_
          refine vp_callSi (va_Run.run (va_runS (As := [.int p1]) (rest := []) ⟨hx, hb, hml, hown, hts⟩ (k_X5_isDay l p1) (va_cwS 1 hts gX5_width_X5_isDay rfl rfl rfl (by decide +kernel) ⟨Nat.le_of_ble_eq_true rfl, Nat.le_of_ble_eq_true rfl⟩) ⟨fun _ _ _ _ q => q, fun _ _ _ => ⟨rfl, trivial⟩⟩ rfl rfl hl.1 rfl (lv_room (Nat.le_of_ble_eq_true rfl)) dX5_width_29 ⟨Nat.le_of_ble_eq_true rfl, Nat.le_of_ble_eq_true rfl⟩)) (fun r_7 er_7 => ?_)
          refine lv_if_ne (tgt := 37) hx hb dX5_width_32 (by decide) (fun h_8 => ?_) (fun h_8 => ?_)
          · refine lv_aload_n hx hb dX5_width_37 rfl (lv_at hl 1 rfl) ?_
            refine lv_iload_n hx hb dX5_width_38 rfl (lv_at hl 2 rfl) ?_
            refine lv_iload_n hx hb dX5_width_39 rfl (lv_at hl 3 rfl) ?_
            refine va_calli (va_runV (As := [.int (nI k_4), .int p1]) (rest := []) ⟨hx, hb, hml, hown, hts⟩ (k_X5_askWidth l dC dI cI cS cP cA L tg f hN hT hw.2.1 h0 hm_h0 ht_h0 (nI k_4) p1) (cwV 2 hts gX5_width_X5_askWidth rfl rfl rfl (by decide +kernel) ⟨Nat.le_of_ble_eq_true rfl, Nat.le_of_ble_eq_true rfl⟩) ⟨tPre_blind, tp_recv hK hw hm_h0 6 ht_h0 (ci := 4) (fun _ => rfl) rfl, fun U hU hW => ⟨rfl, tPre_at hw hK hcm hU hW⟩⟩ rfl rfl hl.1 rfl (lv_room (Nat.le_of_ble_eq_true rfl)) dX5_width_40 ⟨Nat.le_of_ble_eq_true rfl, Nat.le_of_ble_eq_true rfl⟩) hw.2.2.2 (fun q _ h => h) (fun q h => h) (fun r_9 f t H locs ht hvm hp hB hz1 hk1 hS1 => ?_)
            obtain ⟨hI1, hF1⟩ := hp
            have hw := hw.back (S' := (fun t => t == 1 || t == 2 || t == 3 || t == 4 || t == 10)) (by decide) hT hI1 hF1 hB ht hS1
            clear hI1 hF1 hB ht hz1 hk1 hS1 hvm
            subst hQ
            have hI9 := hw.2.1
            have hF9 := hw.2.2.1
            have hS9 := hw.2.2.2
            rw [hf0] at hF9
            exact W.iret (v := r_9) hx hb hr (fun t ht hW => ⟨⟨_, _, rfl, ⟨hI9, hF9⟩, hw.at ht⟩, hS9.F ht⟩) hS9.2.2 dX5_width_43
          · refine lv_iconst (v := (-1)) hx hb dX5_width_35 (by decide) ?_
            subst hQ
            have hI9 := hw.2.1
            have hF9 := hw.2.2.1
            have hS9 := hw.2.2.2
            rw [hf0] at hF9
            exact W.iret (v := (-1)) hx hb hr (fun t ht hW => ⟨⟨_, _, rfl, ⟨hI9, hF9⟩, hw.at ht⟩, hS9.F ht⟩) hS9.2.2 dX5_width_36
  · refine lv_iload_n hx hb dX5_width_5 rfl (lv_at hl 2 rfl) ?_
    refine lv_iconst (v := (-1)) hx hb dX5_width_6 (by decide) ?_
    refine lv_icmp_ne (tgt := 14) hx hb dX5_width_7 (by decide) (fun h_10 => ?_) (fun h_10 => ?_)
    · refine lv_iconst (v := 0) hx hb dX5_width_14 (by decide) ?_
      refine lv_istore_n (lv' := [(3, .int 0), (0, .ref h0), (1, .int p0), (2, .int p1)]) hx hb dX5_width_15 rfl hl (by decide) rfl (fun ls hl => ?_)
      refine lv_iload_n hx hb dX5_width_16 rfl (lv_at hl 0 rfl) ?_
      refine lv_if_ne (tgt := 37) hx hb dX5_width_17 (by decide) (fun h_11 => ?_) (fun h_11 => ?_)
      · exact (by first | exact absurd h_11 (by decide) | exact absurd (by decide) h_11)
      · refine lv_aload_n hx hb dX5_width_20 rfl (lv_at hl 1 rfl) ?_
        refine lv_iload_n hx hb dX5_width_21 rfl (lv_at hl 2 rfl) ?_
        refine vp_callSi (va_Run.run (va_runV (As := [.int p0]) (rest := []) ⟨hx, hb, hml, hown, hts⟩ (k_X5_isEvent l dC dI cI cS cP cA L tg f hN hT hw.2.1 h0 hm_h0 ht_h0 p0) (cwV 1 hts gX5_width_X5_isEvent rfl rfl rfl (by decide +kernel) ⟨Nat.le_of_ble_eq_true rfl, Nat.le_of_ble_eq_true rfl⟩) ⟨tPre_blind, tp_recv hK hw hm_h0 6 ht_h0 (ci := 4) (fun _ => rfl) rfl, fun U hU hW => ⟨rfl, tPre_at hw hK hcm hU hW⟩⟩ rfl rfl hl.1 rfl (lv_room (Nat.le_of_ble_eq_true rfl)) dX5_width_22 ⟨Nat.le_of_ble_eq_true rfl, Nat.le_of_ble_eq_true rfl⟩)) (fun r_12 hr_12 => ?_)
        rcases hr_12 with er_12 | ⟨er_12, k_13, hk_13, ek_13⟩
        · subst er_12
          refine lv_if_eq (tgt := 35) hx hb dX5_width_25 (by decide) (fun h_14 => ?_) (fun h_14 => ?_)
          · refine lv_iconst (v := (-1)) hx hb dX5_width_35 (by decide) ?_
            subst hQ
            have hI9 := hw.2.1
            have hF9 := hw.2.2.1
            have hS9 := hw.2.2.2
            rw [hf0] at hF9
            exact W.iret (v := (-1)) hx hb hr (fun t ht hW => ⟨⟨_, _, rfl, ⟨hI9, hF9⟩, hw.at ht⟩, hS9.F ht⟩) hS9.2.2 dX5_width_36
          · exact (by first | exact absurd h_14 (by decide) | exact absurd (by decide) h_14)
        · subst er_12
          rw [ek_13] at hl
          refine lv_if_eq (tgt := 35) hx hb dX5_width_25 (by decide) (fun h_15 => ?_) (fun h_15 => ?_)
          · exact (by first | exact absurd h_15 (by decide) | exact absurd (by decide) h_15)
          · refine lv_iload_n hx hb dX5_width_28 rfl (lv_at hl 3 rfl) ?_
            refine vp_callSi (va_Run.run (va_runS (As := [.int p1]) (rest := []) ⟨hx, hb, hml, hown, hts⟩ (k_X5_isDay l p1) (va_cwS 1 hts gX5_width_X5_isDay rfl rfl rfl (by decide +kernel) ⟨Nat.le_of_ble_eq_true rfl, Nat.le_of_ble_eq_true rfl⟩) ⟨fun _ _ _ _ q => q, fun _ _ _ => ⟨rfl, trivial⟩⟩ rfl rfl hl.1 rfl (lv_room (Nat.le_of_ble_eq_true rfl)) dX5_width_29 ⟨Nat.le_of_ble_eq_true rfl, Nat.le_of_ble_eq_true rfl⟩)) (fun r_16 er_16 => ?_)
            refine lv_if_ne (tgt := 37) hx hb dX5_width_32 (by decide) (fun h_17 => ?_) (fun h_17 => ?_)
            · refine lv_aload_n hx hb dX5_width_37 rfl (lv_at hl 1 rfl) ?_
              refine lv_iload_n hx hb dX5_width_38 rfl (lv_at hl 2 rfl) ?_
              refine lv_iload_n hx hb dX5_width_39 rfl (lv_at hl 3 rfl) ?_
              refine va_calli (va_runV (As := [.int (nI k_13), .int p1]) (rest := []) ⟨hx, hb, hml, hown, hts⟩ (k_X5_askWidth l dC dI cI cS cP cA L tg f hN hT hw.2.1 h0 hm_h0 ht_h0 (nI k_13) p1) (cwV 2 hts gX5_width_X5_askWidth rfl rfl rfl (by decide +kernel) ⟨Nat.le_of_ble_eq_true rfl, Nat.le_of_ble_eq_true rfl⟩) ⟨tPre_blind, tp_recv hK hw hm_h0 6 ht_h0 (ci := 4) (fun _ => rfl) rfl, fun U hU hW => ⟨rfl, tPre_at hw hK hcm hU hW⟩⟩ rfl rfl hl.1 rfl (lv_room (Nat.le_of_ble_eq_true rfl)) dX5_width_40 ⟨Nat.le_of_ble_eq_true rfl, Nat.le_of_ble_eq_true rfl⟩) hw.2.2.2 (fun q _ h => h) (fun q h => h) (fun r_18 f t H locs ht hvm hp hB hz1 hk1 hS1 => ?_)
              obtain ⟨hI1, hF1⟩ := hp
              have hw := hw.back (S' := (fun t => t == 1 || t == 2 || t == 3 || t == 4 || t == 10)) (by decide) hT hI1 hF1 hB ht hS1
              clear hI1 hF1 hB ht hz1 hk1 hS1 hvm
              subst hQ
              have hI9 := hw.2.1
              have hF9 := hw.2.2.1
              have hS9 := hw.2.2.2
              rw [hf0] at hF9
              exact W.iret (v := r_18) hx hb hr (fun t ht hW => ⟨⟨_, _, rfl, ⟨hI9, hF9⟩, hw.at ht⟩, hS9.F ht⟩) hS9.2.2 dX5_width_43
            · refine lv_iconst (v := (-1)) hx hb dX5_width_35 (by decide) ?_
              subst hQ
              have hI9 := hw.2.1
              have hF9 := hw.2.2.1
              have hS9 := hw.2.2.2
              rw [hf0] at hF9
              exact W.iret (v := (-1)) hx hb hr (fun t ht hW => ⟨⟨_, _, rfl, ⟨hI9, hF9⟩, hw.at ht⟩, hS9.F ht⟩) hS9.2.2 dX5_width_36
    · refine lv_iconst (v := 1) hx hb dX5_width_10 (by decide) ?_
      refine lv_goto (tgt := 15) hx hb dX5_width_11 (by decide) ?_
      refine lv_istore_n (lv' := [(3, .int 1), (0, .ref h0), (1, .int p0), (2, .int p1)]) hx hb dX5_width_15 rfl hl (by decide) rfl (fun ls hl => ?_)
      refine lv_iload_n hx hb dX5_width_16 rfl (lv_at hl 0 rfl) ?_
      refine lv_if_ne (tgt := 37) hx hb dX5_width_17 (by decide) (fun h_19 => ?_) (fun h_19 => ?_)
      · refine lv_aload_n hx hb dX5_width_37 rfl (lv_at hl 1 rfl) ?_
        refine lv_iload_n hx hb dX5_width_38 rfl (lv_at hl 2 rfl) ?_
        refine lv_iload_n hx hb dX5_width_39 rfl (lv_at hl 3 rfl) ?_
        refine va_calli (va_runV (As := [.int p0, .int p1]) (rest := []) ⟨hx, hb, hml, hown, hts⟩ (k_X5_askWidth l dC dI cI cS cP cA L tg f hN hT hw.2.1 h0 hm_h0 ht_h0 p0 p1) (cwV 2 hts gX5_width_X5_askWidth rfl rfl rfl (by decide +kernel) ⟨Nat.le_of_ble_eq_true rfl, Nat.le_of_ble_eq_true rfl⟩) ⟨tPre_blind, tp_recv hK hw hm_h0 6 ht_h0 (ci := 4) (fun _ => rfl) rfl, fun U hU hW => ⟨rfl, tPre_at hw hK hcm hU hW⟩⟩ rfl rfl hl.1 rfl (lv_room (Nat.le_of_ble_eq_true rfl)) dX5_width_40 ⟨Nat.le_of_ble_eq_true rfl, Nat.le_of_ble_eq_true rfl⟩) hw.2.2.2 (fun q _ h => h) (fun q h => h) (fun r_20 f t H locs ht hvm hp hB hz1 hk1 hS1 => ?_)
        obtain ⟨hI1, hF1⟩ := hp
        have hw := hw.back (S' := (fun t => t == 1 || t == 2 || t == 3 || t == 4 || t == 10)) (by decide) hT hI1 hF1 hB ht hS1
        clear hI1 hF1 hB ht hz1 hk1 hS1 hvm
        subst hQ
        have hI9 := hw.2.1
        have hF9 := hw.2.2.1
        have hS9 := hw.2.2.2
        rw [hf0] at hF9
        exact W.iret (v := r_20) hx hb hr (fun t ht hW => ⟨⟨_, _, rfl, ⟨hI9, hF9⟩, hw.at ht⟩, hS9.F ht⟩) hS9.2.2 dX5_width_43
      · exact (by first | exact absurd h_19 (by decide) | exact absurd (by decide) h_19)

