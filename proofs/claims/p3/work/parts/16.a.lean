set_option maxHeartbeats 4000000 in
set_option maxRecDepth 100000 in
theorem k_X4_clear (l : Launch) (dC : Nat → ClassId) (dI : Nat → Nat → Nat) (cI cS cP cA : ClassId) (L : List Nat) (tg : Nat → Nat) (f : Nat → va_E) (hN : L.Nodup) (hT : ∀ a : Nat, a ∈ L → tg a < 13) (hI : PI cI cS cP cA L tg f) (h0 : Nat) (hm_h0 : h0 ∈ L) (ht_h0 : tg h0 = 1) : Met l yX4_clear wsX4_clear ({ frames := 0, cells := 0, slots := 0, locals := 0 }) (va_Pc [.ref h0] (tPre dC dI cI cS cP cA L f)) (va_Qv (fun (f' : Nat → va_E) => PI cI cS cP cA L tg f' ∧ Fr L tg (fun t => t == 1) f f') (fun (f' : Nat → va_E) t => va_P (dC, dI) vwCl (va_pl L f') t.heap) (fun q : Nat => q ∈ L)) 0 0 (fun q : Nat => q ∈ L) := by
  refine Met.ofW (cc := cX4_clear) (maxL := 1) (ret := none) (by decide) rfl ?_
  intro p e s m args below meth c s₁ B hml hv
  obtain ⟨rfl, hP, hK, hcm⟩ := hv
  have hx := B.exec
  have hb := B.bytes
  have hr := B.returns
  have hts := atoms_spec (ws := wsX4_clear) B.pre
  have hown : s.vm.findClass RX4 = some m.cls := findClass_of_methodNamed B.named
  have hlocks := B.notSynchronized
  have hin_X4 : ∀ w ∈ u_ws RX4 TX4 3, w ∈ wsX4_clear := by decide +kernel
  have hl := lv_entry ([.ref h0]) (n := 1) (Nat.le_of_ble_eq_true rfl)
  rw [lg_entry_eq]
  generalize (lg_sl ([.ref h0]) ++ List.replicate (1 - (lg_sl ([.ref h0])).length) Slot.unset).toArray = ls at hl ⊢
  have hl : lv_has ls 1 [(0, .ref h0)] := hl
  generalize hQ : MQ below (va_Qv (fun (f' : Nat → va_E) => PI cI cS cP cA L tg f' ∧ Fr L tg (fun t => t == 1) f f') (fun (f' : Nat → va_E) t => va_P (dC, dI) vwCl (va_pl L f') t.heap) (fun q : Nat => q ∈ L)) [.ref h0].toArray s 0 0 (fun q : Nat => q ∈ L) = Q
  obtain ⟨f0, hf0⟩ : ∃ g : Nat → va_E, g = f := ⟨_, rfl⟩
  have hw : PW dC dI cI cS cP cA L tg (fun t => t == 1) f0 s.heap f s.heap [] := by rw [hf0]; exact PW.start hP hI
  clear hP
  refine lv_aload_n hx hb dX4_clear_0 rfl (lv_at hl 0 rfl) ?_
  refine lv_iconst (v := 0) hx hb dX4_clear_1 (by decide) ?_
  refine tp_put (ci := 3) (C := RX4) (T := TX4) (N := 3) (v := .int 0) (ty := .int) hx hb hts hin_X4 tyX4 tyX4_ok nmX4 hown hN hK hw hm_h0 1 ht_h0 rfl (fun _ => rfl) rfl 2 (by decide) rfl (hts (.fieldLink RX4 18 "DayBench$Spans" "size" "I") (by decide +kernel)) (fun _ h9 => h9) rfl (by decide +kernel) rfl rfl ⟨0, rfl, by omega⟩ dX4_clear_2 (fun H locs f hw ho_1 hn_2 hs_3 => ?_)
  clear ho_1 hs_3 hn_2
  subst hQ
  have hI9 := hw.2.1
  have hF9 := hw.2.2.1
  have hS9 := hw.2.2.2
  rw [hf0] at hF9
  exact W.vret hx hb hr (fun t ht hW => ⟨⟨_, rfl, ⟨hI9, hF9⟩, hw.at ht⟩, hS9.F ht⟩) hS9.2.2 dX4_clear_5

set_option maxHeartbeats 4000000 in
set_option maxRecDepth 100000 in
theorem k_X4_has (l : Launch) (dC : Nat → ClassId) (dI : Nat → Nat → Nat) (cI cS cP cA : ClassId) (L : List Nat) (tg : Nat → Nat) (f : Nat → va_E) (hN : L.Nodup) (hT : ∀ a : Nat, a ∈ L → tg a < 13) (hI : PI cI cS cP cA L tg f) (h0 : Nat) (hm_h0 : h0 ∈ L) (ht_h0 : tg h0 = 1) (p0 : Int32) : Met l yX4_has wsX4_has ({ frames := 0, cells := 0, slots := 0, locals := 0 }) (va_Pc [.ref h0, .int p0] (tPre dC dI cI cS cP cA L f)) (vp_Si (fun r => r = 0 ∨ (r = 1 ∧ ∃ k : Nat, k < 10 ∧ p0 = nI k))) 0 0 (fun _ => False) := by
  refine Met.ofW (cc := cX4_has) (maxL := 2) (ret := (some .boolean)) (by decide) rfl ?_
  intro p e s m args below meth c s₁ B hml hv
  obtain ⟨rfl, hP, hK, hcm⟩ := hv
  have hx := B.exec
  have hb := B.bytes
  have hr := B.returns
  have hts := atoms_spec (ws := wsX4_has) B.pre
  have hown : s.vm.findClass RX4 = some m.cls := findClass_of_methodNamed B.named
  have hlocks := B.notSynchronized
  have hin_X4 : ∀ w ∈ u_ws RX4 TX4 3, w ∈ wsX4_has := by decide +kernel
  have hl := lv_entry ([.ref h0, .int p0]) (n := 2) (Nat.le_of_ble_eq_true rfl)
  rw [lg_entry_eq]
  generalize (lg_sl ([.ref h0, .int p0]) ++ List.replicate (2 - (lg_sl ([.ref h0, .int p0])).length) Slot.unset).toArray = ls at hl ⊢
  have hl : lv_has ls 2 [(0, .ref h0), (1, .int p0)] := hl
  generalize hQ : MQ below (vp_Si (fun r => r = 0 ∨ (r = 1 ∧ ∃ k : Nat, k < 10 ∧ p0 = nI k))) [.ref h0, .int p0].toArray s 0 0 (fun _ => False) = Q
  obtain ⟨f0, hf0⟩ : ∃ g : Nat → va_E, g = f := ⟨_, rfl⟩
  have hw : PW dC dI cI cS cP cA L tg (fun _ => false) f0 s.heap f s.heap [] := by rw [hf0]; exact PW.start hP hI
  clear hP
  refine lv_iload_n hx hb dX4_has_0 rfl (lv_at hl 1 rfl) ?_
  refine lv_if_lt (tgt := 16) hx hb dX4_has_1 (by decide) (fun h_1 => ?_) (fun h_1 => ?_)
  · refine lv_iconst (v := 0) hx hb dX4_has_16 (by decide) ?_
    subst hQ
    exact W.zret (v := 0) hx hb hr rfl (fun t ht hW => ⟨_, rfl, Or.inl rfl, ht⟩) (fun _ h => by cases h) dX4_has_17
  · refine lv_iload_n hx hb dX4_has_4 rfl (lv_at hl 1 rfl) ?_
    refine lv_aload_n hx hb dX4_has_5 rfl (lv_at hl 0 rfl) ?_
    refine tp_get (ci := 3) (C := RX4) (T := TX4) (N := 3) hx hb hts hin_X4 hown hK hw hm_h0 1 ht_h0 (fun _ => rfl) rfl 2 (by decide) rfl (hts (.fieldLink RX4 18 "DayBench$Spans" "size" "I") (by decide +kernel)) (fun _ h9 => h9) dX4_has_6 (fun v_2 hf_3 hv_4 => ?_)
    obtain ⟨k_5, ek_5, hk_k_5⟩ := hv_4
    subst ek_5
    clear hf_3
    refine lv_icmp_ge (tgt := 16) hx hb dX4_has_9 (by decide) (fun h_6 => ?_) (fun h_6 => ?_)
    · refine lv_iconst (v := 0) hx hb dX4_has_16 (by decide) ?_
      subst hQ
      exact W.zret (v := 0) hx hb hr rfl (fun t ht hW => ⟨_, rfl, Or.inl rfl, ht⟩) (fun _ h => by cases h) dX4_has_17
    · refine lv_iconst (v := 1) hx hb dX4_has_12 (by decide) ?_
      refine lv_goto (tgt := 17) hx hb dX4_has_13 (by decide) ?_
      subst hQ
      exact W.zret (v := 1) hx hb hr rfl (fun t ht hW => ⟨_, rfl, Or.inr ⟨rfl, lt_nI h_1 h_6 (by omega) (by omega)⟩, ht⟩) (fun _ h => by cases h) dX4_has_17

set_option maxHeartbeats 4000000 in
set_option maxRecDepth 100000 in
theorem k_X4_add (l : Launch) (dC : Nat → ClassId) (dI : Nat → Nat → Nat) (cI cS cP cA : ClassId) (L : List Nat) (tg : Nat → Nat) (f : Nat → va_E) (hN : L.Nodup) (hT : ∀ a : Nat, a ∈ L → tg a < 13) (hI : PI cI cS cP cA L tg f) (h0 : Nat) (hm_h0 : h0 ∈ L) (ht_h0 : tg h0 = 1) (p0 : Int32) (p1 : Int32) : Met l yX4_add wsX4_add ({ frames := 1, cells := 0, slots := 0, locals := 13 }) (va_Pc [.ref h0, .int p0, .int p1] (tPre dC dI cI cS cP cA L f)) (va_Qv (fun (f' : Nat → va_E) => PI cI cS cP cA L tg f' ∧ Fr L tg (fun t => t == 1 || t == 2) f f') (fun (f' : Nat → va_E) t => va_P (dC, dI) vwCl (va_pl L f') t.heap) (fun q : Nat => q ∈ L)) 0 0 (fun q : Nat => q ∈ L) := by
  refine Met.ofW (cc := cX4_add) (maxL := 5) (ret := none) (by decide) rfl ?_
  intro p e s m args below meth c s₁ B hml hv
  obtain ⟨rfl, hP, hK, hcm⟩ := hv
  have hx := B.exec
  have hb := B.bytes
  have hr := B.returns
  have hts := atoms_spec (ws := wsX4_add) B.pre
  have hown : s.vm.findClass RX4 = some m.cls := findClass_of_methodNamed B.named
  have hlocks := B.notSynchronized
  have hin_X4 : ∀ w ∈ u_ws RX4 TX4 3, w ∈ wsX4_add := by decide +kernel
  have hl := lv_entry ([.ref h0, .int p0, .int p1]) (n := 5) (Nat.le_of_ble_eq_true rfl)
  rw [lg_entry_eq]
  generalize (lg_sl ([.ref h0, .int p0, .int p1]) ++ List.replicate (5 - (lg_sl ([.ref h0, .int p0, .int p1])).length) Slot.unset).toArray = ls at hl ⊢
  have hl : lv_has ls 5 [(0, .ref h0), (1, .int p0), (2, .int p1)] := hl
  generalize hQ : MQ below (va_Qv (fun (f' : Nat → va_E) => PI cI cS cP cA L tg f' ∧ Fr L tg (fun t => t == 1 || t == 2) f f') (fun (f' : Nat → va_E) t => va_P (dC, dI) vwCl (va_pl L f') t.heap) (fun q : Nat => q ∈ L)) [.ref h0, .int p0, .int p1].toArray s 0 0 (fun q : Nat => q ∈ L) = Q
  obtain ⟨f0, hf0⟩ : ∃ g : Nat → va_E, g = f := ⟨_, rfl⟩
  have hw : PW dC dI cI cS cP cA L tg (fun t => t == 1 || t == 2) f0 s.heap f s.heap [] := by rw [hf0]; exact PW.start hP hI
  clear hP
  refine lv_iload_n hx hb dX4_add_0 rfl (lv_at hl 1 rfl) ?_
  refine lv_iconst (v := 0) hx hb dX4_add_1 (by decide) ?_
  refine va_mmax (own := RX4) (x := p0) (y := 0) hx hb (hml.trans hl.1.symm) hown (hts (.methodLink RX4 22 Lib.Math.max.name) (by decide +kernel)) (hts (.static Lib.Math.max.name) (by decide +kernel)) (hts (.initialized "java/lang/Math") (by decide +kernel)) (hts (.code Lib.Math.max.name Lib.Math.max.code 2 (some .int)) (by decide +kernel)) (Nat.le_of_ble_eq_true rfl) (Nat.le_of_ble_eq_true rfl) (Nat.le_of_ble_eq_true rfl) (Nat.le_of_ble_eq_true rfl) dX4_add_2 ?_
  refine lv_topi (fun x_1 ex_1 => ?_)
  refine lv_istore_n (lv' := [(3, .int x_1), (0, .ref h0), (1, .int p0), (2, .int p1)]) hx hb dX4_add_5 rfl hl (by decide) rfl (fun ls hl => ?_)
  refine lv_iload_n hx hb dX4_add_6 rfl (lv_at hl 3 rfl) ?_
  refine lv_ldc (own := RX4) (v := 985999) hx hb hown (hts (.constant RX4 28 (985999)) (by decide +kernel)) dX4_add_7 ?_
  refine va_mmin (own := RX4) (x := p1) (y := 985999) hx hb (hml.trans hl.1.symm) hown (hts (.methodLink RX4 29 Lib.Math.min.name) (by decide +kernel)) (hts (.static Lib.Math.min.name) (by decide +kernel)) (hts (.initialized "java/lang/Math") (by decide +kernel)) (hts (.code Lib.Math.min.name Lib.Math.min.code 2 (some .int)) (by decide +kernel)) (Nat.le_of_ble_eq_true rfl) (Nat.le_of_ble_eq_true rfl) (Nat.le_of_ble_eq_true rfl) (Nat.le_of_ble_eq_true rfl) dX4_add_9 ?_
  refine lv_topi (fun x_2 ex_2 => ?_)
  refine lv_istore (lv' := [(4, .int x_2), (3, .int x_1), (0, .ref h0), (1, .int p0), (2, .int p1)]) hx hb dX4_add_12 hl (by decide) rfl (fun ls hl => ?_)
  refine lv_iload_n hx hb dX4_add_14 rfl (lv_at hl 1 rfl) ?_
  refine lv_iload hx hb dX4_add_15 (lv_at hl 0 rfl) ?_
  refine lv_icmp_gt (tgt := 60) hx hb dX4_add_17 (by decide) (fun h_3 => ?_) (fun h_3 => ?_)
  · subst hQ
    have hI9 := hw.2.1
    have hF9 := hw.2.2.1
    have hS9 := hw.2.2.2
    rw [hf0] at hF9
    exact W.vret hx hb hr (fun t ht hW => ⟨⟨_, rfl, ⟨hI9, hF9⟩, hw.at ht⟩, hS9.F ht⟩) hS9.2.2 dX4_add_60
  · refine lv_aload_n hx hb dX4_add_20 rfl (lv_at hl 2 rfl) ?_
    refine tp_get (ci := 3) (C := RX4) (T := TX4) (N := 3) hx hb hts hin_X4 hown hK hw hm_h0 1 ht_h0 (fun _ => rfl) rfl 2 (by decide) rfl (hts (.fieldLink RX4 18 "DayBench$Spans" "size" "I") (by decide +kernel)) (fun _ h9 => h9) dX4_add_21 (fun v_4 hf_5 hv_6 => ?_)
    obtain ⟨k_7, ek_7, hk_k_7⟩ := hv_6
    subst ek_7
    refine lv_bipush (v := 10) hx hb dX4_add_24 (by decide) ?_
    refine lv_icmp_ge (tgt := 60) hx hb dX4_add_26 (by decide) (fun h_8 => ?_) (fun h_8 => ?_)
    · have nh_8 : 10 ≤ k_7 := (nI_leI (a := 10) (b := k_7) (by omega) (by omega)).mp h_8
      subst hQ
      have hI9 := hw.2.1
      have hF9 := hw.2.2.1
      have hS9 := hw.2.2.2
      rw [hf0] at hF9
      exact W.vret hx hb hr (fun t ht hW => ⟨⟨_, rfl, ⟨hI9, hF9⟩, hw.at ht⟩, hS9.F ht⟩) hS9.2.2 dX4_add_60
    · have nh_8 : ¬ 10 ≤ k_7 := fun q9 => h_8 ((nI_leI (a := 10) (b := k_7) (by omega) (by omega)).mpr q9)
      refine lv_aload_n hx hb dX4_add_29 rfl (lv_at hl 2 rfl) ?_
      refine tp_get (ci := 3) (C := RX4) (T := TX4) (N := 3) hx hb hts hin_X4 hown hK hw hm_h0 1 ht_h0 (fun _ => rfl) rfl 0 (by decide) rfl (hts (.fieldLink RX4 9 "DayBench$Spans" "from" "[I") (by decide +kernel)) (fun _ h9 => h9) dX4_add_30 (fun v_9 hf_10 hv_11 => ?_)
      obtain ⟨b_12, eb_12, hm_b_12, ht_b_12⟩ := hv_11
      subst eb_12
      refine lv_aload_n hx hb dX4_add_33 rfl (lv_at hl 2 rfl) ?_
      refine tp_getK (ci := 3) (C := RX4) (T := TX4) (N := 3) hx hb hts hin_X4 hown hK hw hm_h0 1 ht_h0 (fun _ => rfl) rfl 2 (by decide) hf_5 (hts (.fieldLink RX4 18 "DayBench$Spans" "size" "I") (by decide +kernel)) (fun _ h9 => h9) dX4_add_34 ?_
      refine lv_iload_n hx hb dX4_add_37 rfl (lv_at hl 1 rfl) ?_
      refine tp_iast hx hb hN hK hw hm_b_12 2 ht_b_12 rfl (n := 10) (fun _ => rfl) (vp_in_nI (by omega) (by omega)) dX4_add_38 (fun H locs f hw ho_13 => ?_)
      have hf_5 : fld (f h0) 2 = some (.int (nI k_7)) := by rw [ho_13 h0 (tne ht_h0 ht_b_12 (by decide))]; exact hf_5
      have hf_10 : fld (f h0) 0 = some (.ref b_12) := by rw [ho_13 h0 (tne ht_h0 ht_b_12 (by decide))]; exact hf_10
      clear ho_13
      refine lv_aload_n hx hb dX4_add_39 rfl (lv_at hl 2 rfl) ?_
      refine tp_get (ci := 3) (C := RX4) (T := TX4) (N := 3) hx hb hts hin_X4 hown hK hw hm_h0 1 ht_h0 (fun _ => rfl) rfl 1 (by decide) rfl (hts (.fieldLink RX4 15 "DayBench$Spans" "to" "[I") (by decide +kernel)) (fun _ h9 => h9) dX4_add_40 (fun v_14 hf_15 hv_16 => ?_)
      obtain ⟨b_17, eb_17, hm_b_17, ht_b_17⟩ := hv_16
      subst eb_17
      refine lv_aload_n hx hb dX4_add_43 rfl (lv_at hl 2 rfl) ?_
      refine tp_getK (ci := 3) (C := RX4) (T := TX4) (N := 3) hx hb hts hin_X4 hown hK hw hm_h0 1 ht_h0 (fun _ => rfl) rfl 2 (by decide) hf_5 (hts (.fieldLink RX4 18 "DayBench$Spans" "size" "I") (by decide +kernel)) (fun _ h9 => h9) dX4_add_44 ?_
      refine lv_iload hx hb dX4_add_47 (lv_at hl 0 rfl) ?_
      refine tp_iast hx hb hN hK hw hm_b_17 2 ht_b_17 rfl (n := 10) (fun _ => rfl) (vp_in_nI (by omega) (by omega)) dX4_add_49 (fun H locs f hw ho_18 => ?_)
      have hf_5 : fld (f h0) 2 = some (.int (nI k_7)) := by rw [ho_18 h0 (tne ht_h0 ht_b_17 (by decide))]; exact hf_5
      have hf_10 : fld (f h0) 0 = some (.ref b_12) := by rw [ho_18 h0 (tne ht_h0 ht_b_17 (by decide))]; exact hf_10
      have hf_15 : fld (f h0) 1 = some (.ref b_17) := by rw [ho_18 h0 (tne ht_h0 ht_b_17 (by decide))]; exact hf_15
      clear ho_18
      refine lv_aload_n hx hb dX4_add_50 rfl (lv_at hl 2 rfl) ?_
      refine lv_dup hx hb dX4_add_51 rfl ?_
      refine tp_getK (ci := 3) (C := RX4) (T := TX4) (N := 3) hx hb hts hin_X4 hown hK hw hm_h0 1 ht_h0 (fun _ => rfl) rfl 2 (by decide) hf_5 (hts (.fieldLink RX4 18 "DayBench$Spans" "size" "I") (by decide +kernel)) (fun _ h9 => h9) dX4_add_52 ?_
      refine lv_iconst (v := 1) hx hb dX4_add_55 (by decide) ?_
      refine lv_iadd hx hb dX4_add_56 ?_
      refine lv_topi (fun x_19 ex_19 => ?_)
      have ex_19 : x_19 = nI (k_7 + 1) := ex_19.trans (nI_1 _)
      subst ex_19
      refine tp_put (ci := 3) (C := RX4) (T := TX4) (N := 3) (v := .int (nI (k_7 + 1))) (ty := .int) hx hb hts hin_X4 tyX4 tyX4_ok nmX4 hown hN hK hw hm_h0 1 ht_h0 rfl (fun _ => rfl) rfl 2 (by decide) rfl (hts (.fieldLink RX4 18 "DayBench$Spans" "size" "I") (by decide +kernel)) (fun _ h9 => h9) rfl (by decide +kernel) rfl rfl ⟨(k_7 + 1), rfl, by omega⟩ dX4_add_57 (fun H locs f hw ho_20 hn_21 hs_22 => ?_)
      have hf_10 := (hs_22 0 (by decide)).trans hf_10
      have hf_15 := (hs_22 1 (by decide)).trans hf_15
      clear ho_20 hs_22 hn_21
      subst hQ
      have hI9 := hw.2.1
      have hF9 := hw.2.2.1
      have hS9 := hw.2.2.2
      rw [hf0] at hF9
      exact W.vret hx hb hr (fun t ht hW => ⟨⟨_, rfl, ⟨hI9, hF9⟩, hw.at ht⟩, hS9.F ht⟩) hS9.2.2 dX4_add_60

set_option maxHeartbeats 4000000 in
set_option maxRecDepth 100000 in
theorem k_X4_setToCommon (l : Launch) (dC : Nat → ClassId) (dI : Nat → Nat → Nat) (cI cS cP cA : ClassId) (L : List Nat) (tg : Nat → Nat) (f : Nat → va_E) (hN : L.Nodup) (hT : ∀ a : Nat, a ∈ L → tg a < 13) (hI : PI cI cS cP cA L tg f) (h0 : Nat) (hm_h0 : h0 ∈ L) (ht_h0 : tg h0 = 1) (a1 : Nat) (hm_a1 : a1 ∈ L) (ht_a1 : tg a1 = 1) (a2 : Nat) (hm_a2 : a2 ∈ L) (ht_a2 : tg a2 = 1) : Met l yX4_setToCommon wsX4_setToCommon ({ frames := 2, cells := 0, slots := 0, locals := 37 }) (va_Pc [.ref h0, .ref a1, .ref a2] (tPre dC dI cI cS cP cA L f)) (va_Qv (fun (f' : Nat → va_E) => PI cI cS cP cA L tg f' ∧ Fr L tg (fun t => t == 1 || t == 2) f f') (fun (f' : Nat → va_E) t => va_P (dC, dI) vwCl (va_pl L f') t.heap) (fun q : Nat => q ∈ L)) 0 0 (fun q : Nat => q ∈ L) := by
  refine Met.ofW (cc := cX4_setToCommon) (maxL := 5) (ret := none) (by decide) rfl ?_
  intro p e s m args below meth c s₁ B hml hv
  obtain ⟨rfl, hP, hK, hcm⟩ := hv
  have hx := B.exec
  have hb := B.bytes
  have hr := B.returns
  have hts := atoms_spec (ws := wsX4_setToCommon) B.pre
  have hown : s.vm.findClass RX4 = some m.cls := findClass_of_methodNamed B.named
  have hlocks := B.notSynchronized
  have hin_X4 : ∀ w ∈ u_ws RX4 TX4 3, w ∈ wsX4_setToCommon := by decide +kernel
  have hl := lv_entry ([.ref h0, .ref a1, .ref a2]) (n := 5) (Nat.le_of_ble_eq_true rfl)
  rw [lg_entry_eq]
  generalize (lg_sl ([.ref h0, .ref a1, .ref a2]) ++ List.replicate (5 - (lg_sl ([.ref h0, .ref a1, .ref a2])).length) Slot.unset).toArray = ls at hl ⊢
  have hl : lv_has ls 5 [(0, .ref h0), (1, .ref a1), (2, .ref a2)] := hl
  generalize hQ : MQ below (va_Qv (fun (f' : Nat → va_E) => PI cI cS cP cA L tg f' ∧ Fr L tg (fun t => t == 1 || t == 2) f f') (fun (f' : Nat → va_E) t => va_P (dC, dI) vwCl (va_pl L f') t.heap) (fun q : Nat => q ∈ L)) [.ref h0, .ref a1, .ref a2].toArray s 0 0 (fun q : Nat => q ∈ L) = Q
  obtain ⟨f0, hf0⟩ : ∃ g : Nat → va_E, g = f := ⟨_, rfl⟩
  have hw : PW dC dI cI cS cP cA L tg (fun t => t == 1 || t == 2) f0 s.heap f s.heap [] := by rw [hf0]; exact PW.start hP hI
  clear hP
  refine lv_aload_n hx hb dX4_setToCommon_0 rfl (lv_at hl 0 rfl) ?_
  refine va_callv (va_runV (As := []) (rest := []) ⟨hx, hb, hml, hown, hts⟩ (k_X4_clear l dC dI cI cS cP cA L tg f hN hT hw.2.1 h0 hm_h0 ht_h0) (cwV 0 hts gX4_setToCommon_X4_clear rfl rfl rfl (by decide +kernel) ⟨Nat.le_of_ble_eq_true rfl, Nat.le_of_ble_eq_true rfl⟩) ⟨tPre_blind, tp_recv hK hw hm_h0 1 ht_h0 (ci := 3) (fun _ => rfl) rfl, fun U hU hW => ⟨rfl, tPre_at hw hK hcm hU hW⟩⟩ rfl rfl hl.1 rfl (lv_room (Nat.le_of_ble_eq_true rfl)) dX4_setToCommon_1 ⟨Nat.le_of_ble_eq_true rfl, Nat.le_of_ble_eq_true rfl⟩) hw.2.2.2 (fun q _ h => h) (fun q h => h) (fun f t H locs ht hvm hp hB hz1 hk1 hS1 => ?_)
  obtain ⟨hI1, hF1⟩ := hp
  have hw := hw.back (S' := (fun t => t == 1)) (by decide) hT hI1 hF1 hB ht hS1
  clear hI1 hF1 hB ht hz1 hk1 hS1 hvm
  refine lv_iconst (v := 0) hx hb dX4_setToCommon_4 (by decide) ?_
  refine lv_istore_n (lv' := [(3, .int 0), (0, .ref h0), (1, .ref a1), (2, .ref a2)]) hx hb dX4_setToCommon_5 rfl hl (by decide) rfl (fun ls hl => ?_)
  refine lv_iconst (v := 0) hx hb dX4_setToCommon_6 (by decide) ?_
  refine lv_istore (lv' := [(4, .int 0), (3, .int 0), (0, .ref h0), (1, .ref a1), (2, .ref a2)]) hx hb dX4_setToCommon_7 hl (by decide) rfl (fun ls hl => ?_)
  have hl_9 : ∀ (fu : Nat) (i : Nat) (j : Nat), 20 - i - j < fu → (i ≤ 10) → (j ≤ 10) → ∀ (f : Nat → va_E) (H : Heap) (locs : List Loc) (ls : Array Slot), PW dC dI cI cS cP cA L tg (fun t => t == 1 || t == 2) f0 s.heap f H locs → lv_has ls 5 [(4, .int (nI j)), (3, .int (nI i)), (0, .ref h0), (1, .ref a1), (2, .ref a2)] → W p l e (headSpec wsX4_setToCommon ({ frames := 2, cells := 0, slots := 0, locals := 37 })).room s m [.ref h0, .ref a1, .ref a2].toArray below meth c H locs 0 0 Q (F0 m 9 ls []) := by
    intro fu
    induction fu with
    | zero => intro i j hm9; exact absurd hm9 (Nat.not_lt_zero _)
    | succ fu ih_9 =>
      intro i j hm_9 h_i h_j f H locs ls hw hl
      refine lv_iload_n hx hb dX4_setToCommon_9 rfl (lv_at hl 1 rfl) ?_
      refine lv_aload_n hx hb dX4_setToCommon_10 rfl (lv_at hl 3 rfl) ?_
      refine tp_get (ci := 3) (C := RX4) (T := TX4) (N := 3) hx hb hts hin_X4 hown hK hw hm_a1 1 ht_a1 (fun _ => rfl) rfl 2 (by decide) rfl (hts (.fieldLink RX4 18 "DayBench$Spans" "size" "I") (by decide +kernel)) (fun _ h9 => h9) dX4_setToCommon_11 (fun v_2 hf_3 hv_4 => ?_)
      obtain ⟨k_5, ek_5, hk_k_5⟩ := hv_4
      subst ek_5
      clear hf_3
      refine lv_icmp_ge (tgt := 90) hx hb dX4_setToCommon_14 (by decide) (fun h_6 => ?_) (fun h_6 => ?_)
      · have nh_6 : k_5 ≤ i := (nI_leI (a := k_5) (b := i) (by omega) (by omega)).mp h_6
        subst hQ
        have hI9 := hw.2.1
        have hF9 := hw.2.2.1
        have hS9 := hw.2.2.2
        rw [hf0] at hF9
        exact W.vret hx hb hr (fun t ht hW => ⟨⟨_, rfl, ⟨hI9, hF9⟩, hw.at ht⟩, hS9.F ht⟩) hS9.2.2 dX4_setToCommon_90
      · have nh_6 : ¬ k_5 ≤ i := fun q9 => h_6 ((nI_leI (a := k_5) (b := i) (by omega) (by omega)).mpr q9)
        refine lv_iload hx hb dX4_setToCommon_17 (lv_at hl 0 rfl) ?_
        refine lv_aload_n hx hb dX4_setToCommon_19 rfl (lv_at hl 4 rfl) ?_
        refine tp_get (ci := 3) (C := RX4) (T := TX4) (N := 3) hx hb hts hin_X4 hown hK hw hm_a2 1 ht_a2 (fun _ => rfl) rfl 2 (by decide) rfl (hts (.fieldLink RX4 18 "DayBench$Spans" "size" "I") (by decide +kernel)) (fun _ h9 => h9) dX4_setToCommon_20 (fun v_7 hf_8 hv_9 => ?_)
        obtain ⟨k_10, ek_10, hk_k_10⟩ := hv_9
        subst ek_10
        clear hf_8
        refine lv_icmp_ge (tgt := 90) hx hb dX4_setToCommon_23 (by decide) (fun h_11 => ?_) (fun h_11 => ?_)
        · have nh_11 : k_10 ≤ j := (nI_leI (a := k_10) (b := j) (by omega) (by omega)).mp h_11
          subst hQ
          have hI9 := hw.2.1
          have hF9 := hw.2.2.1
          have hS9 := hw.2.2.2
          rw [hf0] at hF9
          exact W.vret hx hb hr (fun t ht hW => ⟨⟨_, rfl, ⟨hI9, hF9⟩, hw.at ht⟩, hS9.F ht⟩) hS9.2.2 dX4_setToCommon_90
        · have nh_11 : ¬ k_10 ≤ j := fun q9 => h_11 ((nI_leI (a := k_10) (b := j) (by omega) (by omega)).mpr q9)
          refine lv_aload_n hx hb dX4_setToCommon_26 rfl (lv_at hl 2 rfl) ?_
          refine lv_aload_n hx hb dX4_setToCommon_27 rfl (lv_at hl 3 rfl) ?_
          refine tp_get (ci := 3) (C := RX4) (T := TX4) (N := 3) hx hb hts hin_X4 hown hK hw hm_a1 1 ht_a1 (fun _ => rfl) rfl 0 (by decide) rfl (hts (.fieldLink RX4 9 "DayBench$Spans" "from" "[I") (by decide +kernel)) (fun _ h9 => h9) dX4_setToCommon_28 (fun v_12 hf_13 hv_14 => ?_)
          obtain ⟨b_15, eb_15, hm_b_15, ht_b_15⟩ := hv_14
          subst eb_15
          refine lv_iload_n hx hb dX4_setToCommon_31 rfl (lv_at hl 1 rfl) ?_
          refine tp_iald hx hb hK hw hm_b_15 2 ht_b_15 (n := 10) (fun _ => rfl) (vp_in_nI (by omega) (by omega)) dX4_setToCommon_32 (fun y_16 => ?_)
          refine lv_aload_n hx hb dX4_setToCommon_33 rfl (lv_at hl 4 rfl) ?_
          refine tp_get (ci := 3) (C := RX4) (T := TX4) (N := 3) hx hb hts hin_X4 hown hK hw hm_a2 1 ht_a2 (fun _ => rfl) rfl 0 (by decide) rfl (hts (.fieldLink RX4 9 "DayBench$Spans" "from" "[I") (by decide +kernel)) (fun _ h9 => h9) dX4_setToCommon_34 (fun v_17 hf_18 hv_19 => ?_)
          obtain ⟨b_20, eb_20, hm_b_20, ht_b_20⟩ := hv_19
          subst eb_20
          refine lv_iload hx hb dX4_setToCommon_37 (lv_at hl 0 rfl) ?_
          refine tp_iald hx hb hK hw hm_b_20 2 ht_b_20 (n := 10) (fun _ => rfl) (vp_in_nI (by omega) (by omega)) dX4_setToCommon_39 (fun y_21 => ?_)
          refine va_mmax (own := RX4) (x := y_16) (y := y_21) hx hb (hml.trans hl.1.symm) hown (hts (.methodLink RX4 22 Lib.Math.max.name) (by decide +kernel)) (hts (.static Lib.Math.max.name) (by decide +kernel)) (hts (.initialized "java/lang/Math") (by decide +kernel)) (hts (.code Lib.Math.max.name Lib.Math.max.code 2 (some .int)) (by decide +kernel)) (Nat.le_of_ble_eq_true rfl) (Nat.le_of_ble_eq_true rfl) (Nat.le_of_ble_eq_true rfl) (Nat.le_of_ble_eq_true rfl) dX4_setToCommon_40 ?_
          refine lv_aload_n hx hb dX4_setToCommon_43 rfl (lv_at hl 3 rfl) ?_
          refine tp_get (ci := 3) (C := RX4) (T := TX4) (N := 3) hx hb hts hin_X4 hown hK hw hm_a1 1 ht_a1 (fun _ => rfl) rfl 1 (by decide) rfl (hts (.fieldLink RX4 15 "DayBench$Spans" "to" "[I") (by decide +kernel)) (fun _ h9 => h9) dX4_setToCommon_44 (fun v_22 hf_23 hv_24 => ?_)
          obtain ⟨b_25, eb_25, hm_b_25, ht_b_25⟩ := hv_24
          subst eb_25
          refine lv_iload_n hx hb dX4_setToCommon_47 rfl (lv_at hl 1 rfl) ?_
          refine tp_iald hx hb hK hw hm_b_25 2 ht_b_25 (n := 10) (fun _ => rfl) (vp_in_nI (by omega) (by omega)) dX4_setToCommon_48 (fun y_26 => ?_)
          refine lv_aload_n hx hb dX4_setToCommon_49 rfl (lv_at hl 4 rfl) ?_
          refine tp_get (ci := 3) (C := RX4) (T := TX4) (N := 3) hx hb hts hin_X4 hown hK hw hm_a2 1 ht_a2 (fun _ => rfl) rfl 1 (by decide) rfl (hts (.fieldLink RX4 15 "DayBench$Spans" "to" "[I") (by decide +kernel)) (fun _ h9 => h9) dX4_setToCommon_50 (fun v_27 hf_28 hv_29 => ?_)
          obtain ⟨b_30, eb_30, hm_b_30, ht_b_30⟩ := hv_29
          subst eb_30
          refine lv_iload hx hb dX4_setToCommon_53 (lv_at hl 0 rfl) ?_
          refine tp_iald hx hb hK hw hm_b_30 2 ht_b_30 (n := 10) (fun _ => rfl) (vp_in_nI (by omega) (by omega)) dX4_setToCommon_55 (fun y_31 => ?_)
          refine va_mmin (own := RX4) (x := y_26) (y := y_31) hx hb (hml.trans hl.1.symm) hown (hts (.methodLink RX4 29 Lib.Math.min.name) (by decide +kernel)) (hts (.static Lib.Math.min.name) (by decide +kernel)) (hts (.initialized "java/lang/Math") (by decide +kernel)) (hts (.code Lib.Math.min.name Lib.Math.min.code 2 (some .int)) (by decide +kernel)) (Nat.le_of_ble_eq_true rfl) (Nat.le_of_ble_eq_true rfl) (Nat.le_of_ble_eq_true rfl) (Nat.le_of_ble_eq_true rfl) dX4_setToCommon_56 ?_
          refine va_callv (va_runV (As := [.int (if y_16 < y_21 then y_21 else y_16), .int (if y_31 < y_26 then y_31 else y_26)]) (rest := []) ⟨hx, hb, hml, hown, hts⟩ (k_X4_add l dC dI cI cS cP cA L tg f hN hT hw.2.1 h0 hm_h0 ht_h0 (if y_16 < y_21 then y_21 else y_16) (if y_31 < y_26 then y_31 else y_26)) (cwV 2 hts gX4_setToCommon_X4_add rfl rfl rfl (by decide +kernel) ⟨Nat.le_of_ble_eq_true rfl, Nat.le_of_ble_eq_true rfl⟩) ⟨tPre_blind, tp_recv hK hw hm_h0 1 ht_h0 (ci := 3) (fun _ => rfl) rfl, fun U hU hW => ⟨rfl, tPre_at hw hK hcm hU hW⟩⟩ rfl rfl hl.1 rfl (lv_room (Nat.le_of_ble_eq_true rfl)) dX4_setToCommon_59 ⟨Nat.le_of_ble_eq_true rfl, Nat.le_of_ble_eq_true rfl⟩) hw.2.2.2 (fun q _ h => h) (fun q h => h) (fun f t H locs ht hvm hp hB hz1 hk1 hS1 => ?_)
          obtain ⟨hI1, hF1⟩ := hp
          have hw := hw.back (S' := (fun t => t == 1 || t == 2)) (by decide) hT hI1 hF1 hB ht hS1
          clear hI1 hF1 hB ht hz1 hk1 hS1 hvm
          refine lv_aload_n hx hb dX4_setToCommon_62 rfl (lv_at hl 3 rfl) ?_
          refine tp_get (ci := 3) (C := RX4) (T := TX4) (N := 3) hx hb hts hin_X4 hown hK hw hm_a1 1 ht_a1 (fun _ => rfl) rfl 1 (by decide) rfl (hts (.fieldLink RX4 15 "DayBench$Spans" "to" "[I") (by decide +kernel)) (fun _ h9 => h9) dX4_setToCommon_63 (fun v_33 hf_34 hv_35 => ?_)
          obtain ⟨b_36, eb_36, hm_b_36, ht_b_36⟩ := hv_35
          subst eb_36
          refine lv_iload_n hx hb dX4_setToCommon_66 rfl (lv_at hl 1 rfl) ?_
          refine tp_iald hx hb hK hw hm_b_36 2 ht_b_36 (n := 10) (fun _ => rfl) (vp_in_nI (by omega) (by omega)) dX4_setToCommon_67 (fun y_37 => ?_)
          refine lv_aload_n hx hb dX4_setToCommon_68 rfl (lv_at hl 4 rfl) ?_
          refine tp_get (ci := 3) (C := RX4) (T := TX4) (N := 3) hx hb hts hin_X4 hown hK hw hm_a2 1 ht_a2 (fun _ => rfl) rfl 1 (by decide) rfl (hts (.fieldLink RX4 15 "DayBench$Spans" "to" "[I") (by decide +kernel)) (fun _ h9 => h9) dX4_setToCommon_69 (fun v_38 hf_39 hv_40 => ?_)
          obtain ⟨b_41, eb_41, hm_b_41, ht_b_41⟩ := hv_40
          subst eb_41
          refine lv_iload hx hb dX4_setToCommon_72 (lv_at hl 0 rfl) ?_
          refine tp_iald hx hb hK hw hm_b_41 2 ht_b_41 (n := 10) (fun _ => rfl) (vp_in_nI (by omega) (by omega)) dX4_setToCommon_74 (fun y_42 => ?_)
          refine lv_icmp_ge (tgt := 84) hx hb dX4_setToCommon_75 (by decide) (fun h_43 => ?_) (fun h_43 => ?_)
          · refine lv_iinc (v := nI (j + 1)) (lv' := [(4, .int (nI (j + 1))), (3, .int (nI i)), (0, .ref h0), (1, .ref a1), (2, .ref a2)]) hx hb dX4_setToCommon_84 hl (k := 0) rfl (nI_1 _) (by decide) rfl (fun ls hl => ?_)
            refine lv_goto (tgt := 9) hx hb dX4_setToCommon_87 (by decide) ?_
            exact ih_9 i ((j + 1)) (by omega) (by omega) (by omega) _ _ _ ls hw (lv_sub hl [0, 1, 2, 3, 4] rfl)
          · refine lv_iinc (v := nI (i + 1)) (lv' := [(3, .int (nI (i + 1))), (4, .int (nI j)), (0, .ref h0), (1, .ref a1), (2, .ref a2)]) hx hb dX4_setToCommon_78 hl (k := 1) rfl (nI_1 _) (by decide) rfl (fun ls hl => ?_)
            refine lv_goto (tgt := 9) hx hb dX4_setToCommon_81 (by decide) ?_
            exact ih_9 ((i + 1)) j (by omega) (by omega) (by omega) _ _ _ ls hw (lv_sub hl [1, 0, 2, 3, 4] rfl)
  exact hl_9 _ 0 0 (Nat.lt_succ_self _) (by omega) (by omega) _ _ _ ls hw (lv_sub hl [0, 1, 2, 3, 4] rfl)

set_option maxHeartbeats 4000000 in
set_option maxRecDepth 100000 in
theorem k_X1_begin (l : Launch) (dC : Nat → ClassId) (dI : Nat → Nat → Nat) (cI cS cP cA : ClassId) (L : List Nat) (tg : Nat → Nat) (f : Nat → va_E) (hN : L.Nodup) (hT : ∀ a : Nat, a ∈ L → tg a < 13) (hI : PI cI cS cP cA L tg f) (h0 : Nat) (hm_h0 : h0 ∈ L) (ht_h0 : tg h0 = 0) (k0 : Nat) (h_k0 : k0 ≤ 5) (p1 : Int32) (p2 : Int32) : Met l yX1_begin wsX1_begin ({ frames := 0, cells := 0, slots := 0, locals := 0 }) (va_Pc [.ref h0, .int (nI k0), .int p1, .int p2] (tPre dC dI cI cS cP cA L f)) (va_Qv (fun (f' : Nat → va_E) => PI cI cS cP cA L tg f' ∧ Fr L tg (fun t => t == 0) f f') (fun (f' : Nat → va_E) t => va_P (dC, dI) vwCl (va_pl L f') t.heap) (fun q : Nat => q ∈ L)) 0 0 (fun q : Nat => q ∈ L) := by
  refine Met.ofW (cc := cX1_begin) (maxL := 4) (ret := none) (by decide) rfl ?_
  intro p e s m args below meth c s₁ B hml hv
  obtain ⟨rfl, hP, hK, hcm⟩ := hv
  have hx := B.exec
  have hb := B.bytes
  have hr := B.returns
  have hts := atoms_spec (ws := wsX1_begin) B.pre
  have hown : s.vm.findClass RX1 = some m.cls := findClass_of_methodNamed B.named
  have hlocks := B.notSynchronized
  have hin_X1 : ∀ w ∈ u_ws RX1 TX1 9, w ∈ wsX1_begin := by decide +kernel
  have hl := lv_entry ([.ref h0, .int (nI k0), .int p1, .int p2]) (n := 4) (Nat.le_of_ble_eq_true rfl)
  rw [lg_entry_eq]
  generalize (lg_sl ([.ref h0, .int (nI k0), .int p1, .int p2]) ++ List.replicate (4 - (lg_sl ([.ref h0, .int (nI k0), .int p1, .int p2])).length) Slot.unset).toArray = ls at hl ⊢
  have hl : lv_has ls 4 [(0, .ref h0), (1, .int (nI k0)), (2, .int p1), (3, .int p2)] := hl
  generalize hQ : MQ below (va_Qv (fun (f' : Nat → va_E) => PI cI cS cP cA L tg f' ∧ Fr L tg (fun t => t == 0) f f') (fun (f' : Nat → va_E) t => va_P (dC, dI) vwCl (va_pl L f') t.heap) (fun q : Nat => q ∈ L)) [.ref h0, .int (nI k0), .int p1, .int p2].toArray s 0 0 (fun q : Nat => q ∈ L) = Q
  obtain ⟨f0, hf0⟩ : ∃ g : Nat → va_E, g = f := ⟨_, rfl⟩
  have hw : PW dC dI cI cS cP cA L tg (fun t => t == 0) f0 s.heap f s.heap [] := by rw [hf0]; exact PW.start hP hI
  clear hP
  refine lv_aload_n hx hb dX1_begin_0 rfl (lv_at hl 0 rfl) ?_
  refine lv_iload_n hx hb dX1_begin_1 rfl (lv_at hl 1 rfl) ?_
  refine tp_put (ci := 0) (C := RX1) (T := TX1) (N := 9) (v := .int (nI k0)) (ty := .int) hx hb hts hin_X1 tyX1 tyX1_ok nmX1 hown hN hK hw hm_h0 0 ht_h0 rfl (fun _ => rfl) rfl 1 (by decide) rfl (hts (.fieldLink RX1 18 "DayBench$Saying" "event" "I") (by decide +kernel)) (fun _ h9 => h9) rfl (by decide +kernel) rfl rfl ⟨k0, rfl, by omega⟩ dX1_begin_2 (fun H locs f hw ho_1 hn_2 hs_3 => ?_)
  clear ho_1 hs_3 hn_2
  refine lv_aload_n hx hb dX1_begin_5 rfl (lv_at hl 0 rfl) ?_
  refine lv_iload_n hx hb dX1_begin_6 rfl (lv_at hl 2 rfl) ?_
  refine tp_put (ci := 0) (C := RX1) (T := TX1) (N := 9) (v := .int p1) (ty := .int) hx hb hts hin_X1 tyX1 tyX1_ok nmX1 hown hN hK hw hm_h0 0 ht_h0 rfl (fun _ => rfl) rfl 2 (by decide) rfl (hts (.fieldLink RX1 22 "DayBench$Saying" "what" "I") (by decide +kernel)) (fun _ h9 => h9) rfl (by decide +kernel) rfl rfl ⟨_, rfl⟩ dX1_begin_7 (fun H locs f hw ho_4 hn_5 hs_6 => ?_)
  clear ho_4 hs_6 hn_5
  refine lv_aload_n hx hb dX1_begin_10 rfl (lv_at hl 0 rfl) ?_
  refine lv_iload_n hx hb dX1_begin_11 rfl (lv_at hl 3 rfl) ?_
  refine tp_put (ci := 0) (C := RX1) (T := TX1) (N := 9) (v := .int p2) (ty := .int) hx hb hts hin_X1 tyX1 tyX1_ok nmX1 hown hN hK hw hm_h0 0 ht_h0 rfl (fun _ => rfl) rfl 3 (by decide) rfl (hts (.fieldLink RX1 25 "DayBench$Saying" "weight" "I") (by decide +kernel)) (fun _ h9 => h9) rfl (by decide +kernel) rfl rfl ⟨_, rfl⟩ dX1_begin_12 (fun H locs f hw ho_7 hn_8 hs_9 => ?_)
  clear ho_7 hs_9 hn_8
  refine lv_aload_n hx hb dX1_begin_15 rfl (lv_at hl 0 rfl) ?_
  refine lv_iconst (v := 1) hx hb dX1_begin_16 (by decide) ?_
  refine tp_put (ci := 0) (C := RX1) (T := TX1) (N := 9) (v := .int 1) (ty := .boolean) hx hb hts hin_X1 tyX1 tyX1_ok nmX1 hown hN hK hw hm_h0 0 ht_h0 rfl (fun _ => rfl) rfl 4 (by decide) rfl (hts (.fieldLink RX1 28 "DayBench$Saying" "taken" "Z") (by decide +kernel)) (fun _ h9 => h9) rfl (by decide +kernel) rfl rfl ⟨_, rfl, Or.inr rfl⟩ dX1_begin_17 (fun H locs f hw ho_10 hn_11 hs_12 => ?_)
  clear ho_10 hs_12 hn_11
  refine lv_aload_n hx hb dX1_begin_20 rfl (lv_at hl 0 rfl) ?_
  refine lv_iconst (v := (-1)) hx hb dX1_begin_21 (by decide) ?_
  refine tp_put (ci := 0) (C := RX1) (T := TX1) (N := 9) (v := .int ((-1))) (ty := .int) hx hb hts hin_X1 tyX1 tyX1_ok nmX1 hown hN hK hw hm_h0 0 ht_h0 rfl (fun _ => rfl) rfl 5 (by decide) rfl (hts (.fieldLink RX1 32 "DayBench$Saying" "copyOf" "I") (by decide +kernel)) (fun _ h9 => h9) rfl (by decide +kernel) rfl rfl ⟨_, rfl, Or.inl rfl⟩ dX1_begin_22 (fun H locs f hw ho_13 hn_14 hs_15 => ?_)
  clear ho_13 hs_15 hn_14
  subst hQ
  have hI9 := hw.2.1
  have hF9 := hw.2.2.1
  have hS9 := hw.2.2.2
  rw [hf0] at hF9
  exact W.vret hx hb hr (fun t ht hW => ⟨⟨_, rfl, ⟨hI9, hF9⟩, hw.at ht⟩, hS9.F ht⟩) hS9.2.2 dX1_begin_25

set_option maxHeartbeats 4000000 in
set_option maxRecDepth 100000 in
theorem k_X1_setBehind (l : Launch) (dC : Nat → ClassId) (dI : Nat → Nat → Nat) (cI cS cP cA : ClassId) (L : List Nat) (tg : Nat → Nat) (f : Nat → va_E) (hN : L.Nodup) (hT : ∀ a : Nat, a ∈ L → tg a < 13) (hI : PI cI cS cP cA L tg f) (h0 : Nat) (hm_h0 : h0 ∈ L) (ht_h0 : tg h0 = 0) (p0 : Int32) (p1 : Int32) (k2 : Nat) (h_k2 : k2 ≤ 5) : Met l yX1_setBehind wsX1_setBehind ({ frames := 0, cells := 0, slots := 0, locals := 0 }) (va_Pc [.ref h0, .int p0, .int p1, .int (nI k2)] (tPre dC dI cI cS cP cA L f)) (va_Qv (fun (f' : Nat → va_E) => PI cI cS cP cA L tg f' ∧ Fr L tg (fun t => t == 0) f f') (fun (f' : Nat → va_E) t => va_P (dC, dI) vwCl (va_pl L f') t.heap) (fun q : Nat => q ∈ L)) 0 0 (fun q : Nat => q ∈ L) := by
  refine Met.ofW (cc := cX1_setBehind) (maxL := 4) (ret := none) (by decide) rfl ?_
  intro p e s m args below meth c s₁ B hml hv
  obtain ⟨rfl, hP, hK, hcm⟩ := hv
  have hx := B.exec
  have hb := B.bytes
  have hr := B.returns
  have hts := atoms_spec (ws := wsX1_setBehind) B.pre
  have hown : s.vm.findClass RX1 = some m.cls := findClass_of_methodNamed B.named
  have hlocks := B.notSynchronized
  have hin_X1 : ∀ w ∈ u_ws RX1 TX1 9, w ∈ wsX1_setBehind := by decide +kernel
  have hl := lv_entry ([.ref h0, .int p0, .int p1, .int (nI k2)]) (n := 4) (Nat.le_of_ble_eq_true rfl)
  rw [lg_entry_eq]
  generalize (lg_sl ([.ref h0, .int p0, .int p1, .int (nI k2)]) ++ List.replicate (4 - (lg_sl ([.ref h0, .int p0, .int p1, .int (nI k2)])).length) Slot.unset).toArray = ls at hl ⊢
  have hl : lv_has ls 4 [(0, .ref h0), (1, .int p0), (2, .int p1), (3, .int (nI k2))] := hl
  generalize hQ : MQ below (va_Qv (fun (f' : Nat → va_E) => PI cI cS cP cA L tg f' ∧ Fr L tg (fun t => t == 0) f f') (fun (f' : Nat → va_E) t => va_P (dC, dI) vwCl (va_pl L f') t.heap) (fun q : Nat => q ∈ L)) [.ref h0, .int p0, .int p1, .int (nI k2)].toArray s 0 0 (fun q : Nat => q ∈ L) = Q
  obtain ⟨f0, hf0⟩ : ∃ g : Nat → va_E, g = f := ⟨_, rfl⟩
  have hw : PW dC dI cI cS cP cA L tg (fun t => t == 0) f0 s.heap f s.heap [] := by rw [hf0]; exact PW.start hP hI
  clear hP
  refine lv_aload_n hx hb dX1_setBehind_0 rfl (lv_at hl 0 rfl) ?_
  refine lv_iload_n hx hb dX1_setBehind_1 rfl (lv_at hl 1 rfl) ?_
  refine tp_put (ci := 0) (C := RX1) (T := TX1) (N := 9) (v := .int p0) (ty := .int) hx hb hts hin_X1 tyX1 tyX1_ok nmX1 hown hN hK hw hm_h0 0 ht_h0 rfl (fun _ => rfl) rfl 6 (by decide) rfl (hts (.fieldLink RX1 35 "DayBench$Saying" "leastBehind" "I") (by decide +kernel)) (fun _ h9 => h9) rfl (by decide +kernel) rfl rfl ⟨_, rfl⟩ dX1_setBehind_2 (fun H locs f hw ho_1 hn_2 hs_3 => ?_)
  clear ho_1 hs_3 hn_2
  refine lv_aload_n hx hb dX1_setBehind_5 rfl (lv_at hl 0 rfl) ?_
  refine lv_iload_n hx hb dX1_setBehind_6 rfl (lv_at hl 2 rfl) ?_
  refine tp_put (ci := 0) (C := RX1) (T := TX1) (N := 9) (v := .int p1) (ty := .int) hx hb hts hin_X1 tyX1 tyX1_ok nmX1 hown hN hK hw hm_h0 0 ht_h0 rfl (fun _ => rfl) rfl 7 (by decide) rfl (hts (.fieldLink RX1 38 "DayBench$Saying" "mostBehind" "I") (by decide +kernel)) (fun _ h9 => h9) rfl (by decide +kernel) rfl rfl ⟨_, rfl⟩ dX1_setBehind_7 (fun H locs f hw ho_4 hn_5 hs_6 => ?_)
  clear ho_4 hs_6 hn_5
  refine lv_aload_n hx hb dX1_setBehind_10 rfl (lv_at hl 0 rfl) ?_
  refine lv_iload_n hx hb dX1_setBehind_11 rfl (lv_at hl 3 rfl) ?_
  refine tp_put (ci := 0) (C := RX1) (T := TX1) (N := 9) (v := .int (nI k2)) (ty := .int) hx hb hts hin_X1 tyX1 tyX1_ok nmX1 hown hN hK hw hm_h0 0 ht_h0 rfl (fun _ => rfl) rfl 8 (by decide) rfl (hts (.fieldLink RX1 41 "DayBench$Saying" "behindEvent" "I") (by decide +kernel)) (fun _ h9 => h9) rfl (by decide +kernel) rfl rfl ⟨k2, rfl, by omega⟩ dX1_setBehind_12 (fun H locs f hw ho_7 hn_8 hs_9 => ?_)
  clear ho_7 hs_9 hn_8
  subst hQ
  have hI9 := hw.2.1
  have hF9 := hw.2.2.1
  have hS9 := hw.2.2.2
  rw [hf0] at hF9
  exact W.vret hx hb hr (fun t ht hW => ⟨⟨_, rfl, ⟨hI9, hF9⟩, hw.at ht⟩, hS9.F ht⟩) hS9.2.2 dX1_setBehind_15

